/-! ===== BentPlainModel.word()J ===== -/
def fX6_word_7 {ρ : Type} (kx : Int64 → Option ρ) (M : Mem) : Nat → Int64 → Int32 → Option ρ
  | 0, _, _ => none
  | n + 1, y1, y3 => (if (M.1 49 10) ≤ y3 then (kx y1) else ((if (lg_cmp y1 (36028797018963967 : Int64)) ≤ 0 then ((ldI M 56 120 y3).bind fun v6 => some (((32 : Int64) * y1) + (((v6 - (96 : Int32))).toInt64))) else some y1).bind fun t4 => (fX6_word_7 kx M n t4 (y3 + (1 : Int32)))))
def fX6_word (M : Mem) : Option Int64 := (fX6_word_7 (fun u8 => (if (M.1 49 12) = 0 then ((fX6_byteAt (M.1 49 9) M).bind fun v10 => (if (fX6_isLetter v10) = 0 then some (0 : Int64) else some u8)) else some (0 : Int64))) M FU (0 : Int64) (M.1 49 9))
set_option maxRecDepth 100000 in
set_option maxHeartbeats 4000000 in
theorem tX6_word_7 {g : Wo} {ρ : Type} {kx : Int64 → Option ρ} {M : Mem} {r : ρ} {rr : Option Value} {Mr : Mem} (hk : ∀ (z1 : Int64), kx z1 = some r → V g kX6_word (jm g 2 rr Mr) 50 [some (.ref 49), some (.long z1), none, none] [] M) : ∀ (n : Nat) (y1 : Int64) (y3 : Int32), fX6_word_7 kx M n y1 y3 = some r → V g kX6_word (jm g 2 rr Mr) 7 [some (.ref 49), some (.long y1), none, some (.int y3)] [] M := by
  intro n
  induction n with
  | zero =>
    intro y1 y3 h
    rw [fX6_word_7] at h
    cases h
  | succ n ih =>
    intro y1 y3 h
    rw [fX6_word_7] at h
    refine v_iload_n dX6_word_7 rfl ?_
    refine v_aload_n dX6_word_8 rfl ?_
    refine v_geti dX6_word_9 flX6_194 sh_49 rfl ?_
    refine v_icmp_ge (tgt := 50) dX6_word_12 rfl (fun c1 => ?_) (fun c1 => ?_)
    · replace h := (if_pos c1).symm.trans h
      refine V.sub (ls' := [some (.ref 49), some (.long y1), none, none]) (And.intro rfl (And.intro rfl trivial)) ?_
      exact hk _ h
    · replace h := (if_neg c1).symm.trans h
      refine v_lload_n dX6_word_15 rfl ?_
      refine v_ldc2 (v := 36028797018963967) dX6_word_16 w_1132 ?_
      refine v_lcmp dX6_word_19 ?_
      obtain ⟨t4, e5, h⟩ := Option.bind_eq_some_iff.mp h
      have hJ : V g kX6_word (jm g 2 rr Mr) 43 [some (.ref 49), none, none, some (.int y3)] [.long t4] M := by
        refine v_lstore_n (ls1 := [some (.ref 49), some (.long t4), none, some (.int y3)]) dX6_word_43 (Nat.le_of_ble_eq_true rfl) rfl ?_
        refine v_iinc (v := 1) (ls1 := [some (.ref 49), some (.long t4), none, some (.int (y3 + (1 : Int32)))]) dX6_word_44 rfl rfl (Nat.le_of_ble_eq_true rfl) rfl ?_
        refine v_goto (tgt := 7) dX6_word_47 rfl ?_
        refine V.sub (ls' := [some (.ref 49), some (.long t4), none, some (.int (y3 + (1 : Int32)))]) (And.intro rfl (And.intro rfl (And.intro rfl trivial))) ?_
        exact ih _ _ h
      clear h
      have h := e5
      clear e5
      refine v_if_le (tgt := 27) dX6_word_20 rfl (fun c3 => ?_) (fun c3 => ?_)
      · replace h := (if_pos c3).symm.trans h
        refine v_ldc2 (v := 32) dX6_word_27 w_1133 ?_
        refine v_lload_n dX6_word_30 rfl ?_
        refine v_lmul dX6_word_31 ?_
        refine v_aload_n dX6_word_32 rfl ?_
        refine v_getr dX6_word_33 flX6_28 sh_49 rfl ?_
        refine v_iload_n dX6_word_36 rfl ?_
        obtain ⟨v6, e7, h⟩ := Option.bind_eq_some_iff.mp h
        refine v_ild e7 dX6_word_37 sh_56 ?_
        refine v_bipush (v := 96) dX6_word_38 rfl ?_
        refine v_isub dX6_word_40 ?_
        refine v_i2l dX6_word_41 ?_
        refine v_ladd dX6_word_42 ?_
        replace h := Option.some.inj h; subst h
        refine V.sub (ls' := [some (.ref 49), none, none, some (.int y3)]) (And.intro rfl (And.intro rfl trivial)) ?_
        exact hJ
      · replace h := (if_neg c3).symm.trans h
        refine v_lload_n dX6_word_23 rfl ?_
        refine v_goto (tgt := 43) dX6_word_24 rfl ?_
        replace h := Option.some.inj h; subst h
        refine V.sub (ls' := [some (.ref 49), none, none, some (.int y3)]) (And.intro rfl (And.intro rfl trivial)) ?_
        exact hJ
set_option maxRecDepth 100000 in
set_option maxHeartbeats 4000000 in
theorem sX6_word {g : Wo} {M : Mem} {r : Int64} (h : fX6_word M = some r) : Sp g kX6_word 2 [.ref 49] M (some (.long r)) M := by
  rw [fX6_word] at h
  refine Sp_intro (by decide) [some (.ref 49), none, none, none] rfl (Nat.le_of_ble_eq_true rfl) ?_
  refine v_lconst (v := 0) dX6_word_0 rfl ?_
  refine v_lstore_n (ls1 := [some (.ref 49), some (.long (0 : Int64)), none, none]) dX6_word_1 (Nat.le_of_ble_eq_true rfl) rfl ?_
  refine v_aload_n dX6_word_2 rfl ?_
  refine v_geti dX6_word_3 flX6_197 sh_49 rfl ?_
  refine v_istore_n (ls1 := [some (.ref 49), some (.long (0 : Int64)), none, some (.int (M.1 49 9))]) dX6_word_6 (Nat.le_of_ble_eq_true rfl) rfl ?_
  refine V.sub (ls' := [some (.ref 49), some (.long (0 : Int64)), none, some (.int (M.1 49 9))]) (And.intro rfl (And.intro rfl (And.intro rfl trivial))) ?_
  refine tX6_word_7 (fun u8 h => ?_) FU _ _ h
  refine v_aload_n dX6_word_50 rfl ?_
  refine v_geti dX6_word_51 flX6_209 sh_49 rfl ?_
  refine v_if_ne (tgt := 71) dX6_word_54 rfl (fun c9 => ?_) (fun c9 => ?_)
  · replace h := (if_neg c9).symm.trans h
    refine v_lconst (v := 0) dX6_word_71 rfl ?_
    refine v_goto (tgt := 76) dX6_word_72 rfl ?_
    replace h := Option.some.inj h; subst h
    exact v_lret rfl dX6_word_76
  · replace h := (if_pos c9).symm.trans h
    refine v_aload_n dX6_word_57 rfl ?_
    refine v_aload_n dX6_word_58 rfl ?_
    refine v_geti dX6_word_59 flX6_197 sh_49 rfl ?_
    obtain ⟨v10, e11, h⟩ := Option.bind_eq_some_iff.mp h
    refine v_callV (as := [.int (M.1 49 9)]) (st := []) (sX6_byteAt e11) dX6_word_62 mlX6_200 (CRn (by decide) (by decide)) sh_49 rfl rfl rfl (Nat.le_of_ble_eq_true rfl) ?_
    refine v_callS (as := [.int v10]) (st := []) (sX6_isLetter rfl) dX6_word_65 mlX6_203 (CRn (by decide) (by decide)) rfl rfl (Nat.le_of_ble_eq_true rfl) ?_
    refine v_if_ne (tgt := 75) dX6_word_68 rfl (fun c12 => ?_) (fun c12 => ?_)
    · replace h := (if_neg c12).symm.trans h
      refine v_lload_n dX6_word_75 rfl ?_
      replace h := Option.some.inj h; subst h
      exact v_lret rfl dX6_word_76
    · replace h := (if_pos c12).symm.trans h
      refine v_lconst (v := 0) dX6_word_71 rfl ?_
      refine v_goto (tgt := 76) dX6_word_72 rfl ?_
      replace h := Option.some.inj h; subst h
      exact v_lret rfl dX6_word_76
/-! ===== BentPlainModel.kindHere()I ===== -/
def fX6_kindHere (M : Mem) : Option Int32 := ((fX6_word M).bind fun v1 => (if (lg_cmp v1 (773205170 : Int64)) = 0 then some (0 : Int32) else (if (lg_cmp v1 (676010845682 : Int64)) = 0 then some (1 : Int32) else (if (lg_cmp v1 (20917134514 : Int64)) = 0 then some (2 : Int32) else (if (lg_cmp v1 (2553 : Int64)) = 0 then some (3 : Int32) else (if (lg_cmp v1 (102322354 : Int64)) = 0 then some (4 : Int32) else (if (lg_cmp v1 (3124 : Int64)) = 0 then some (5 : Int32) else some (-1 : Int32))))))))
set_option maxRecDepth 100000 in
set_option maxHeartbeats 4000000 in
theorem sX6_kindHere {g : Wo} {M : Mem} {r : Int32} (h : fX6_kindHere M = some r) : Sp g kX6_kindHere 3 [.ref 49] M (some (.int r)) M := by
  rw [fX6_kindHere] at h
  refine Sp_intro (by decide) [some (.ref 49), none, none] rfl (Nat.le_of_ble_eq_true rfl) ?_
  refine v_aload_n dX6_kindHere_0 rfl ?_
  obtain ⟨v1, e2, h⟩ := Option.bind_eq_some_iff.mp h
  refine v_callV (as := []) (st := []) (sX6_word e2) dX6_kindHere_1 mlX6_227 (CRn (by decide) (by decide)) sh_49 rfl rfl rfl (Nat.le_of_ble_eq_true rfl) ?_
  refine v_lstore_n (ls1 := [some (.ref 49), some (.long v1), none]) dX6_kindHere_4 (Nat.le_of_ble_eq_true rfl) rfl ?_
  refine v_lload_n dX6_kindHere_5 rfl ?_
  refine v_ldc2 (v := 773205170) dX6_kindHere_6 w_1134 ?_
  refine v_lcmp dX6_kindHere_9 ?_
  refine v_if_ne (tgt := 17) dX6_kindHere_10 rfl (fun c3 => ?_) (fun c3 => ?_)
  · replace h := (if_neg c3).symm.trans h
    refine v_lload_n dX6_kindHere_17 rfl ?_
    refine v_ldc2 (v := 676010845682) dX6_kindHere_18 w_1135 ?_
    refine v_lcmp dX6_kindHere_21 ?_
    refine v_if_ne (tgt := 29) dX6_kindHere_22 rfl (fun c4 => ?_) (fun c4 => ?_)
    · replace h := (if_neg c4).symm.trans h
      refine v_lload_n dX6_kindHere_29 rfl ?_
      refine v_ldc2 (v := 20917134514) dX6_kindHere_30 w_1136 ?_
      refine v_lcmp dX6_kindHere_33 ?_
      refine v_if_ne (tgt := 41) dX6_kindHere_34 rfl (fun c5 => ?_) (fun c5 => ?_)
      · replace h := (if_neg c5).symm.trans h
        refine v_lload_n dX6_kindHere_41 rfl ?_
        refine v_ldc2 (v := 2553) dX6_kindHere_42 w_1137 ?_
        refine v_lcmp dX6_kindHere_45 ?_
        refine v_if_ne (tgt := 53) dX6_kindHere_46 rfl (fun c6 => ?_) (fun c6 => ?_)
        · replace h := (if_neg c6).symm.trans h
          refine v_lload_n dX6_kindHere_53 rfl ?_
          refine v_ldc2 (v := 102322354) dX6_kindHere_54 w_1138 ?_
          refine v_lcmp dX6_kindHere_57 ?_
          refine v_if_ne (tgt := 65) dX6_kindHere_58 rfl (fun c7 => ?_) (fun c7 => ?_)
          · replace h := (if_neg c7).symm.trans h
            refine v_lload_n dX6_kindHere_65 rfl ?_
            refine v_ldc2 (v := 3124) dX6_kindHere_66 w_1139 ?_
            refine v_lcmp dX6_kindHere_69 ?_
            refine v_if_ne (tgt := 77) dX6_kindHere_70 rfl (fun c8 => ?_) (fun c8 => ?_)
            · replace h := (if_neg c8).symm.trans h
              refine v_iconst (v := -1) dX6_kindHere_77 rfl ?_
              replace h := Option.some.inj h; subst h
              exact v_iret rfl dX6_kindHere_78
            · replace h := (if_pos c8).symm.trans h
              refine v_iconst (v := 5) dX6_kindHere_73 rfl ?_
              refine v_goto (tgt := 78) dX6_kindHere_74 rfl ?_
              replace h := Option.some.inj h; subst h
              exact v_iret rfl dX6_kindHere_78
          · replace h := (if_pos c7).symm.trans h
            refine v_iconst (v := 4) dX6_kindHere_61 rfl ?_
            refine v_goto (tgt := 78) dX6_kindHere_62 rfl ?_
            replace h := Option.some.inj h; subst h
            exact v_iret rfl dX6_kindHere_78
        · replace h := (if_pos c6).symm.trans h
          refine v_iconst (v := 3) dX6_kindHere_49 rfl ?_
          refine v_goto (tgt := 78) dX6_kindHere_50 rfl ?_
          replace h := Option.some.inj h; subst h
          exact v_iret rfl dX6_kindHere_78
      · replace h := (if_pos c5).symm.trans h
        refine v_iconst (v := 2) dX6_kindHere_37 rfl ?_
        refine v_goto (tgt := 78) dX6_kindHere_38 rfl ?_
        replace h := Option.some.inj h; subst h
        exact v_iret rfl dX6_kindHere_78
    · replace h := (if_pos c4).symm.trans h
      refine v_iconst (v := 1) dX6_kindHere_25 rfl ?_
      refine v_goto (tgt := 78) dX6_kindHere_26 rfl ?_
      replace h := Option.some.inj h; subst h
      exact v_iret rfl dX6_kindHere_78
  · replace h := (if_pos c3).symm.trans h
    refine v_iconst (v := 0) dX6_kindHere_13 rfl ?_
    refine v_goto (tgt := 78) dX6_kindHere_14 rfl ?_
    replace h := Option.some.inj h; subst h
    exact v_iret rfl dX6_kindHere_78
/-! ===== BentPlainModel.wants(Z)V ===== -/
def fX6_wants (x1 : Int32) (M : Mem) : Option Mem := (if ((setI M 49 12 (if (M.1 49 12) = 0 then (if x1 = 0 then (1 : Int32) else (0 : Int32)) else (1 : Int32))).1 49 12) = 0 then ((fX6_token (setI M 49 12 (if (M.1 49 12) = 0 then (if x1 = 0 then (1 : Int32) else (0 : Int32)) else (1 : Int32)))).bind fun w4 => some w4) else some (setI M 49 12 (if (M.1 49 12) = 0 then (if x1 = 0 then (1 : Int32) else (0 : Int32)) else (1 : Int32))))
set_option maxRecDepth 100000 in
set_option maxHeartbeats 4000000 in
theorem sX6_wants {g : Wo} {M : Mem} {x1 : Int32} {r : Mem} (h : fX6_wants x1 M = some r) : Sp g kX6_wants 3 [.ref 49, .int x1] M none r := by
  rw [fX6_wants] at h
  refine Sp_intro (by decide) [some (.ref 49), some (.int x1)] rfl (Nat.le_of_ble_eq_true rfl) ?_
  refine v_aload_n dX6_wants_0 rfl ?_
  refine v_aload_n dX6_wants_1 rfl ?_
  refine v_geti dX6_wants_2 flX6_209 sh_49 rfl ?_
  have hJ : V g kX6_wants (jm g 3 none r) 17 [some (.ref 49), none] [.int (if (M.1 49 12) = 0 then (if x1 = 0 then (1 : Int32) else (0 : Int32)) else (1 : Int32)), .ref 49] M := by
    refine v_putz dX6_wants_17 fpX6_209 sh_49 rfl (z_ite (z_ite z_1 z_0) z_1) ?_
    refine v_aload_n dX6_wants_20 rfl ?_
    refine v_geti dX6_wants_21 flX6_209 sh_49 rfl ?_
    refine v_if_ne (tgt := 31) dX6_wants_24 rfl (fun c3 => ?_) (fun c3 => ?_)
    · replace h := (if_neg c3).symm.trans h
      replace h := Option.some.inj h; subst h
      exact v_vret rfl dX6_wants_31
    · replace h := (if_pos c3).symm.trans h
      refine v_aload_n dX6_wants_27 rfl ?_
      obtain ⟨w4, e5, h⟩ := Option.bind_eq_some_iff.mp h
      refine v_callV (as := []) (st := []) (sX6_token e5) dX6_wants_28 mlX6_213 (CRn (by decide) (by decide)) sh_49 rfl rfl rfl (Nat.le_of_ble_eq_true rfl) ?_
      replace h := Option.some.inj h; subst h
      exact v_vret rfl dX6_wants_31
  refine v_if_ne (tgt := 12) dX6_wants_5 rfl (fun c1 => ?_) (fun c1 => ?_)
  · refine v_iconst (v := 1) dX6_wants_12 rfl ?_
    refine v_goto (tgt := 17) dX6_wants_13 rfl ?_
    refine V.sub (ls' := [some (.ref 49), none]) (And.intro rfl trivial) ?_
    first | (simp only [if_neg c1] at hJ; exact hJ) | exact hJ | (simp only [if_neg c1] at hJ ⊢; exact hJ)
  · refine v_iload_n dX6_wants_8 rfl ?_
    refine v_if_ne (tgt := 16) dX6_wants_9 rfl (fun c2 => ?_) (fun c2 => ?_)
    · refine v_iconst (v := 0) dX6_wants_16 rfl ?_
      refine V.sub (ls' := [some (.ref 49), none]) (And.intro rfl trivial) ?_
      first | (simp only [if_pos c1, if_neg c2] at hJ; exact hJ) | exact hJ | (simp only [if_pos c1, if_neg c2] at hJ ⊢; exact hJ)
    · refine v_iconst (v := 1) dX6_wants_12 rfl ?_
      refine v_goto (tgt := 17) dX6_wants_13 rfl ?_
      refine V.sub (ls' := [some (.ref 49), none]) (And.intro rfl trivial) ?_
      first | (simp only [if_pos c1, if_pos c2] at hJ; exact hJ) | exact hJ | (simp only [if_pos c1, if_pos c2] at hJ ⊢; exact hJ)
/-! ===== BentPlainModel.number(II)V ===== -/
def fX6_number_29 {ρ : Type} (kx : Int32 → Option ρ) (y1 : Int32) (y2 : Int32) (y3 : Int32) (M : Mem) : Nat → Int32 → Int32 → Option ρ
  | 0, _, _ => none
  | n + 1, y4, y5 => (if (M.1 49 10) ≤ y5 then (kx y4) else (if y3 = 0 then (kx y4) else ((if y4 ≤ (999 : Int32) then ((ldI M 56 120 y5).bind fun v10 => some ((((10 : Int32) * y4) + v10) - (48 : Int32))) else some y4).bind fun t8 => (fX6_number_29 kx y1 y2 y3 M n t8 (y5 + (1 : Int32))))))
def fX6_number (x1 : Int32) (x2 : Int32) (M : Mem) : Option Mem := (if (M.1 49 12) = 0 then ((fX6_byteAt (M.1 49 9) M).bind fun v2 => (fX6_number_29 (fun u12 => ((fX6_wants (if (fX6_isDigit v2) = 0 then (0 : Int32) else (if (fX6_in ((u12).toInt64) ((x1).toInt64) ((x2).toInt64)) = 0 then (0 : Int32) else (1 : Int32))) (setI M 49 11 u12)).bind fun w15 => some w15)) x1 x2 (fX6_isDigit v2) M FU (0 : Int32) (M.1 49 9))) else some M)
set_option maxRecDepth 100000 in
set_option maxHeartbeats 4000000 in
theorem tX6_number_29 {g : Wo} {ρ : Type} {kx : Int32 → Option ρ} {y1 : Int32} {y2 : Int32} {y3 : Int32} {M : Mem} {r : ρ} {rr : Option Value} {Mr : Mem} (hk : ∀ (z4 : Int32), kx z4 = some r → V g kX6_number (jm g 4 rr Mr) 79 [some (.ref 49), some (.int y1), some (.int y2), some (.int y3), some (.int z4), none] [] M) : ∀ (n : Nat) (y4 : Int32) (y5 : Int32), fX6_number_29 kx y1 y2 y3 M n y4 y5 = some r → V g kX6_number (jm g 4 rr Mr) 29 [some (.ref 49), some (.int y1), some (.int y2), some (.int y3), some (.int y4), some (.int y5)] [] M := by
  intro n
  induction n with
  | zero =>
    intro y4 y5 h
    rw [fX6_number_29] at h
    cases h
  | succ n ih =>
    intro y4 y5 h
    rw [fX6_number_29] at h
    refine v_iload dX6_number_29 rfl ?_
    refine v_aload_n dX6_number_31 rfl ?_
    refine v_geti dX6_number_32 flX6_194 sh_49 rfl ?_
    refine v_icmp_ge (tgt := 79) dX6_number_35 rfl (fun c4 => ?_) (fun c4 => ?_)
    · replace h := (if_pos c4).symm.trans h
      refine V.sub (ls' := [some (.ref 49), some (.int y1), some (.int y2), some (.int y3), some (.int y4), none]) (And.intro rfl (And.intro rfl (And.intro rfl (And.intro rfl (And.intro rfl trivial))))) ?_
      exact hk _ h
    · replace h := (if_neg c4).symm.trans h
      refine v_iload_n dX6_number_38 rfl ?_
      refine v_if_eq (tgt := 79) dX6_number_39 rfl (fun c5 => ?_) (fun c5 => ?_)
      · replace h := (if_pos c5).symm.trans h
        refine V.sub (ls' := [some (.ref 49), some (.int y1), some (.int y2), some (.int y3), some (.int y4), none]) (And.intro rfl (And.intro rfl (And.intro rfl (And.intro rfl (And.intro rfl trivial))))) ?_
        exact hk _ h
      · replace h := (if_neg c5).symm.trans h
        refine v_iload dX6_number_42 rfl ?_
        refine v_sipush (v := 999) dX6_number_44 rfl ?_
        obtain ⟨t8, e9, h⟩ := Option.bind_eq_some_iff.mp h
        have hJ : V g kX6_number (jm g 4 rr Mr) 71 [some (.ref 49), some (.int y1), some (.int y2), some (.int y3), none, some (.int y5)] [.int t8] M := by
          refine v_istore (ls1 := [some (.ref 49), some (.int y1), some (.int y2), some (.int y3), some (.int t8), some (.int y5)]) dX6_number_71 (Nat.le_of_ble_eq_true rfl) rfl ?_
          refine v_iinc (v := 1) (ls1 := [some (.ref 49), some (.int y1), some (.int y2), some (.int y3), some (.int t8), some (.int (y5 + (1 : Int32)))]) dX6_number_73 rfl rfl (Nat.le_of_ble_eq_true rfl) rfl ?_
          refine v_goto (tgt := 29) dX6_number_76 rfl ?_
          refine V.sub (ls' := [some (.ref 49), some (.int y1), some (.int y2), some (.int y3), some (.int t8), some (.int (y5 + (1 : Int32)))]) (And.intro rfl (And.intro rfl (And.intro rfl (And.intro rfl (And.intro rfl (And.intro rfl trivial)))))) ?_
          exact ih _ _ h
        clear h
        have h := e9
        clear e9
        refine v_icmp_le (tgt := 55) dX6_number_47 rfl (fun c7 => ?_) (fun c7 => ?_)
        · replace h := (if_pos c7).symm.trans h
          refine v_bipush (v := 10) dX6_number_55 rfl ?_
          refine v_iload dX6_number_57 rfl ?_
          refine v_imul dX6_number_59 ?_
          refine v_aload_n dX6_number_60 rfl ?_
          refine v_getr dX6_number_61 flX6_28 sh_49 rfl ?_
          refine v_iload dX6_number_64 rfl ?_
          obtain ⟨v10, e11, h⟩ := Option.bind_eq_some_iff.mp h
          refine v_ild e11 dX6_number_66 sh_56 ?_
          refine v_iadd dX6_number_67 ?_
          refine v_bipush (v := 48) dX6_number_68 rfl ?_
          refine v_isub dX6_number_70 ?_
          replace h := Option.some.inj h; subst h
          refine V.sub (ls' := [some (.ref 49), some (.int y1), some (.int y2), some (.int y3), none, some (.int y5)]) (And.intro rfl (And.intro rfl (And.intro rfl (And.intro rfl (And.intro rfl trivial))))) ?_
          exact hJ
        · replace h := (if_neg c7).symm.trans h
          refine v_iload dX6_number_50 rfl ?_
          refine v_goto (tgt := 71) dX6_number_52 rfl ?_
          replace h := Option.some.inj h; subst h
          refine V.sub (ls' := [some (.ref 49), some (.int y1), some (.int y2), some (.int y3), none, some (.int y5)]) (And.intro rfl (And.intro rfl (And.intro rfl (And.intro rfl (And.intro rfl trivial))))) ?_
          exact hJ
set_option maxRecDepth 100000 in
set_option maxHeartbeats 4000000 in
theorem sX6_number {g : Wo} {M : Mem} {x1 : Int32} {x2 : Int32} {r : Mem} (h : fX6_number x1 x2 M = some r) : Sp g kX6_number 4 [.ref 49, .int x1, .int x2] M none r := by
  rw [fX6_number] at h
  refine Sp_intro (by decide) [some (.ref 49), some (.int x1), some (.int x2), none, none, none] rfl (Nat.le_of_ble_eq_true rfl) ?_
  refine v_aload_n dX6_number_0 rfl ?_
  refine v_geti dX6_number_1 flX6_209 sh_49 rfl ?_
  refine v_if_eq (tgt := 8) dX6_number_4 rfl (fun c1 => ?_) (fun c1 => ?_)
  · replace h := (if_pos c1).symm.trans h
    refine v_aload_n dX6_number_8 rfl ?_
    refine v_aload_n dX6_number_9 rfl ?_
    refine v_geti dX6_number_10 flX6_197 sh_49 rfl ?_
    obtain ⟨v2, e3, h⟩ := Option.bind_eq_some_iff.mp h
    refine v_callV (as := [.int (M.1 49 9)]) (st := []) (sX6_byteAt e3) dX6_number_13 mlX6_200 (CRn (by decide) (by decide)) sh_49 rfl rfl rfl (Nat.le_of_ble_eq_true rfl) ?_
    refine v_callS (as := [.int v2]) (st := []) (sX6_isDigit rfl) dX6_number_16 mlX6_206 (CRn (by decide) (by decide)) rfl rfl (Nat.le_of_ble_eq_true rfl) ?_
    refine v_istore_n (ls1 := [some (.ref 49), some (.int x1), some (.int x2), some (.int (fX6_isDigit v2)), none, none]) dX6_number_19 (Nat.le_of_ble_eq_true rfl) rfl ?_
    refine v_iconst (v := 0) dX6_number_20 rfl ?_
    refine v_istore (ls1 := [some (.ref 49), some (.int x1), some (.int x2), some (.int (fX6_isDigit v2)), some (.int (0 : Int32)), none]) dX6_number_21 (Nat.le_of_ble_eq_true rfl) rfl ?_
    refine v_aload_n dX6_number_23 rfl ?_
    refine v_geti dX6_number_24 flX6_197 sh_49 rfl ?_
    refine v_istore (ls1 := [some (.ref 49), some (.int x1), some (.int x2), some (.int (fX6_isDigit v2)), some (.int (0 : Int32)), some (.int (M.1 49 9))]) dX6_number_27 (Nat.le_of_ble_eq_true rfl) rfl ?_
    refine V.sub (ls' := [some (.ref 49), some (.int x1), some (.int x2), some (.int (fX6_isDigit v2)), some (.int (0 : Int32)), some (.int (M.1 49 9))]) (And.intro rfl (And.intro rfl (And.intro rfl (And.intro rfl (And.intro rfl (And.intro rfl trivial)))))) ?_
    refine tX6_number_29 (fun u12 h => ?_) FU _ _ h
    refine v_aload_n dX6_number_79 rfl ?_
    refine v_iload dX6_number_80 rfl ?_
    refine v_puti dX6_number_82 fpX6_220 sh_49 rfl ?_
    refine v_aload_n dX6_number_85 rfl ?_
    refine v_iload_n dX6_number_86 rfl ?_
    have hJ : V g kX6_number (jm g 4 none r) 108 [none, none, none, none, none, none] [.int (if (fX6_isDigit v2) = 0 then (0 : Int32) else (if (fX6_in ((u12).toInt64) ((x1).toInt64) ((x2).toInt64)) = 0 then (0 : Int32) else (1 : Int32))), .ref 49] (setI M 49 11 u12) := by
      obtain ⟨w15, e16, h⟩ := Option.bind_eq_some_iff.mp h
      refine v_callV (as := [.int (if (fX6_isDigit v2) = 0 then (0 : Int32) else (if (fX6_in ((u12).toInt64) ((x1).toInt64) ((x2).toInt64)) = 0 then (0 : Int32) else (1 : Int32)))]) (st := []) (sX6_wants e16) dX6_number_108 mlX6_223 (CRn (by decide) (by decide)) sh_49 rfl rfl rfl (Nat.le_of_ble_eq_true rfl) ?_
      replace h := Option.some.inj h; subst h
      exact v_vret rfl dX6_number_111
    refine v_if_eq (tgt := 107) dX6_number_87 rfl (fun c13 => ?_) (fun c13 => ?_)
    · refine v_iconst (v := 0) dX6_number_107 rfl ?_
      refine V.sub (ls' := [none, none, none, none, none, none]) trivial ?_
      first | (simp only [if_pos c13] at hJ; exact hJ) | exact hJ | (simp only [if_pos c13] at hJ ⊢; exact hJ)
    · refine v_iload dX6_number_90 rfl ?_
      refine v_i2l dX6_number_92 ?_
      refine v_iload_n dX6_number_93 rfl ?_
      refine v_i2l dX6_number_94 ?_
      refine v_iload_n dX6_number_95 rfl ?_
      refine v_i2l dX6_number_96 ?_
      refine v_callS (as := [.long ((u12).toInt64), .long ((x1).toInt64), .long ((x2).toInt64)]) (st := [.ref 49]) (sX6_in rfl) dX6_number_97 mlX6_45 (CRn (by decide) (by decide)) rfl rfl (Nat.le_of_ble_eq_true rfl) ?_
      refine v_if_eq (tgt := 107) dX6_number_100 rfl (fun c14 => ?_) (fun c14 => ?_)
      · refine v_iconst (v := 0) dX6_number_107 rfl ?_
        refine V.sub (ls' := [none, none, none, none, none, none]) trivial ?_
        first | (simp only [if_neg c13, if_pos c14] at hJ; exact hJ) | exact hJ | (simp only [if_neg c13, if_pos c14] at hJ ⊢; exact hJ)
      · refine v_iconst (v := 1) dX6_number_103 rfl ?_
        refine v_goto (tgt := 108) dX6_number_104 rfl ?_
        refine V.sub (ls' := [none, none, none, none, none, none]) trivial ?_
        first | (simp only [if_neg c13, if_neg c14] at hJ; exact hJ) | exact hJ | (simp only [if_neg c13, if_neg c14] at hJ ⊢; exact hJ)
  · replace h := (if_neg c1).symm.trans h
    replace h := Option.some.inj h; subst h
    exact v_vret rfl dX6_number_7
/-! ===== BentPlainModel.fieldHere()V ===== -/
def fX6_fieldHere (M : Mem) : Option Mem := ((ldI M 50 112 (0 : Int32)).bind fun v1 => ((fX6_number (0 : Int32) (v1 - (1 : Int32)) M).bind fun w3 => some w3))
set_option maxRecDepth 100000 in
set_option maxHeartbeats 4000000 in
theorem sX6_fieldHere {g : Wo} {M : Mem} {r : Mem} (h : fX6_fieldHere M = some r) : Sp g kX6_fieldHere 5 [.ref 49] M none r := by
  rw [fX6_fieldHere] at h
  refine Sp_intro (by decide) [some (.ref 49)] rfl (Nat.le_of_ble_eq_true rfl) ?_
  refine v_aload_n dX6_fieldHere_0 rfl ?_
  refine v_iconst (v := 0) dX6_fieldHere_1 rfl ?_
  refine v_aload_n dX6_fieldHere_2 rfl ?_
  refine v_getr dX6_fieldHere_3 flX6_7 sh_49 rfl ?_
  refine v_iconst (v := 0) dX6_fieldHere_6 rfl ?_
  obtain ⟨v1, e2, h⟩ := Option.bind_eq_some_iff.mp h
  refine v_ild e2 dX6_fieldHere_7 sh_50 ?_
  refine v_iconst (v := 1) dX6_fieldHere_8 rfl ?_
  refine v_isub dX6_fieldHere_9 ?_
  obtain ⟨w3, e4, h⟩ := Option.bind_eq_some_iff.mp h
  refine v_callV (as := [.int (0 : Int32), .int (v1 - (1 : Int32))]) (st := []) (sX6_number e4) dX6_fieldHere_10 mlX6_243 (CRn (by decide) (by decide)) sh_49 rfl rfl rfl (Nat.le_of_ble_eq_true rfl) ?_
  replace h := Option.some.inj h; subst h
  exact v_vret rfl dX6_fieldHere_13
/-! ===== BentPlainModel.sideNamed()I ===== -/
def fX6_sideNamed (M : Mem) : Option Int32 := ((fX6_word M).bind fun v1 => (if (lg_cmp v1 (15190664 : Int64)) = 0 then some (0 : Int32) else (if (lg_cmp v1 (165492 : Int64)) = 0 then some (1 : Int32) else (if (lg_cmp v1 (20436616 : Int64)) = 0 then some (2 : Int32) else (if (lg_cmp v1 (759412 : Int64)) = 0 then some (3 : Int32) else some (-1 : Int32))))))
set_option maxRecDepth 100000 in
set_option maxHeartbeats 4000000 in
theorem sX6_sideNamed {g : Wo} {M : Mem} {r : Int32} (h : fX6_sideNamed M = some r) : Sp g kX6_sideNamed 3 [.ref 49] M (some (.int r)) M := by
  rw [fX6_sideNamed] at h
  refine Sp_intro (by decide) [some (.ref 49), none, none] rfl (Nat.le_of_ble_eq_true rfl) ?_
  refine v_aload_n dX6_sideNamed_0 rfl ?_
  obtain ⟨v1, e2, h⟩ := Option.bind_eq_some_iff.mp h
  refine v_callV (as := []) (st := []) (sX6_word e2) dX6_sideNamed_1 mlX6_227 (CRn (by decide) (by decide)) sh_49 rfl rfl rfl (Nat.le_of_ble_eq_true rfl) ?_
  refine v_lstore_n (ls1 := [some (.ref 49), some (.long v1), none]) dX6_sideNamed_4 (Nat.le_of_ble_eq_true rfl) rfl ?_
  refine v_lload_n dX6_sideNamed_5 rfl ?_
  refine v_ldc2 (v := 15190664) dX6_sideNamed_6 w_1161 ?_
  refine v_lcmp dX6_sideNamed_9 ?_
  refine v_if_ne (tgt := 17) dX6_sideNamed_10 rfl (fun c3 => ?_) (fun c3 => ?_)
  · replace h := (if_neg c3).symm.trans h
    refine v_lload_n dX6_sideNamed_17 rfl ?_
    refine v_ldc2 (v := 165492) dX6_sideNamed_18 w_1162 ?_
    refine v_lcmp dX6_sideNamed_21 ?_
    refine v_if_ne (tgt := 29) dX6_sideNamed_22 rfl (fun c4 => ?_) (fun c4 => ?_)
    · replace h := (if_neg c4).symm.trans h
      refine v_lload_n dX6_sideNamed_29 rfl ?_
      refine v_ldc2 (v := 20436616) dX6_sideNamed_30 w_1163 ?_
      refine v_lcmp dX6_sideNamed_33 ?_
      refine v_if_ne (tgt := 41) dX6_sideNamed_34 rfl (fun c5 => ?_) (fun c5 => ?_)
      · replace h := (if_neg c5).symm.trans h
        refine v_lload_n dX6_sideNamed_41 rfl ?_
        refine v_ldc2 (v := 759412) dX6_sideNamed_42 w_1164 ?_
        refine v_lcmp dX6_sideNamed_45 ?_
        refine v_if_ne (tgt := 53) dX6_sideNamed_46 rfl (fun c6 => ?_) (fun c6 => ?_)
        · replace h := (if_neg c6).symm.trans h
          refine v_iconst (v := -1) dX6_sideNamed_53 rfl ?_
          replace h := Option.some.inj h; subst h
          exact v_iret rfl dX6_sideNamed_54
        · replace h := (if_pos c6).symm.trans h
          refine v_iconst (v := 3) dX6_sideNamed_49 rfl ?_
          refine v_goto (tgt := 54) dX6_sideNamed_50 rfl ?_
          replace h := Option.some.inj h; subst h
          exact v_iret rfl dX6_sideNamed_54
      · replace h := (if_pos c5).symm.trans h
        refine v_iconst (v := 2) dX6_sideNamed_37 rfl ?_
        refine v_goto (tgt := 54) dX6_sideNamed_38 rfl ?_
        replace h := Option.some.inj h; subst h
        exact v_iret rfl dX6_sideNamed_54
    · replace h := (if_pos c4).symm.trans h
      refine v_iconst (v := 1) dX6_sideNamed_25 rfl ?_
      refine v_goto (tgt := 54) dX6_sideNamed_26 rfl ?_
      replace h := Option.some.inj h; subst h
      exact v_iret rfl dX6_sideNamed_54
  · replace h := (if_pos c3).symm.trans h
    refine v_iconst (v := 0) dX6_sideNamed_13 rfl ?_
    refine v_goto (tgt := 54) dX6_sideNamed_14 rfl ?_
    replace h := Option.some.inj h; subst h
    exact v_iret rfl dX6_sideNamed_54
/-! ===== BentPlainModel.walkerItem(I)V ===== -/
def fX6_walkerItem (x1 : Int32) (M : Mem) : Option Mem := ((ldI M 50 112 (1 : Int32)).bind fun v1 => ((fX6_wants (if (6 : Int32) ≤ v1 then (0 : Int32) else (1 : Int32)) M).bind fun w4 => ((fX6_word w4).bind fun v6 => ((fX6_wants (if (lg_cmp v6 (52 : Int64)) = 0 then (1 : Int32) else (0 : Int32)) w4).bind fun w9 => ((fX6_fieldHere w9).bind fun w11 => ((if (w11.1 49 12) = 0 then ((fX6_sideNamed w11).bind fun v17 => some v17) else some (0 : Int32)).bind fun t15 => ((fX6_wants (if t15 < 0 then (0 : Int32) else (1 : Int32)) w11).bind fun w20 => (if (w20.1 49 12) = 0 then ((fX6_comes x1 (w11.1 49 11) t15 w20).bind fun w23 => some w23.2) else some w20))))))))
set_option maxRecDepth 100000 in
set_option maxHeartbeats 4000000 in
theorem sX6_walkerItem {g : Wo} {M : Mem} {x1 : Int32} {r : Mem} (h : fX6_walkerItem x1 M = some r) : Sp g kX6_walkerItem 6 [.ref 49, .int x1] M none r := by
  rw [fX6_walkerItem] at h
  refine Sp_intro (by decide) [some (.ref 49), some (.int x1), none, none, none] rfl (Nat.le_of_ble_eq_true rfl) ?_
  refine v_aload_n dX6_walkerItem_0 rfl ?_
  refine v_aload_n dX6_walkerItem_1 rfl ?_
  refine v_getr dX6_walkerItem_2 flX6_7 sh_49 rfl ?_
  refine v_iconst (v := 1) dX6_walkerItem_5 rfl ?_
  obtain ⟨v1, e2, h⟩ := Option.bind_eq_some_iff.mp h
  refine v_ild e2 dX6_walkerItem_6 sh_50 ?_
  refine v_bipush (v := 6) dX6_walkerItem_7 rfl ?_
  have hJ : V g kX6_walkerItem (jm g 6 none r) 17 [some (.ref 49), some (.int x1), none, none, none] [.int (if (6 : Int32) ≤ v1 then (0 : Int32) else (1 : Int32)), .ref 49] M := by
    obtain ⟨w4, e5, h⟩ := Option.bind_eq_some_iff.mp h
    refine v_callV (as := [.int (if (6 : Int32) ≤ v1 then (0 : Int32) else (1 : Int32))]) (st := []) (sX6_wants e5) dX6_walkerItem_17 mlX6_223 (CRn (by decide) (by decide)) sh_49 rfl rfl rfl (Nat.le_of_ble_eq_true rfl) ?_
    refine v_aload_n dX6_walkerItem_20 rfl ?_
    refine v_aload_n dX6_walkerItem_21 rfl ?_
    obtain ⟨v6, e7, h⟩ := Option.bind_eq_some_iff.mp h
    refine v_callV (as := []) (st := [.ref 49]) (sX6_word e7) dX6_walkerItem_22 mlX6_227 (CRn (by decide) (by decide)) sh_49 rfl rfl rfl (Nat.le_of_ble_eq_true rfl) ?_
    refine v_ldc2 (v := 52) dX6_walkerItem_25 w_1148 ?_
    refine v_lcmp dX6_walkerItem_28 ?_
    have hJ : V g kX6_walkerItem (jm g 6 none r) 37 [some (.ref 49), some (.int x1), none, none, none] [.int (if (lg_cmp v6 (52 : Int64)) = 0 then (1 : Int32) else (0 : Int32)), .ref 49] w4 := by
      obtain ⟨w9, e10, h⟩ := Option.bind_eq_some_iff.mp h
      refine v_callV (as := [.int (if (lg_cmp v6 (52 : Int64)) = 0 then (1 : Int32) else (0 : Int32))]) (st := []) (sX6_wants e10) dX6_walkerItem_37 mlX6_223 (CRn (by decide) (by decide)) sh_49 rfl rfl rfl (Nat.le_of_ble_eq_true rfl) ?_
      refine v_aload_n dX6_walkerItem_40 rfl ?_
      obtain ⟨w11, e12, h⟩ := Option.bind_eq_some_iff.mp h
      refine v_callV (as := []) (st := []) (sX6_fieldHere e12) dX6_walkerItem_41 mlX6_259 (CRn (by decide) (by decide)) sh_49 rfl rfl rfl (Nat.le_of_ble_eq_true rfl) ?_
      refine v_aload_n dX6_walkerItem_44 rfl ?_
      refine v_geti dX6_walkerItem_45 flX6_220 sh_49 rfl ?_
      refine v_istore_n (ls1 := [some (.ref 49), some (.int x1), some (.int (w11.1 49 11)), none, none]) dX6_walkerItem_48 (Nat.le_of_ble_eq_true rfl) rfl ?_
      refine v_aload_n dX6_walkerItem_49 rfl ?_
      refine v_geti dX6_walkerItem_50 flX6_209 sh_49 rfl ?_
      obtain ⟨t15, e16, h⟩ := Option.bind_eq_some_iff.mp h
      have hJ : V g kX6_walkerItem (jm g 6 none r) 64 [some (.ref 49), some (.int x1), some (.int (w11.1 49 11)), none, none] [.int t15] w11 := by
        refine v_istore_n (ls1 := [some (.ref 49), some (.int x1), some (.int (w11.1 49 11)), some (.int t15), none]) dX6_walkerItem_64 (Nat.le_of_ble_eq_true rfl) rfl ?_
        refine v_aload_n dX6_walkerItem_65 rfl ?_
        refine v_iload_n dX6_walkerItem_66 rfl ?_
        have hJ : V g kX6_walkerItem (jm g 6 none r) 75 [some (.ref 49), some (.int x1), some (.int (w11.1 49 11)), some (.int t15), none] [.int (if t15 < 0 then (0 : Int32) else (1 : Int32)), .ref 49] w11 := by
          obtain ⟨w20, e21, h⟩ := Option.bind_eq_some_iff.mp h
          refine v_callV (as := [.int (if t15 < 0 then (0 : Int32) else (1 : Int32))]) (st := []) (sX6_wants e21) dX6_walkerItem_75 mlX6_223 (CRn (by decide) (by decide)) sh_49 rfl rfl rfl (Nat.le_of_ble_eq_true rfl) ?_
          refine v_aload_n dX6_walkerItem_78 rfl ?_
          refine v_geti dX6_walkerItem_79 flX6_209 sh_49 rfl ?_
          refine v_if_ne (tgt := 94) dX6_walkerItem_82 rfl (fun c22 => ?_) (fun c22 => ?_)
          · replace h := (if_neg c22).symm.trans h
            replace h := Option.some.inj h; subst h
            exact v_vret rfl dX6_walkerItem_94
          · replace h := (if_pos c22).symm.trans h
            refine v_aload_n dX6_walkerItem_85 rfl ?_
            refine v_iload_n dX6_walkerItem_86 rfl ?_
            refine v_iload_n dX6_walkerItem_87 rfl ?_
            refine v_iload_n dX6_walkerItem_88 rfl ?_
            obtain ⟨w23, e24, h⟩ := Option.bind_eq_some_iff.mp h
            refine v_callV (as := [.int x1, .int (w11.1 49 11), .int t15]) (st := []) (sX6_comes e24) dX6_walkerItem_89 mlX6_105 (CRn (by decide) (by decide)) sh_49 rfl rfl rfl (Nat.le_of_ble_eq_true rfl) ?_
            refine v_istore (ls1 := [some (.ref 49), some (.int x1), some (.int (w11.1 49 11)), some (.int t15), some (.int w23.1)]) dX6_walkerItem_92 (Nat.le_of_ble_eq_true rfl) rfl ?_
            replace h := Option.some.inj h; subst h
            exact v_vret rfl dX6_walkerItem_94
        refine v_if_lt (tgt := 74) dX6_walkerItem_67 rfl (fun c19 => ?_) (fun c19 => ?_)
        · refine v_iconst (v := 0) dX6_walkerItem_74 rfl ?_
          refine V.sub (ls' := [some (.ref 49), some (.int x1), some (.int (w11.1 49 11)), some (.int t15), none]) (And.intro rfl (And.intro rfl (And.intro rfl (And.intro rfl trivial)))) ?_
          first | (simp only [if_pos c19] at hJ; exact hJ) | exact hJ | (simp only [if_pos c19] at hJ ⊢; exact hJ)
        · refine v_iconst (v := 1) dX6_walkerItem_70 rfl ?_
          refine v_goto (tgt := 75) dX6_walkerItem_71 rfl ?_
          refine V.sub (ls' := [some (.ref 49), some (.int x1), some (.int (w11.1 49 11)), some (.int t15), none]) (And.intro rfl (And.intro rfl (And.intro rfl (And.intro rfl trivial)))) ?_
          first | (simp only [if_neg c19] at hJ; exact hJ) | exact hJ | (simp only [if_neg c19] at hJ ⊢; exact hJ)
      clear h
      have h := e16
      clear e16
      refine v_if_eq (tgt := 60) dX6_walkerItem_53 rfl (fun c14 => ?_) (fun c14 => ?_)
      · replace h := (if_pos c14).symm.trans h
        refine v_aload_n dX6_walkerItem_60 rfl ?_
        obtain ⟨v17, e18, h⟩ := Option.bind_eq_some_iff.mp h
        refine v_callV (as := []) (st := []) (sX6_sideNamed e18) dX6_walkerItem_61 mlX6_254 (CRn (by decide) (by decide)) sh_49 rfl rfl rfl (Nat.le_of_ble_eq_true rfl) ?_
        replace h := Option.some.inj h; subst h
        refine V.sub (ls' := [some (.ref 49), some (.int x1), some (.int (w11.1 49 11)), none, none]) (And.intro rfl (And.intro rfl (And.intro rfl trivial))) ?_
        exact hJ
      · replace h := (if_neg c14).symm.trans h
        refine v_iconst (v := 0) dX6_walkerItem_56 rfl ?_
        refine v_goto (tgt := 64) dX6_walkerItem_57 rfl ?_
        replace h := Option.some.inj h; subst h
        refine V.sub (ls' := [some (.ref 49), some (.int x1), some (.int (w11.1 49 11)), none, none]) (And.intro rfl (And.intro rfl (And.intro rfl trivial))) ?_
        exact hJ
    refine v_if_ne (tgt := 36) dX6_walkerItem_29 rfl (fun c8 => ?_) (fun c8 => ?_)
    · refine v_iconst (v := 0) dX6_walkerItem_36 rfl ?_
      refine V.sub (ls' := [some (.ref 49), some (.int x1), none, none, none]) (And.intro rfl (And.intro rfl trivial)) ?_
      first | (simp only [if_neg c8] at hJ; exact hJ) | exact hJ | (simp only [if_neg c8] at hJ ⊢; exact hJ)
    · refine v_iconst (v := 1) dX6_walkerItem_32 rfl ?_
      refine v_goto (tgt := 37) dX6_walkerItem_33 rfl ?_
      refine V.sub (ls' := [some (.ref 49), some (.int x1), none, none, none]) (And.intro rfl (And.intro rfl trivial)) ?_
      first | (simp only [if_pos c8] at hJ; exact hJ) | exact hJ | (simp only [if_pos c8] at hJ ⊢; exact hJ)
  refine v_icmp_ge (tgt := 16) dX6_walkerItem_9 rfl (fun c3 => ?_) (fun c3 => ?_)
  · refine v_iconst (v := 0) dX6_walkerItem_16 rfl ?_
    refine V.sub (ls' := [some (.ref 49), some (.int x1), none, none, none]) (And.intro rfl (And.intro rfl trivial)) ?_
    first | (simp only [if_pos c3] at hJ; exact hJ) | exact hJ | (simp only [if_pos c3] at hJ ⊢; exact hJ)
  · refine v_iconst (v := 1) dX6_walkerItem_12 rfl ?_
    refine v_goto (tgt := 17) dX6_walkerItem_13 rfl ?_
    refine V.sub (ls' := [some (.ref 49), some (.int x1), none, none, none]) (And.intro rfl (And.intro rfl trivial)) ?_
    first | (simp only [if_neg c3] at hJ; exact hJ) | exact hJ | (simp only [if_neg c3] at hJ ⊢; exact hJ)
/-! ===== BentPlainModel.fieldItem()V ===== -/
def fX6_fieldItem (M : Mem) : Option Mem := ((ldI M 50 112 (0 : Int32)).bind fun v1 => ((fX6_wants (if (16 : Int32) ≤ v1 then (0 : Int32) else (1 : Int32)) M).bind fun w4 => ((fX6_word w4).bind fun v6 => ((if (lg_cmp v6 (19387624 : Int64)) = 0 then ((fX6_wants (1 : Int32) w4).bind fun w12 => ((fX6_number (0 : Int32) (9 : Int32) w12).bind fun w14 => some ((w14.1 49 11), w14))) else some ((0 : Int32), w4)).bind fun t10 => (if (t10.2.1 49 12) = 0 then ((fX6_adds t10.1 t10.2).bind fun w17 => some w17.2) else some t10.2)))))
set_option maxRecDepth 100000 in
set_option maxHeartbeats 4000000 in
theorem sX6_fieldItem {g : Wo} {M : Mem} {r : Mem} (h : fX6_fieldItem M = some r) : Sp g kX6_fieldItem 5 [.ref 49] M none r := by
  rw [fX6_fieldItem] at h
  refine Sp_intro (by decide) [some (.ref 49), none, none] rfl (Nat.le_of_ble_eq_true rfl) ?_
  refine v_aload_n dX6_fieldItem_0 rfl ?_
  refine v_aload_n dX6_fieldItem_1 rfl ?_
  refine v_getr dX6_fieldItem_2 flX6_7 sh_49 rfl ?_
  refine v_iconst (v := 0) dX6_fieldItem_5 rfl ?_
  obtain ⟨v1, e2, h⟩ := Option.bind_eq_some_iff.mp h
  refine v_ild e2 dX6_fieldItem_6 sh_50 ?_
  refine v_bipush (v := 16) dX6_fieldItem_7 rfl ?_
  have hJ : V g kX6_fieldItem (jm g 5 none r) 17 [some (.ref 49), none, none] [.int (if (16 : Int32) ≤ v1 then (0 : Int32) else (1 : Int32)), .ref 49] M := by
    obtain ⟨w4, e5, h⟩ := Option.bind_eq_some_iff.mp h
    refine v_callV (as := [.int (if (16 : Int32) ≤ v1 then (0 : Int32) else (1 : Int32))]) (st := []) (sX6_wants e5) dX6_fieldItem_17 mlX6_223 (CRn (by decide) (by decide)) sh_49 rfl rfl rfl (Nat.le_of_ble_eq_true rfl) ?_
    refine v_iconst (v := 0) dX6_fieldItem_20 rfl ?_
    refine v_istore_n (ls1 := [some (.ref 49), some (.int (0 : Int32)), none]) dX6_fieldItem_21 (Nat.le_of_ble_eq_true rfl) rfl ?_
    refine v_aload_n dX6_fieldItem_22 rfl ?_
    obtain ⟨v6, e7, h⟩ := Option.bind_eq_some_iff.mp h
    refine v_callV (as := []) (st := []) (sX6_word e7) dX6_fieldItem_23 mlX6_227 (CRn (by decide) (by decide)) sh_49 rfl rfl rfl (Nat.le_of_ble_eq_true rfl) ?_
    refine v_ldc2 (v := 19387624) dX6_fieldItem_26 w_1170 ?_
    refine v_lcmp dX6_fieldItem_29 ?_
    obtain ⟨t10, e11, h⟩ := Option.bind_eq_some_iff.mp h
    have hJ : V g kX6_fieldItem (jm g 5 none r) 50 [some (.ref 49), some (.int t10.1), none] [] t10.2 := by
      refine v_aload_n dX6_fieldItem_50 rfl ?_
      refine v_geti dX6_fieldItem_51 flX6_209 sh_49 rfl ?_
      refine v_if_ne (tgt := 63) dX6_fieldItem_54 rfl (fun c16 => ?_) (fun c16 => ?_)
      · replace h := (if_neg c16).symm.trans h
        replace h := Option.some.inj h; subst h
        exact v_vret rfl dX6_fieldItem_63
      · replace h := (if_pos c16).symm.trans h
        refine v_aload_n dX6_fieldItem_57 rfl ?_
        refine v_iload_n dX6_fieldItem_58 rfl ?_
        obtain ⟨w17, e18, h⟩ := Option.bind_eq_some_iff.mp h
        refine v_callV (as := [.int t10.1]) (st := []) (sX6_adds e18) dX6_fieldItem_59 mlX6_74 (CRn (by decide) (by decide)) sh_49 rfl rfl rfl (Nat.le_of_ble_eq_true rfl) ?_
        refine v_istore_n (ls1 := [some (.ref 49), some (.int t10.1), some (.int w17.1)]) dX6_fieldItem_62 (Nat.le_of_ble_eq_true rfl) rfl ?_
        replace h := Option.some.inj h; subst h
        exact v_vret rfl dX6_fieldItem_63
    clear h
    have h := e11
    clear e11
    refine v_if_ne (tgt := 50) dX6_fieldItem_30 rfl (fun c9 => ?_) (fun c9 => ?_)
    · replace h := (if_neg c9).symm.trans h
      replace h := Option.some.inj h; subst h
      refine V.sub (ls' := [some (.ref 49), some (.int (0 : Int32)), none]) (And.intro rfl (And.intro rfl trivial)) ?_
      exact hJ
    · replace h := (if_pos c9).symm.trans h
      refine v_aload_n dX6_fieldItem_33 rfl ?_
      refine v_iconst (v := 1) dX6_fieldItem_34 rfl ?_
      obtain ⟨w12, e13, h⟩ := Option.bind_eq_some_iff.mp h
      refine v_callV (as := [.int (1 : Int32)]) (st := []) (sX6_wants e13) dX6_fieldItem_35 mlX6_223 (CRn (by decide) (by decide)) sh_49 rfl rfl rfl (Nat.le_of_ble_eq_true rfl) ?_
      refine v_aload_n dX6_fieldItem_38 rfl ?_
      refine v_iconst (v := 0) dX6_fieldItem_39 rfl ?_
      refine v_bipush (v := 9) dX6_fieldItem_40 rfl ?_
      obtain ⟨w14, e15, h⟩ := Option.bind_eq_some_iff.mp h
      refine v_callV (as := [.int (0 : Int32), .int (9 : Int32)]) (st := []) (sX6_number e15) dX6_fieldItem_42 mlX6_243 (CRn (by decide) (by decide)) sh_49 rfl rfl rfl (Nat.le_of_ble_eq_true rfl) ?_
      refine v_aload_n dX6_fieldItem_45 rfl ?_
      refine v_geti dX6_fieldItem_46 flX6_220 sh_49 rfl ?_
      refine v_istore_n (ls1 := [some (.ref 49), some (.int (w14.1 49 11)), none]) dX6_fieldItem_49 (Nat.le_of_ble_eq_true rfl) rfl ?_
      replace h := Option.some.inj h; subst h
      refine V.sub (ls' := [some (.ref 49), some (.int (w14.1 49 11)), none]) (And.intro rfl (And.intro rfl trivial)) ?_
      exact hJ
  refine v_icmp_ge (tgt := 16) dX6_fieldItem_9 rfl (fun c3 => ?_) (fun c3 => ?_)
  · refine v_iconst (v := 0) dX6_fieldItem_16 rfl ?_
    refine V.sub (ls' := [some (.ref 49), none, none]) (And.intro rfl trivial) ?_
    first | (simp only [if_pos c3] at hJ; exact hJ) | exact hJ | (simp only [if_pos c3] at hJ ⊢; exact hJ)
  · refine v_iconst (v := 1) dX6_fieldItem_12 rfl ?_
    refine v_goto (tgt := 17) dX6_fieldItem_13 rfl ?_
    refine V.sub (ls' := [some (.ref 49), none, none]) (And.intro rfl trivial) ?_
    first | (simp only [if_neg c3] at hJ; exact hJ) | exact hJ | (simp only [if_neg c3] at hJ ⊢; exact hJ)
/-! ===== BentPlainModel.sideHere(IZI)I ===== -/
def fX6_sideHere (x1 : Int32) (x2 : Int32) (x3 : Int32) (M : Mem) : Option (Int32 × Mem) := ((fX6_sideNamed M).bind fun v1 => ((if v1 < 0 then some (0 : Int32) else (if (((4 : Int32) * x1) + v1) = x3 then some (0 : Int32) else ((ldI M 50 112 ((18 : Int32) + (((4 : Int32) * x1) + v1))).bind fun v8 => (if (if v8 ≤ 0 then (0 : Int32) else (1 : Int32)) = x2 then some (1 : Int32) else some (0 : Int32))))).bind fun t5 => ((fX6_wants t5 M).bind fun w12 => some ((((4 : Int32) * x1) + v1), w12))))
set_option maxRecDepth 100000 in
set_option maxHeartbeats 4000000 in
theorem sX6_sideHere {g : Wo} {M : Mem} {x1 : Int32} {x2 : Int32} {x3 : Int32} {r : Int32 × Mem} (h : fX6_sideHere x1 x2 x3 M = some r) : Sp g kX6_sideHere 4 [.ref 49, .int x1, .int x2, .int x3] M (some (.int r.1)) r.2 := by
  rw [fX6_sideHere] at h
  refine Sp_intro (by decide) [some (.ref 49), some (.int x1), some (.int x2), some (.int x3), none, none] rfl (Nat.le_of_ble_eq_true rfl) ?_
  refine v_aload_n dX6_sideHere_0 rfl ?_
  obtain ⟨v1, e2, h⟩ := Option.bind_eq_some_iff.mp h
  refine v_callV (as := []) (st := []) (sX6_sideNamed e2) dX6_sideHere_1 mlX6_254 (CRn (by decide) (by decide)) sh_49 rfl rfl rfl (Nat.le_of_ble_eq_true rfl) ?_
  refine v_istore (ls1 := [some (.ref 49), some (.int x1), some (.int x2), some (.int x3), some (.int v1), none]) dX6_sideHere_4 (Nat.le_of_ble_eq_true rfl) rfl ?_
  refine v_iconst (v := 4) dX6_sideHere_6 rfl ?_
  refine v_iload_n dX6_sideHere_7 rfl ?_
  refine v_imul dX6_sideHere_8 ?_
  refine v_iload dX6_sideHere_9 rfl ?_
  refine v_iadd dX6_sideHere_11 ?_
  refine v_istore (ls1 := [some (.ref 49), some (.int x1), some (.int x2), some (.int x3), some (.int v1), some (.int (((4 : Int32) * x1) + v1))]) dX6_sideHere_12 (Nat.le_of_ble_eq_true rfl) rfl ?_
  refine v_aload_n dX6_sideHere_14 rfl ?_
  refine v_iload dX6_sideHere_15 rfl ?_
  obtain ⟨t5, e6, h⟩ := Option.bind_eq_some_iff.mp h
  have hJ : V g kX6_sideHere (jm g 4 (some (.int r.1)) r.2) 53 [none, none, none, none, none, some (.int (((4 : Int32) * x1) + v1))] [.int t5, .ref 49] M := by
    obtain ⟨w12, e13, h⟩ := Option.bind_eq_some_iff.mp h
    refine v_callV (as := [.int t5]) (st := []) (sX6_wants e13) dX6_sideHere_53 mlX6_223 (CRn (by decide) (by decide)) sh_49 rfl rfl rfl (Nat.le_of_ble_eq_true rfl) ?_
    refine v_iload dX6_sideHere_56 rfl ?_
    replace h := Option.some.inj h; subst h
    exact v_iret rfl dX6_sideHere_58
  clear h
  have h := e6
  clear e6
  refine v_if_lt (tgt := 52) dX6_sideHere_17 rfl (fun c4 => ?_) (fun c4 => ?_)
  · replace h := (if_pos c4).symm.trans h
    refine v_iconst (v := 0) dX6_sideHere_52 rfl ?_
    replace h := Option.some.inj h; subst h
    refine V.sub (ls' := [none, none, none, none, none, some (.int (((4 : Int32) * x1) + v1))]) (And.intro rfl trivial) ?_
    exact hJ
  · replace h := (if_neg c4).symm.trans h
    refine v_iload dX6_sideHere_20 rfl ?_
    refine v_iload_n dX6_sideHere_22 rfl ?_
    refine v_icmp_eq (tgt := 52) dX6_sideHere_23 rfl (fun c7 => ?_) (fun c7 => ?_)
    · replace h := (if_pos c7).symm.trans h
      refine v_iconst (v := 0) dX6_sideHere_52 rfl ?_
      replace h := Option.some.inj h; subst h
      refine V.sub (ls' := [none, none, none, none, none, some (.int (((4 : Int32) * x1) + v1))]) (And.intro rfl trivial) ?_
      exact hJ
    · replace h := (if_neg c7).symm.trans h
      refine v_aload_n dX6_sideHere_26 rfl ?_
      refine v_getr dX6_sideHere_27 flX6_7 sh_49 rfl ?_
      refine v_bipush (v := 18) dX6_sideHere_30 rfl ?_
      refine v_iload dX6_sideHere_32 rfl ?_
      refine v_iadd dX6_sideHere_34 ?_
      obtain ⟨v8, e9, h⟩ := Option.bind_eq_some_iff.mp h
      refine v_ild e9 dX6_sideHere_35 sh_50 ?_
      have hJ : V g kX6_sideHere (jm g 4 (some (.int r.1)) r.2) 44 [none, none, some (.int x2), none, none, some (.int (((4 : Int32) * x1) + v1))] [.int (if v8 ≤ 0 then (0 : Int32) else (1 : Int32)), .ref 49] M := by
        refine v_iload_n dX6_sideHere_44 rfl ?_
        refine v_icmp_ne (tgt := 52) dX6_sideHere_45 rfl (fun c11 => ?_) (fun c11 => ?_)
        · replace h := (if_neg c11).symm.trans h
          refine v_iconst (v := 0) dX6_sideHere_52 rfl ?_
          replace h := Option.some.inj h; subst h
          refine V.sub (ls' := [none, none, none, none, none, some (.int (((4 : Int32) * x1) + v1))]) (And.intro rfl trivial) ?_
          exact hJ
        · replace h := (if_pos c11).symm.trans h
          refine v_iconst (v := 1) dX6_sideHere_48 rfl ?_
          refine v_goto (tgt := 53) dX6_sideHere_49 rfl ?_
          replace h := Option.some.inj h; subst h
          refine V.sub (ls' := [none, none, none, none, none, some (.int (((4 : Int32) * x1) + v1))]) (And.intro rfl trivial) ?_
          exact hJ
      refine v_if_le (tgt := 43) dX6_sideHere_36 rfl (fun c10 => ?_) (fun c10 => ?_)
      · refine v_iconst (v := 0) dX6_sideHere_43 rfl ?_
        refine V.sub (ls' := [none, none, some (.int x2), none, none, some (.int (((4 : Int32) * x1) + v1))]) (And.intro rfl (And.intro rfl trivial)) ?_
        first | (simp only [if_pos c10] at hJ; exact hJ) | exact hJ | (simp only [if_pos c10] at hJ ⊢; exact hJ)
      · refine v_iconst (v := 1) dX6_sideHere_39 rfl ?_
        refine v_goto (tgt := 44) dX6_sideHere_40 rfl ?_
        refine V.sub (ls' := [none, none, some (.int x2), none, none, some (.int (((4 : Int32) * x1) + v1))]) (And.intro rfl (And.intro rfl trivial)) ?_
        first | (simp only [if_neg c10] at hJ; exact hJ) | exact hJ | (simp only [if_neg c10] at hJ ⊢; exact hJ)
