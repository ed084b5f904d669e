/-! ===== BentPlain.wipe()I ===== -/
def fX5_wipe (M : Mem) : Option (Int32 × Mem) := some ((M.1 36 0), (setI M 36 0 (0 : Int32)))
set_option maxRecDepth 100000 in
set_option maxHeartbeats 4000000 in
theorem sX5_wipe {g : Wo} {M : Mem} {r : Int32 × Mem} (h : fX5_wipe M = some r) : Sp g kX5_wipe 0 [.ref 0] M (some (.int r.1)) r.2 := by
  rw [fX5_wipe] at h
  refine Sp_intro (by decide) [some (.ref 0), none] rfl (Nat.le_of_ble_eq_true rfl) ?_
  refine v_aload_n dX5_wipe_0 rfl ?_
  refine v_getr dX5_wipe_1 flX5_45 sh_0 rfl ?_
  refine v_geti dX5_wipe_4 flX5_235 sh_36 rfl ?_
  refine v_istore_n (ls1 := [some (.ref 0), some (.int (M.1 36 0))]) dX5_wipe_7 (Nat.le_of_ble_eq_true rfl) rfl ?_
  refine v_aload_n dX5_wipe_8 rfl ?_
  refine v_getr dX5_wipe_9 flX5_45 sh_0 rfl ?_
  refine v_iconst (v := 0) dX5_wipe_12 rfl ?_
  refine v_puti dX5_wipe_13 fpX5_235 sh_36 rfl ?_
  refine v_iload_n dX5_wipe_16 rfl ?_
  replace h := Option.some.inj h; subst h
  exact v_iret rfl dX5_wipe_17
/-! ===== BentPlain$Ground.become(LBentPlain$Ground;)V ===== -/
def fX0_become_48 {ρ : Type} (kx : Mem → Option ρ) (y0 : Nat) (y1 : Nat) : Nat → Int32 → Mem → Option ρ
  | 0, _, _ => none
  | n + 1, y2, M => (if (6 : Int32) ≤ y2 then (kx M) else ((ldW y0 y2).bind fun q6 => ((ldW y1 y2).bind fun q8 => ((fX4_become q6 q8 M).bind fun w10 => (fX0_become_48 kx y0 y1 n (y2 + (1 : Int32)) w10)))))
def fX0_become (x0 : Nat) (x1 : Nat) (M : Mem) : Option Mem := ((acI (setI (setI M x0 0 (M.1 x1 0)) x0 1 ((setI M x0 0 (M.1 x1 0)).1 x1 1)) (x1 + 8) 16 (0 : Int32) (x0 + 8) 16 (0 : Int32) (16 : Int32)).bind fun M1 => ((acI M1 (x1 + 9) 64 (0 : Int32) (x0 + 9) 64 (0 : Int32) (64 : Int32)).bind fun M3 => (fX0_become_48 (fun M12 => some M12) x0 x1 FU (0 : Int32) M3)))
set_option maxRecDepth 100000 in
set_option maxHeartbeats 4000000 in
theorem tX0_become_48 {g : Wo} {ρ : Type} {kx : Mem → Option ρ} {y0 : Nat} {y1 : Nat} (hy0 : isG y0) (hy1 : isG y1) {r : ρ} {rr : Option Value} {Mr : Mem} (hk : ∀ (Mx : Mem), kx Mx = some r → V g kX0_become (jm g 1 rr Mr) 75 [none, none, none] [] Mx) : ∀ (n : Nat) (y2 : Int32) (M : Mem), fX0_become_48 kx y0 y1 n y2 M = some r → V g kX0_become (jm g 1 rr Mr) 48 [some (.ref y0), some (.ref y1), some (.int y2)] [] M := by
  intro n
  induction n with
  | zero =>
    intro y2 M h
    rw [fX0_become_48] at h
    cases h
  | succ n ih =>
    intro y2 M h
    rw [fX0_become_48] at h
    refine v_iload_n dX0_become_48 rfl ?_
    refine v_bipush (v := 6) dX0_become_49 rfl ?_
    refine v_icmp_ge (tgt := 75) dX0_become_51 rfl (fun c5 => ?_) (fun c5 => ?_)
    · replace h := (if_pos c5).symm.trans h
      refine V.sub (ls' := [none, none, none]) trivial ?_
      exact hk _ h
    · replace h := (if_neg c5).symm.trans h
      refine v_aload_n dX0_become_54 rfl ?_
      refine v_getr dX0_become_55 flX0_11 hy0.1 rfl ?_
      refine v_iload_n dX0_become_58 rfl ?_
      obtain ⟨q6, e7, h⟩ := Option.bind_eq_some_iff.mp h
      refine v_wld (r := y0) e7 dX0_become_59 hy0 ?_
      refine v_aload_n dX0_become_60 rfl ?_
      refine v_getr dX0_become_61 flX0_11 hy1.1 rfl ?_
      refine v_iload_n dX0_become_64 rfl ?_
      obtain ⟨q8, e9, h⟩ := Option.bind_eq_some_iff.mp h
      refine v_wld (r := y1) e9 dX0_become_65 hy1 ?_
      obtain ⟨w10, e11, h⟩ := Option.bind_eq_some_iff.mp h
      refine v_callV (as := [.ref q8]) (st := []) (sX4_become (ldW_is hy0 e7) (ldW_is hy1 e9) e11) dX0_become_66 mlX0_38 (CRn (by decide) (by decide)) (ldW_is hy0 e7) rfl rfl rfl (Nat.le_of_ble_eq_true rfl) ?_
      refine v_iinc (v := 1) (ls1 := [some (.ref y0), some (.ref y1), some (.int (y2 + (1 : Int32)))]) dX0_become_69 rfl rfl (Nat.le_of_ble_eq_true rfl) rfl ?_
      refine v_goto (tgt := 48) dX0_become_72 rfl ?_
      refine V.sub (ls' := [some (.ref y0), some (.ref y1), some (.int (y2 + (1 : Int32)))]) (And.intro rfl (And.intro rfl (And.intro rfl trivial))) ?_
      exact ih _ _ h
set_option maxRecDepth 100000 in
set_option maxHeartbeats 4000000 in
theorem sX0_become {g : Wo} {M : Mem} {x0 : Nat} {x1 : Nat} {r : Mem} (hx0 : isG x0) (hx1 : isG x1) (h : fX0_become x0 x1 M = some r) : Sp g kX0_become 1 [.ref x0, .ref x1] M none r := by
  rw [fX0_become] at h
  refine Sp_intro (by decide) [some (.ref x0), some (.ref x1), none] rfl (Nat.le_of_ble_eq_true rfl) ?_
  refine v_aload_n dX0_become_0 rfl ?_
  refine v_aload_n dX0_become_1 rfl ?_
  refine v_geti dX0_become_2 flX0_25 hx1.1 rfl ?_
  refine v_puti dX0_become_5 fpX0_25 hx0.1 rfl ?_
  refine v_aload_n dX0_become_8 rfl ?_
  refine v_aload_n dX0_become_9 rfl ?_
  refine v_geti dX0_become_10 flX0_29 hx1.1 rfl ?_
  refine v_puti dX0_become_13 fpX0_29 hx0.1 rfl ?_
  refine v_aload_n dX0_become_16 rfl ?_
  refine v_getr dX0_become_17 flX0_17 hx1.1 rfl ?_
  refine v_iconst (v := 0) dX0_become_20 rfl ?_
  refine v_aload_n dX0_become_21 rfl ?_
  refine v_getr dX0_become_22 flX0_17 hx0.1 rfl ?_
  refine v_iconst (v := 0) dX0_become_25 rfl ?_
  refine v_bipush (v := 16) dX0_become_26 rfl ?_
  obtain ⟨M1, e2, h⟩ := Option.bind_eq_some_iff.mp h
  refine v_acI e2 dX0_become_28 acX0_32 hx1.2.2.1 hx0.2.2.1 (Nat.le_of_ble_eq_true rfl) (Nat.le_of_ble_eq_true rfl) ?_
  refine v_aload_n dX0_become_31 rfl ?_
  refine v_getr dX0_become_32 flX0_21 hx1.1 rfl ?_
  refine v_iconst (v := 0) dX0_become_35 rfl ?_
  refine v_aload_n dX0_become_36 rfl ?_
  refine v_getr dX0_become_37 flX0_21 hx0.1 rfl ?_
  refine v_iconst (v := 0) dX0_become_40 rfl ?_
  refine v_bipush (v := 64) dX0_become_41 rfl ?_
  obtain ⟨M3, e4, h⟩ := Option.bind_eq_some_iff.mp h
  refine v_acI e4 dX0_become_43 acX0_32 hx1.2.2.2.1 hx0.2.2.2.1 (Nat.le_of_ble_eq_true rfl) (Nat.le_of_ble_eq_true rfl) ?_
  refine v_iconst (v := 0) dX0_become_46 rfl ?_
  refine v_istore_n (ls1 := [some (.ref x0), some (.ref x1), some (.int (0 : Int32))]) dX0_become_47 (Nat.le_of_ble_eq_true rfl) rfl ?_
  refine V.sub (ls' := [some (.ref x0), some (.ref x1), some (.int (0 : Int32))]) (And.intro rfl (And.intro rfl (And.intro rfl trivial))) ?_
  refine tX0_become_48 hx0 hx1 (fun M12 h => ?_) FU _ _ h
  replace h := Option.some.inj h; subst h
  exact v_vret rfl dX0_become_75
/-! ===== BentPlain$Tape.isLetter(I)Z ===== -/
def fX2_isLetter (x0 : Int32) : Int32 := (if x0 < (97 : Int32) then (0 : Int32) else (if (122 : Int32) < x0 then (0 : Int32) else (1 : Int32)))
set_option maxRecDepth 100000 in
set_option maxHeartbeats 4000000 in
theorem sX2_isLetter {g : Wo} {M : Mem} {x0 : Int32} {r : Int32} (h : fX2_isLetter x0 = r) : Sp g kX2_isLetter 0 [.int x0] M (some (.int r)) M := by
  rw [fX2_isLetter] at h
  refine Sp_intro (by decide) [some (.int x0)] rfl (Nat.le_of_ble_eq_true rfl) ?_
  refine v_iload_n dX2_isLetter_0 rfl ?_
  refine v_bipush (v := 97) dX2_isLetter_1 rfl ?_
  refine v_icmp_lt (tgt := 16) dX2_isLetter_3 rfl (fun c1 => ?_) (fun c1 => ?_)
  · replace h := (if_pos c1).symm.trans h
    refine v_iconst (v := 0) dX2_isLetter_16 rfl ?_
    subst h
    exact v_zret rfl (z_nar z_0) dX2_isLetter_17
  · replace h := (if_neg c1).symm.trans h
    refine v_iload_n dX2_isLetter_6 rfl ?_
    refine v_bipush (v := 122) dX2_isLetter_7 rfl ?_
    refine v_icmp_gt (tgt := 16) dX2_isLetter_9 rfl (fun c2 => ?_) (fun c2 => ?_)
    · replace h := (if_pos c2).symm.trans h
      refine v_iconst (v := 0) dX2_isLetter_16 rfl ?_
      subst h
      exact v_zret rfl (z_nar z_0) dX2_isLetter_17
    · replace h := (if_neg c2).symm.trans h
      refine v_iconst (v := 1) dX2_isLetter_12 rfl ?_
      refine v_goto (tgt := 17) dX2_isLetter_13 rfl ?_
      subst h
      exact v_zret rfl (z_nar z_1) dX2_isLetter_17
/-! ===== BentPlain$Tape.isDigit(I)Z ===== -/
def fX2_isDigit (x0 : Int32) : Int32 := (if x0 < (48 : Int32) then (0 : Int32) else (if (57 : Int32) < x0 then (0 : Int32) else (1 : Int32)))
set_option maxRecDepth 100000 in
set_option maxHeartbeats 4000000 in
theorem sX2_isDigit {g : Wo} {M : Mem} {x0 : Int32} {r : Int32} (h : fX2_isDigit x0 = r) : Sp g kX2_isDigit 0 [.int x0] M (some (.int r)) M := by
  rw [fX2_isDigit] at h
  refine Sp_intro (by decide) [some (.int x0)] rfl (Nat.le_of_ble_eq_true rfl) ?_
  refine v_iload_n dX2_isDigit_0 rfl ?_
  refine v_bipush (v := 48) dX2_isDigit_1 rfl ?_
  refine v_icmp_lt (tgt := 16) dX2_isDigit_3 rfl (fun c1 => ?_) (fun c1 => ?_)
  · replace h := (if_pos c1).symm.trans h
    refine v_iconst (v := 0) dX2_isDigit_16 rfl ?_
    subst h
    exact v_zret rfl (z_nar z_0) dX2_isDigit_17
  · replace h := (if_neg c1).symm.trans h
    refine v_iload_n dX2_isDigit_6 rfl ?_
    refine v_bipush (v := 57) dX2_isDigit_7 rfl ?_
    refine v_icmp_gt (tgt := 16) dX2_isDigit_9 rfl (fun c2 => ?_) (fun c2 => ?_)
    · replace h := (if_pos c2).symm.trans h
      refine v_iconst (v := 0) dX2_isDigit_16 rfl ?_
      subst h
      exact v_zret rfl (z_nar z_0) dX2_isDigit_17
    · replace h := (if_neg c2).symm.trans h
      refine v_iconst (v := 1) dX2_isDigit_12 rfl ?_
      refine v_goto (tgt := 17) dX2_isDigit_13 rfl ?_
      subst h
      exact v_zret rfl (z_nar z_1) dX2_isDigit_17
/-! ===== BentPlain$Tape.advance()V ===== -/
def fX2_advance_8 {ρ : Type} (kx : Mem → Option ρ) : Nat → Mem → Option ρ
  | 0, _ => none
  | n + 1, M => (if (M.1 36 0) ≤ (M.1 36 2) then (kx M) else ((ldI M 37 120 (M.1 36 2)).bind fun v2 => (if v2 = (32 : Int32) then (fX2_advance_8 kx n (setI M 36 2 ((M.1 36 2) + (1 : Int32)))) else (kx M))))
def fX2_advance_59 {ρ : Type} (kx : Mem → Option ρ) : Nat → Mem → Option ρ
  | 0, _ => none
  | n + 1, M => (if (M.1 36 0) ≤ (M.1 36 4) then (kx M) else ((ldI M 37 120 (M.1 36 4)).bind fun v7 => (if (fX2_isLetter v7) = 0 then (kx M) else (fX2_advance_59 kx n (setI M 36 4 ((M.1 36 4) + (1 : Int32)))))))
def fX2_advance_115 {ρ : Type} (kx : Mem → Option ρ) : Nat → Mem → Option ρ
  | 0, _ => none
  | n + 1, M => (if (M.1 36 0) ≤ (M.1 36 4) then (kx M) else ((ldI M 37 120 (M.1 36 4)).bind fun v13 => (if (fX2_isDigit v13) = 0 then (kx M) else ((ldI M 37 120 (M.1 36 4)).bind fun v16 => (fX2_advance_115 kx n (setI (setI M 36 3 (imn ((((M.1 36 3) * (10 : Int32)) + v16) - (48 : Int32)) (1000 : Int32))) 36 4 (((setI M 36 3 (imn ((((M.1 36 3) * (10 : Int32)) + v16) - (48 : Int32)) (1000 : Int32))).1 36 4) + (1 : Int32))))))))
def fX2_advance (M : Mem) : Option Mem := (fX2_advance_8 (fun M5 => (fX2_advance_59 (fun M10 => (if (M10.1 36 4) ≤ (M10.1 36 2) then (fX2_advance_115 (fun M18 => (if (M18.1 36 4) ≤ (M18.1 36 2) then (if (M18.1 36 2) < (M18.1 36 0) then ((ldI M18 37 120 (M18.1 36 2)).bind fun v21 => some (setI (setI M18 36 1 (if v21 = (59 : Int32) then (1 : Int32) else (4 : Int32))) 36 4 (((setI M18 36 1 (if v21 = (59 : Int32) then (1 : Int32) else (4 : Int32))).1 36 4) + (1 : Int32)))) else some (setI M18 36 1 (0 : Int32))) else some (setI M18 36 1 (3 : Int32)))) FU M10) else some (setI M10 36 1 (2 : Int32)))) FU (setI (setI M5 36 4 (M5.1 36 2)) 36 3 (0 : Int32)))) FU (setI M 36 2 (M.1 36 4)))
set_option maxRecDepth 100000 in
set_option maxHeartbeats 4000000 in
theorem tX2_advance_8 {g : Wo} {ρ : Type} {kx : Mem → Option ρ} {r : ρ} {rr : Option Value} {Mr : Mem} (hk : ∀ (Mx : Mem), kx Mx = some r → V g kX2_advance (jm g 1 rr Mr) 46 [some (.ref 36)] [] Mx) : ∀ (n : Nat) (M : Mem), fX2_advance_8 kx n M = some r → V g kX2_advance (jm g 1 rr Mr) 8 [some (.ref 36)] [] M := by
  intro n
  induction n with
  | zero =>
    intro M h
    rw [fX2_advance_8] at h
    cases h
  | succ n ih =>
    intro M h
    rw [fX2_advance_8] at h
    refine v_aload_n dX2_advance_8 rfl ?_
    refine v_geti dX2_advance_9 flX2_25 sh_36 rfl ?_
    refine v_aload_n dX2_advance_12 rfl ?_
    refine v_geti dX2_advance_13 flX2_15 sh_36 rfl ?_
    refine v_icmp_ge (tgt := 46) dX2_advance_16 rfl (fun c1 => ?_) (fun c1 => ?_)
    · replace h := (if_pos c1).symm.trans h
      refine V.sub (ls' := [some (.ref 36)]) (And.intro rfl trivial) ?_
      exact hk _ h
    · replace h := (if_neg c1).symm.trans h
      refine v_aload_n dX2_advance_19 rfl ?_
      refine v_getr dX2_advance_20 flX2_9 sh_36 rfl ?_
      refine v_aload_n dX2_advance_23 rfl ?_
      refine v_geti dX2_advance_24 flX2_25 sh_36 rfl ?_
      obtain ⟨v2, e3, h⟩ := Option.bind_eq_some_iff.mp h
      refine v_ild e3 dX2_advance_27 sh_37 ?_
      refine v_bipush (v := 32) dX2_advance_28 rfl ?_
      refine v_icmp_ne (tgt := 46) dX2_advance_30 rfl (fun c4 => ?_) (fun c4 => ?_)
      · replace h := (if_neg c4).symm.trans h
        refine V.sub (ls' := [some (.ref 36)]) (And.intro rfl trivial) ?_
        exact hk _ h
      · replace h := (if_pos c4).symm.trans h
        refine v_aload_n dX2_advance_33 rfl ?_
        refine v_dup dX2_advance_34 rfl ?_
        refine v_geti dX2_advance_35 flX2_25 sh_36 rfl ?_
        refine v_iconst (v := 1) dX2_advance_38 rfl ?_
        refine v_iadd dX2_advance_39 ?_
        refine v_puti dX2_advance_40 fpX2_25 sh_36 rfl ?_
        refine v_goto (tgt := 8) dX2_advance_43 rfl ?_
        refine V.sub (ls' := [some (.ref 36)]) (And.intro rfl trivial) ?_
        exact ih _ h
set_option maxRecDepth 100000 in
set_option maxHeartbeats 4000000 in
theorem tX2_advance_59 {g : Wo} {ρ : Type} {kx : Mem → Option ρ} {r : ρ} {rr : Option Value} {Mr : Mem} (hk : ∀ (Mx : Mem), kx Mx = some r → V g kX2_advance (jm g 1 rr Mr) 98 [some (.ref 36)] [] Mx) : ∀ (n : Nat) (M : Mem), fX2_advance_59 kx n M = some r → V g kX2_advance (jm g 1 rr Mr) 59 [some (.ref 36)] [] M := by
  intro n
  induction n with
  | zero =>
    intro M h
    rw [fX2_advance_59] at h
    cases h
  | succ n ih =>
    intro M h
    rw [fX2_advance_59] at h
    refine v_aload_n dX2_advance_59 rfl ?_
    refine v_geti dX2_advance_60 flX2_19 sh_36 rfl ?_
    refine v_aload_n dX2_advance_63 rfl ?_
    refine v_geti dX2_advance_64 flX2_15 sh_36 rfl ?_
    refine v_icmp_ge (tgt := 98) dX2_advance_67 rfl (fun c6 => ?_) (fun c6 => ?_)
    · replace h := (if_pos c6).symm.trans h
      refine V.sub (ls' := [some (.ref 36)]) (And.intro rfl trivial) ?_
      exact hk _ h
    · replace h := (if_neg c6).symm.trans h
      refine v_aload_n dX2_advance_70 rfl ?_
      refine v_getr dX2_advance_71 flX2_9 sh_36 rfl ?_
      refine v_aload_n dX2_advance_74 rfl ?_
      refine v_geti dX2_advance_75 flX2_19 sh_36 rfl ?_
      obtain ⟨v7, e8, h⟩ := Option.bind_eq_some_iff.mp h
      refine v_ild e8 dX2_advance_78 sh_37 ?_
      refine v_callS (as := [.int v7]) (st := []) (sX2_isLetter rfl) dX2_advance_79 mlX2_31 (CRn (by decide) (by decide)) rfl rfl (Nat.le_of_ble_eq_true rfl) ?_
      refine v_if_eq (tgt := 98) dX2_advance_82 rfl (fun c9 => ?_) (fun c9 => ?_)
      · replace h := (if_pos c9).symm.trans h
        refine V.sub (ls' := [some (.ref 36)]) (And.intro rfl trivial) ?_
        exact hk _ h
      · replace h := (if_neg c9).symm.trans h
        refine v_aload_n dX2_advance_85 rfl ?_
        refine v_dup dX2_advance_86 rfl ?_
        refine v_geti dX2_advance_87 flX2_19 sh_36 rfl ?_
        refine v_iconst (v := 1) dX2_advance_90 rfl ?_
        refine v_iadd dX2_advance_91 ?_
        refine v_puti dX2_advance_92 fpX2_19 sh_36 rfl ?_
        refine v_goto (tgt := 59) dX2_advance_95 rfl ?_
        refine V.sub (ls' := [some (.ref 36)]) (And.intro rfl trivial) ?_
        exact ih _ h
set_option maxRecDepth 100000 in
set_option maxHeartbeats 4000000 in
theorem tX2_advance_115 {g : Wo} {ρ : Type} {kx : Mem → Option ρ} {r : ρ} {rr : Option Value} {Mr : Mem} (hk : ∀ (Mx : Mem), kx Mx = some r → V g kX2_advance (jm g 1 rr Mr) 184 [some (.ref 36)] [] Mx) : ∀ (n : Nat) (M : Mem), fX2_advance_115 kx n M = some r → V g kX2_advance (jm g 1 rr Mr) 115 [some (.ref 36)] [] M := by
  intro n
  induction n with
  | zero =>
    intro M h
    rw [fX2_advance_115] at h
    cases h
  | succ n ih =>
    intro M h
    rw [fX2_advance_115] at h
    refine v_aload_n dX2_advance_115 rfl ?_
    refine v_geti dX2_advance_116 flX2_19 sh_36 rfl ?_
    refine v_aload_n dX2_advance_119 rfl ?_
    refine v_geti dX2_advance_120 flX2_15 sh_36 rfl ?_
    refine v_icmp_ge (tgt := 184) dX2_advance_123 rfl (fun c12 => ?_) (fun c12 => ?_)
    · replace h := (if_pos c12).symm.trans h
      refine V.sub (ls' := [some (.ref 36)]) (And.intro rfl trivial) ?_
      exact hk _ h
    · replace h := (if_neg c12).symm.trans h
      refine v_aload_n dX2_advance_126 rfl ?_
      refine v_getr dX2_advance_127 flX2_9 sh_36 rfl ?_
      refine v_aload_n dX2_advance_130 rfl ?_
      refine v_geti dX2_advance_131 flX2_19 sh_36 rfl ?_
      obtain ⟨v13, e14, h⟩ := Option.bind_eq_some_iff.mp h
      refine v_ild e14 dX2_advance_134 sh_37 ?_
      refine v_callS (as := [.int v13]) (st := []) (sX2_isDigit rfl) dX2_advance_135 mlX2_38 (CRn (by decide) (by decide)) rfl rfl (Nat.le_of_ble_eq_true rfl) ?_
      refine v_if_eq (tgt := 184) dX2_advance_138 rfl (fun c15 => ?_) (fun c15 => ?_)
      · replace h := (if_pos c15).symm.trans h
        refine V.sub (ls' := [some (.ref 36)]) (And.intro rfl trivial) ?_
        exact hk _ h
      · replace h := (if_neg c15).symm.trans h
        refine v_aload_n dX2_advance_141 rfl ?_
        refine v_aload_n dX2_advance_142 rfl ?_
        refine v_geti dX2_advance_143 flX2_28 sh_36 rfl ?_
        refine v_bipush (v := 10) dX2_advance_146 rfl ?_
        refine v_imul dX2_advance_148 ?_
        refine v_aload_n dX2_advance_149 rfl ?_
        refine v_getr dX2_advance_150 flX2_9 sh_36 rfl ?_
        refine v_aload_n dX2_advance_153 rfl ?_
        refine v_geti dX2_advance_154 flX2_19 sh_36 rfl ?_
        obtain ⟨v16, e17, h⟩ := Option.bind_eq_some_iff.mp h
        refine v_ild e17 dX2_advance_157 sh_37 ?_
        refine v_iadd dX2_advance_158 ?_
        refine v_bipush (v := 48) dX2_advance_159 rfl ?_
        refine v_isub dX2_advance_161 ?_
        refine v_sipush (v := 1000) dX2_advance_162 rfl ?_
        refine v_mmin dX2_advance_165 mmX2_41 (Nat.le_of_ble_eq_true rfl) (Nat.le_of_ble_eq_true rfl) (Nat.le_refl _) (Nat.le_refl _) ?_
        refine v_puti dX2_advance_168 fpX2_28 sh_36 rfl ?_
        refine v_aload_n dX2_advance_171 rfl ?_
        refine v_dup dX2_advance_172 rfl ?_
        refine v_geti dX2_advance_173 flX2_19 sh_36 rfl ?_
        refine v_iconst (v := 1) dX2_advance_176 rfl ?_
        refine v_iadd dX2_advance_177 ?_
        refine v_puti dX2_advance_178 fpX2_19 sh_36 rfl ?_
        refine v_goto (tgt := 115) dX2_advance_181 rfl ?_
        refine V.sub (ls' := [some (.ref 36)]) (And.intro rfl trivial) ?_
        exact ih _ h
set_option maxRecDepth 100000 in
set_option maxHeartbeats 4000000 in
theorem sX2_advance {g : Wo} {M : Mem} {r : Mem} (h : fX2_advance M = some r) : Sp g kX2_advance 1 [.ref 36] M none r := by
  rw [fX2_advance] at h
  refine Sp_intro (by decide) [some (.ref 36)] rfl (Nat.le_of_ble_eq_true rfl) ?_
  refine v_aload_n dX2_advance_0 rfl ?_
  refine v_aload_n dX2_advance_1 rfl ?_
  refine v_geti dX2_advance_2 flX2_19 sh_36 rfl ?_
  refine v_puti dX2_advance_5 fpX2_25 sh_36 rfl ?_
  refine V.sub (ls' := [some (.ref 36)]) (And.intro rfl trivial) ?_
  refine tX2_advance_8 (fun M5 h => ?_) FU _ h
  refine v_aload_n dX2_advance_46 rfl ?_
  refine v_aload_n dX2_advance_47 rfl ?_
  refine v_geti dX2_advance_48 flX2_25 sh_36 rfl ?_
  refine v_puti dX2_advance_51 fpX2_19 sh_36 rfl ?_
  refine v_aload_n dX2_advance_54 rfl ?_
  refine v_iconst (v := 0) dX2_advance_55 rfl ?_
  refine v_puti dX2_advance_56 fpX2_28 sh_36 rfl ?_
  refine V.sub (ls' := [some (.ref 36)]) (And.intro rfl trivial) ?_
  refine tX2_advance_59 (fun M10 h => ?_) FU _ h
  refine v_aload_n dX2_advance_98 rfl ?_
  refine v_geti dX2_advance_99 flX2_19 sh_36 rfl ?_
  refine v_aload_n dX2_advance_102 rfl ?_
  refine v_geti dX2_advance_103 flX2_25 sh_36 rfl ?_
  refine v_icmp_le (tgt := 115) dX2_advance_106 rfl (fun c11 => ?_) (fun c11 => ?_)
  · replace h := (if_pos c11).symm.trans h
    refine V.sub (ls' := [some (.ref 36)]) (And.intro rfl trivial) ?_
    refine tX2_advance_115 (fun M18 h => ?_) FU _ h
    refine v_aload_n dX2_advance_184 rfl ?_
    refine v_geti dX2_advance_185 flX2_19 sh_36 rfl ?_
    refine v_aload_n dX2_advance_188 rfl ?_
    refine v_geti dX2_advance_189 flX2_25 sh_36 rfl ?_
    refine v_icmp_le (tgt := 201) dX2_advance_192 rfl (fun c19 => ?_) (fun c19 => ?_)
    · replace h := (if_pos c19).symm.trans h
      refine v_aload_n dX2_advance_201 rfl ?_
      refine v_geti dX2_advance_202 flX2_25 sh_36 rfl ?_
      refine v_aload_n dX2_advance_205 rfl ?_
      refine v_geti dX2_advance_206 flX2_15 sh_36 rfl ?_
      refine v_icmp_lt (tgt := 218) dX2_advance_209 rfl (fun c20 => ?_) (fun c20 => ?_)
      · replace h := (if_pos c20).symm.trans h
        refine v_aload_n dX2_advance_218 rfl ?_
        refine v_aload_n dX2_advance_219 rfl ?_
        refine v_getr dX2_advance_220 flX2_9 sh_36 rfl ?_
        refine v_aload_n dX2_advance_223 rfl ?_
        refine v_geti dX2_advance_224 flX2_25 sh_36 rfl ?_
        obtain ⟨v21, e22, h⟩ := Option.bind_eq_some_iff.mp h
        refine v_ild e22 dX2_advance_227 sh_37 ?_
        refine v_bipush (v := 59) dX2_advance_228 rfl ?_
        have hJ : V g kX2_advance (jm g 1 none r) 238 [some (.ref 36)] [.int (if v21 = (59 : Int32) then (1 : Int32) else (4 : Int32)), .ref 36] M18 := by
          refine v_puti dX2_advance_238 fpX2_35 sh_36 rfl ?_
          refine v_aload_n dX2_advance_241 rfl ?_
          refine v_dup dX2_advance_242 rfl ?_
          refine v_geti dX2_advance_243 flX2_19 sh_36 rfl ?_
          refine v_iconst (v := 1) dX2_advance_246 rfl ?_
          refine v_iadd dX2_advance_247 ?_
          refine v_puti dX2_advance_248 fpX2_19 sh_36 rfl ?_
          replace h := Option.some.inj h; subst h
          exact v_vret rfl dX2_advance_251
        refine v_icmp_ne (tgt := 237) dX2_advance_230 rfl (fun c23 => ?_) (fun c23 => ?_)
        · refine v_iconst (v := 4) dX2_advance_237 rfl ?_
          refine V.sub (ls' := [some (.ref 36)]) (And.intro rfl trivial) ?_
          first | (simp only [if_neg c23] at hJ; exact hJ) | exact hJ | (simp only [if_neg c23] at hJ ⊢; exact hJ)
        · refine v_iconst (v := 1) dX2_advance_233 rfl ?_
          refine v_goto (tgt := 238) dX2_advance_234 rfl ?_
          refine V.sub (ls' := [some (.ref 36)]) (And.intro rfl trivial) ?_
          first | (simp only [if_pos c23] at hJ; exact hJ) | exact hJ | (simp only [if_pos c23] at hJ ⊢; exact hJ)
      · replace h := (if_neg c20).symm.trans h
        refine v_aload_n dX2_advance_212 rfl ?_
        refine v_iconst (v := 0) dX2_advance_213 rfl ?_
        refine v_puti dX2_advance_214 fpX2_35 sh_36 rfl ?_
        replace h := Option.some.inj h; subst h
        exact v_vret rfl dX2_advance_217
    · replace h := (if_neg c19).symm.trans h
      refine v_aload_n dX2_advance_195 rfl ?_
      refine v_iconst (v := 3) dX2_advance_196 rfl ?_
      refine v_puti dX2_advance_197 fpX2_35 sh_36 rfl ?_
      replace h := Option.some.inj h; subst h
      exact v_vret rfl dX2_advance_200
  · replace h := (if_neg c11).symm.trans h
    refine v_aload_n dX2_advance_109 rfl ?_
    refine v_iconst (v := 2) dX2_advance_110 rfl ?_
    refine v_puti dX2_advance_111 fpX2_35 sh_36 rfl ?_
    replace h := Option.some.inj h; subst h
    exact v_vret rfl dX2_advance_114
/-! ===== BentPlain$Tape.begin()V ===== -/
def fX2_begin (M : Mem) : Option Mem := ((fX2_advance (setI M 36 4 (0 : Int32))).bind fun w1 => some w1)
set_option maxRecDepth 100000 in
set_option maxHeartbeats 4000000 in
theorem sX2_begin {g : Wo} {M : Mem} {r : Mem} (h : fX2_begin M = some r) : Sp g kX2_begin 2 [.ref 36] M none r := by
  rw [fX2_begin] at h
  refine Sp_intro (by decide) [some (.ref 36)] rfl (Nat.le_of_ble_eq_true rfl) ?_
  refine v_aload_n dX2_begin_0 rfl ?_
  refine v_iconst (v := 0) dX2_begin_1 rfl ?_
  refine v_puti dX2_begin_2 fpX2_19 sh_36 rfl ?_
  refine v_aload_n dX2_begin_5 rfl ?_
  obtain ⟨w1, e2, h⟩ := Option.bind_eq_some_iff.mp h
  refine v_callV (as := []) (st := []) (sX2_advance e2) dX2_begin_6 mlX2_22 (CRn (by decide) (by decide)) sh_36 rfl rfl rfl (Nat.le_of_ble_eq_true rfl) ?_
  replace h := Option.some.inj h; subst h
  exact v_vret rfl dX2_begin_9
/-! ===== BentPlain$Tape.isWord(Ljava/lang/String;)Z ===== -/
def fX2_isWord_28 (kx : Option Int32) (y1 : Nat) (M : Mem) : Nat → Int32 → Option Int32
  | 0, _ => none
  | n + 1, y2 => (if (sLen y1) ≤ y2 then kx else ((ldI M 37 120 ((M.1 36 2) + y2)).bind fun v4 => ((sAt y1 y2).bind fun v6 => (if v4 = v6 then (fX2_isWord_28 kx y1 M n (y2 + (1 : Int32))) else some (0 : Int32)))))
def fX2_isWord (x1 : Nat) (M : Mem) : Option Int32 := (if (M.1 36 1) = (2 : Int32) then (if ((M.1 36 4) - (M.1 36 2)) = (sLen x1) then (fX2_isWord_28 (some (1 : Int32)) x1 M FU (0 : Int32)) else some (0 : Int32)) else some (0 : Int32))
set_option maxRecDepth 100000 in
set_option maxHeartbeats 4000000 in
theorem tX2_isWord_28 {g : Wo} {kx : Option Int32} {y1 : Nat} (hy1 : isT y1) {M : Mem} {r : Int32} (hk : kx = some r → V g kX2_isWord (jm g 4 (some (.int r)) M) 63 [none, none, none] [] M) : ∀ (n : Nat) (y2 : Int32), fX2_isWord_28 kx y1 M n y2 = some r → V g kX2_isWord (jm g 4 (some (.int r)) M) 28 [some (.ref 36), some (.ref y1), some (.int y2)] [] M := by
  intro n
  induction n with
  | zero =>
    intro y2 h
    rw [fX2_isWord_28] at h
    cases h
  | succ n ih =>
    intro y2 h
    rw [fX2_isWord_28] at h
    refine v_iload_n dX2_isWord_28 rfl ?_
    refine v_aload_n dX2_isWord_29 rfl ?_
    refine v_callW (as := []) (st := [.int y2]) (sJ0_length hy1 rfl) dX2_isWord_30 mlX2_47 (CRn (by decide) (by decide)) (rec_isT hy1) rfl rfl (Nat.le_of_ble_eq_true rfl) ?_
    refine v_icmp_ge (tgt := 63) dX2_isWord_33 rfl (fun c3 => ?_) (fun c3 => ?_)
    · replace h := (if_pos c3).symm.trans h
      refine V.sub (ls' := [none, none, none]) trivial ?_
      exact hk h
    · replace h := (if_neg c3).symm.trans h
      refine v_aload_n dX2_isWord_36 rfl ?_
      refine v_getr dX2_isWord_37 flX2_9 sh_36 rfl ?_
      refine v_aload_n dX2_isWord_40 rfl ?_
      refine v_geti dX2_isWord_41 flX2_25 sh_36 rfl ?_
      refine v_iload_n dX2_isWord_44 rfl ?_
      refine v_iadd dX2_isWord_45 ?_
      obtain ⟨v4, e5, h⟩ := Option.bind_eq_some_iff.mp h
      refine v_ild e5 dX2_isWord_46 sh_37 ?_
      refine v_aload_n dX2_isWord_47 rfl ?_
      refine v_iload_n dX2_isWord_48 rfl ?_
      obtain ⟨v6, e7, h⟩ := Option.bind_eq_some_iff.mp h
      refine v_callW (as := [.int y2]) (st := [.int v4]) (sJ0_charAt hy1 e7) dX2_isWord_49 mlX2_52 (CRn (by decide) (by decide)) (rec_isT hy1) rfl rfl (Nat.le_of_ble_eq_true rfl) ?_
      refine v_icmp_eq (tgt := 57) dX2_isWord_52 rfl (fun c8 => ?_) (fun c8 => ?_)
      · replace h := (if_pos c8).symm.trans h
        refine v_iinc (v := 1) (ls1 := [some (.ref 36), some (.ref y1), some (.int (y2 + (1 : Int32)))]) dX2_isWord_57 rfl rfl (Nat.le_of_ble_eq_true rfl) rfl ?_
        refine v_goto (tgt := 28) dX2_isWord_60 rfl ?_
        refine V.sub (ls' := [some (.ref 36), some (.ref y1), some (.int (y2 + (1 : Int32)))]) (And.intro rfl (And.intro rfl (And.intro rfl trivial))) ?_
        exact ih _ h
      · replace h := (if_neg c8).symm.trans h
        refine v_iconst (v := 0) dX2_isWord_55 rfl ?_
        replace h := Option.some.inj h; subst h
        exact v_zret rfl (z_nar z_0) dX2_isWord_56
set_option maxRecDepth 100000 in
set_option maxHeartbeats 4000000 in
theorem sX2_isWord {g : Wo} {M : Mem} {x1 : Nat} {r : Int32} (hx1 : isT x1) (h : fX2_isWord x1 M = some r) : Sp g kX2_isWord 4 [.ref 36, .ref x1] M (some (.int r)) M := by
  rw [fX2_isWord] at h
  refine Sp_intro (by decide) [some (.ref 36), some (.ref x1), none] rfl (Nat.le_of_ble_eq_true rfl) ?_
  refine v_aload_n dX2_isWord_0 rfl ?_
  refine v_geti dX2_isWord_1 flX2_35 sh_36 rfl ?_
  refine v_iconst (v := 2) dX2_isWord_4 rfl ?_
  refine v_icmp_ne (tgt := 24) dX2_isWord_5 rfl (fun c1 => ?_) (fun c1 => ?_)
  · replace h := (if_neg c1).symm.trans h
    refine v_iconst (v := 0) dX2_isWord_24 rfl ?_
    replace h := Option.some.inj h; subst h
    exact v_zret rfl (z_nar z_0) dX2_isWord_25
  · replace h := (if_pos c1).symm.trans h
    refine v_aload_n dX2_isWord_8 rfl ?_
    refine v_geti dX2_isWord_9 flX2_19 sh_36 rfl ?_
    refine v_aload_n dX2_isWord_12 rfl ?_
    refine v_geti dX2_isWord_13 flX2_25 sh_36 rfl ?_
    refine v_isub dX2_isWord_16 ?_
    refine v_aload_n dX2_isWord_17 rfl ?_
    refine v_callW (as := []) (st := [.int ((M.1 36 4) - (M.1 36 2))]) (sJ0_length hx1 rfl) dX2_isWord_18 mlX2_47 (CRn (by decide) (by decide)) (rec_isT hx1) rfl rfl (Nat.le_of_ble_eq_true rfl) ?_
    refine v_icmp_eq (tgt := 26) dX2_isWord_21 rfl (fun c2 => ?_) (fun c2 => ?_)
    · replace h := (if_pos c2).symm.trans h
      refine v_iconst (v := 0) dX2_isWord_26 rfl ?_
      refine v_istore_n (ls1 := [some (.ref 36), some (.ref x1), some (.int (0 : Int32))]) dX2_isWord_27 (Nat.le_of_ble_eq_true rfl) rfl ?_
      refine V.sub (ls' := [some (.ref 36), some (.ref x1), some (.int (0 : Int32))]) (And.intro rfl (And.intro rfl (And.intro rfl trivial))) ?_
      refine tX2_isWord_28 hx1 (fun h => ?_) FU _ h
      refine v_iconst (v := 1) dX2_isWord_63 rfl ?_
      replace h := Option.some.inj h; subst h
      exact v_zret rfl (z_nar z_1) dX2_isWord_64
    · replace h := (if_neg c2).symm.trans h
      refine v_iconst (v := 0) dX2_isWord_24 rfl ?_
      replace h := Option.some.inj h; subst h
      exact v_zret rfl (z_nar z_0) dX2_isWord_25
/-! ===== BentPlain$Tape.isNumberBelow(I)Z ===== -/
def fX2_isNumberBelow (x1 : Int32) (M : Mem) : Int32 := (if (M.1 36 1) = (3 : Int32) then (if x1 ≤ (M.1 36 3) then (0 : Int32) else (1 : Int32)) else (0 : Int32))
set_option maxRecDepth 100000 in
set_option maxHeartbeats 4000000 in
theorem sX2_isNumberBelow {g : Wo} {M : Mem} {x1 : Int32} {r : Int32} (h : fX2_isNumberBelow x1 M = r) : Sp g kX2_isNumberBelow 0 [.ref 36, .int x1] M (some (.int r)) M := by
  rw [fX2_isNumberBelow] at h
  refine Sp_intro (by decide) [some (.ref 36), some (.int x1)] rfl (Nat.le_of_ble_eq_true rfl) ?_
  refine v_aload_n dX2_isNumberBelow_0 rfl ?_
  refine v_geti dX2_isNumberBelow_1 flX2_35 sh_36 rfl ?_
  refine v_iconst (v := 3) dX2_isNumberBelow_4 rfl ?_
  refine v_icmp_ne (tgt := 20) dX2_isNumberBelow_5 rfl (fun c1 => ?_) (fun c1 => ?_)
  · replace h := (if_neg c1).symm.trans h
    refine v_iconst (v := 0) dX2_isNumberBelow_20 rfl ?_
    subst h
    exact v_zret rfl (z_nar z_0) dX2_isNumberBelow_21
  · replace h := (if_pos c1).symm.trans h
    refine v_aload_n dX2_isNumberBelow_8 rfl ?_
    refine v_geti dX2_isNumberBelow_9 flX2_28 sh_36 rfl ?_
    refine v_iload_n dX2_isNumberBelow_12 rfl ?_
    refine v_icmp_ge (tgt := 20) dX2_isNumberBelow_13 rfl (fun c2 => ?_) (fun c2 => ?_)
    · replace h := (if_pos c2).symm.trans h
      refine v_iconst (v := 0) dX2_isNumberBelow_20 rfl ?_
      subst h
      exact v_zret rfl (z_nar z_0) dX2_isNumberBelow_21
    · replace h := (if_neg c2).symm.trans h
      refine v_iconst (v := 1) dX2_isNumberBelow_16 rfl ?_
      refine v_goto (tgt := 21) dX2_isNumberBelow_17 rfl ?_
      subst h
      exact v_zret rfl (z_nar z_1) dX2_isNumberBelow_21
/-! ===== BentPlain$Teller.tellField(LBentPlain$Tape;LBentPlain$Ground;)Z ===== -/
def fX3_tellField (M : Mem) : Option (Int32 × Mem) := (if (M.1 1 0) < (16 : Int32) then ((fX2_advance M).bind fun w2 => ((fX2_isWord 101 w2).bind fun v4 => (if v4 = 0 then ((fX0_addField (0 : Int32) w2).bind fun w7 => some ((1 : Int32), w7.2)) else ((fX2_advance w2).bind fun w9 => (if (fX2_isNumberBelow (10 : Int32) w9) = 0 then some ((0 : Int32), w9) else ((fX2_advance w9).bind fun w12 => ((fX0_addField (w9.1 36 3) w12).bind fun w14 => some ((1 : Int32), w14.2)))))))) else some ((0 : Int32), M))
set_option maxRecDepth 100000 in
set_option maxHeartbeats 4000000 in
theorem sX3_tellField {g : Wo} {M : Mem} {r : Int32 × Mem} (h : fX3_tellField M = some r) : Sp g kX3_tellField 5 [.ref 36, .ref 1] M (some (.int r.1)) r.2 := by
  rw [fX3_tellField] at h
  refine Sp_intro (by decide) [some (.ref 36), some (.ref 1), none] rfl (Nat.le_of_ble_eq_true rfl) ?_
  refine v_aload_n dX3_tellField_0 rfl ?_
  refine v_geti dX3_tellField_1 flX3_52 sh_1 rfl ?_
  refine v_bipush (v := 16) dX3_tellField_4 rfl ?_
  refine v_icmp_lt (tgt := 11) dX3_tellField_6 rfl (fun c1 => ?_) (fun c1 => ?_)
  · replace h := (if_pos c1).symm.trans h
    refine v_aload_n dX3_tellField_11 rfl ?_
    obtain ⟨w2, e3, h⟩ := Option.bind_eq_some_iff.mp h
    refine v_callV (as := []) (st := []) (sX2_advance e3) dX3_tellField_12 mlX3_27 (CRn (by decide) (by decide)) sh_36 rfl rfl rfl (Nat.le_of_ble_eq_true rfl) ?_
    refine v_iconst (v := 0) dX3_tellField_15 rfl ?_
    refine v_istore_n (ls1 := [some (.ref 36), some (.ref 1), some (.int (0 : Int32))]) dX3_tellField_16 (Nat.le_of_ble_eq_true rfl) rfl ?_
    refine v_aload_n dX3_tellField_17 rfl ?_
    refine v_ldcS (i := 1) dX3_tellField_18 rfl ?_
    obtain ⟨v4, e5, h⟩ := Option.bind_eq_some_iff.mp h
    refine v_callV (as := [.ref 101]) (st := []) (sX2_isWord (isT_of (i := 1) (by decide)) e5) dX3_tellField_20 mlX3_32 (CRn (by decide) (by decide)) sh_36 rfl rfl rfl (Nat.le_of_ble_eq_true rfl) ?_
    refine v_if_eq (tgt := 50) dX3_tellField_23 rfl (fun c6 => ?_) (fun c6 => ?_)
    · replace h := (if_pos c6).symm.trans h
      refine v_aload_n dX3_tellField_50 rfl ?_
      refine v_iload_n dX3_tellField_51 rfl ?_
      obtain ⟨w7, e8, h⟩ := Option.bind_eq_some_iff.mp h
      refine v_callV (as := [.int (0 : Int32)]) (st := []) (sX0_addField e8) dX3_tellField_52 mlX3_66 (CRn (by decide) (by decide)) sh_1 rfl rfl rfl (Nat.le_of_ble_eq_true rfl) ?_
      refine v_pop dX3_tellField_55 rfl ?_
      refine v_iconst (v := 1) dX3_tellField_56 rfl ?_
      replace h := Option.some.inj h; subst h
      exact v_zret rfl (z_nar z_1) dX3_tellField_57
    · replace h := (if_neg c6).symm.trans h
      refine v_aload_n dX3_tellField_26 rfl ?_
      obtain ⟨w9, e10, h⟩ := Option.bind_eq_some_iff.mp h
      refine v_callV (as := []) (st := []) (sX2_advance e10) dX3_tellField_27 mlX3_27 (CRn (by decide) (by decide)) sh_36 rfl rfl rfl (Nat.le_of_ble_eq_true rfl) ?_
      refine v_aload_n dX3_tellField_30 rfl ?_
      refine v_bipush (v := 10) dX3_tellField_31 rfl ?_
      refine v_callV (as := [.int (10 : Int32)]) (st := []) (sX2_isNumberBelow rfl) dX3_tellField_33 mlX3_59 (CRn (by decide) (by decide)) sh_36 rfl rfl rfl (Nat.le_of_ble_eq_true rfl) ?_
      refine v_if_ne (tgt := 41) dX3_tellField_36 rfl (fun c11 => ?_) (fun c11 => ?_)
      · replace h := (if_neg c11).symm.trans h
        refine v_aload_n dX3_tellField_41 rfl ?_
        refine v_geti dX3_tellField_42 flX3_63 sh_36 rfl ?_
        refine v_istore_n (ls1 := [some (.ref 36), some (.ref 1), some (.int (w9.1 36 3))]) dX3_tellField_45 (Nat.le_of_ble_eq_true rfl) rfl ?_
        refine v_aload_n dX3_tellField_46 rfl ?_
        obtain ⟨w12, e13, h⟩ := Option.bind_eq_some_iff.mp h
        refine v_callV (as := []) (st := []) (sX2_advance e13) dX3_tellField_47 mlX3_27 (CRn (by decide) (by decide)) sh_36 rfl rfl rfl (Nat.le_of_ble_eq_true rfl) ?_
        refine v_aload_n dX3_tellField_50 rfl ?_
        refine v_iload_n dX3_tellField_51 rfl ?_
        obtain ⟨w14, e15, h⟩ := Option.bind_eq_some_iff.mp h
        refine v_callV (as := [.int (w9.1 36 3)]) (st := []) (sX0_addField e15) dX3_tellField_52 mlX3_66 (CRn (by decide) (by decide)) sh_1 rfl rfl rfl (Nat.le_of_ble_eq_true rfl) ?_
        refine v_pop dX3_tellField_55 rfl ?_
        refine v_iconst (v := 1) dX3_tellField_56 rfl ?_
        replace h := Option.some.inj h; subst h
        exact v_zret rfl (z_nar z_1) dX3_tellField_57
      · replace h := (if_pos c11).symm.trans h
        refine v_iconst (v := 0) dX3_tellField_39 rfl ?_
        replace h := Option.some.inj h; subst h
        exact v_zret rfl (z_nar z_0) dX3_tellField_40
  · replace h := (if_neg c1).symm.trans h
    refine v_iconst (v := 0) dX3_tellField_9 rfl ?_
    replace h := Option.some.inj h; subst h
    exact v_zret rfl (z_nar z_0) dX3_tellField_10
/-! ===== BentPlain$Teller.sideName(I)Ljava/lang/String; ===== -/
def fX3_sideName (x0 : Int32) : Nat := (if x0 = (0 : Int32) then 103 else (if x0 = (1 : Int32) then 104 else (if x0 = (2 : Int32) then 105 else 106)))
theorem ttX3_sideName (x0 : Int32) : isT (fX3_sideName x0) := by
  unfold fX3_sideName
  repeat' split
  all_goals first | exact isT_of (i := 0) (by decide) | exact isT_of (i := 1) (by decide) | exact isT_of (i := 2) (by decide) | exact isT_of (i := 3) (by decide) | exact isT_of (i := 4) (by decide) | exact isT_of (i := 5) (by decide) | exact isT_of (i := 6) (by decide) | exact isT_of (i := 7) (by decide) | exact isT_of (i := 8) (by decide) | exact isT_of (i := 9) (by decide) | exact isT_of (i := 10) (by decide) | exact isT_of (i := 11) (by decide) | exact isT_of (i := 12) (by decide) | exact isT_of (i := 13) (by decide) | exact isT_of (i := 14) (by decide)
set_option maxRecDepth 100000 in
set_option maxHeartbeats 4000000 in
theorem sX3_sideName {g : Wo} {M : Mem} {x0 : Int32} {r : Nat} (h : fX3_sideName x0 = r) : Sp g kX3_sideName 0 [.int x0] M (some (.ref r)) M := by
  rw [fX3_sideName] at h
  refine Sp_intro (by decide) [some (.int x0)] rfl (Nat.le_of_ble_eq_true rfl) ?_
  refine v_iload_n dX3_sideName_0 rfl ?_
  by_cases c1 : x0 = (0 : Int32)
  · replace h := (if_pos c1).symm.trans h
    refine v_tabIn (off := 27) (tgt := 28) dX3_sideName_1 (by rw [c1]; decide) (by rw [c1]; decide) (by rw [c1]; decide) rfl ?_
    refine v_ldcS (i := 3) dX3_sideName_28 rfl ?_
    subst h
    exact v_aret rfl dX3_sideName_30
  · replace h := (if_neg c1).symm.trans h
    by_cases c2 : x0 = (1 : Int32)
    · replace h := (if_pos c2).symm.trans h
      refine v_tabIn (off := 30) (tgt := 31) dX3_sideName_1 (by rw [c2]; decide) (by rw [c2]; decide) (by rw [c2]; decide) rfl ?_
      refine v_ldcS (i := 4) dX3_sideName_31 rfl ?_
      subst h
      exact v_aret rfl dX3_sideName_33
    · replace h := (if_neg c2).symm.trans h
      by_cases c3 : x0 = (2 : Int32)
      · replace h := (if_pos c3).symm.trans h
        refine v_tabIn (off := 33) (tgt := 34) dX3_sideName_1 (by rw [c3]; decide) (by rw [c3]; decide) (by rw [c3]; decide) rfl ?_
        refine v_ldcS (i := 5) dX3_sideName_34 rfl ?_
        subst h
        exact v_aret rfl dX3_sideName_36
      · replace h := (if_neg c3).symm.trans h
        refine v_tabOut (tgt := 37) dX3_sideName_1 ?_ rfl ?_
        · have o0 := i32ne c1
          have o1 := i32ne c2
          have o2 := i32ne c3
          simp only [i32l_0, i32l_1, i32l_2] at o0 o1 o2
          omega
        · refine v_ldcS (i := 6) dX3_sideName_37 rfl ?_
          subst h
          exact v_aret rfl dX3_sideName_39
/-! ===== BentPlain$Teller.sideNamed(LBentPlain$Tape;)I ===== -/
def fX3_sideNamed_2 (kx : Option Int32) (M : Mem) : Nat → Int32 → Option Int32
  | 0, _ => none
  | n + 1, y1 => (if (4 : Int32) ≤ y1 then kx else ((fX2_isWord (fX3_sideName y1) M).bind fun v2 => (if v2 = 0 then (fX3_sideNamed_2 kx M n (y1 + (1 : Int32))) else some y1)))
def fX3_sideNamed (M : Mem) : Option Int32 := (fX3_sideNamed_2 (some (-1 : Int32)) M FU (0 : Int32))
set_option maxRecDepth 100000 in
set_option maxHeartbeats 4000000 in
theorem tX3_sideNamed_2 {g : Wo} {kx : Option Int32} {M : Mem} {r : Int32} (hk : kx = some r → V g kX3_sideNamed (jm g 5 (some (.int r)) M) 26 [none, none] [] M) : ∀ (n : Nat) (y1 : Int32), fX3_sideNamed_2 kx M n y1 = some r → V g kX3_sideNamed (jm g 5 (some (.int r)) M) 2 [some (.ref 36), some (.int y1)] [] M := by
  intro n
  induction n with
  | zero =>
    intro y1 h
    rw [fX3_sideNamed_2] at h
    cases h
  | succ n ih =>
    intro y1 h
    rw [fX3_sideNamed_2] at h
    refine v_iload_n dX3_sideNamed_2 rfl ?_
    refine v_iconst (v := 4) dX3_sideNamed_3 rfl ?_
    refine v_icmp_ge (tgt := 26) dX3_sideNamed_4 rfl (fun c1 => ?_) (fun c1 => ?_)
    · replace h := (if_pos c1).symm.trans h
      refine V.sub (ls' := [none, none]) trivial ?_
      exact hk h
    · replace h := (if_neg c1).symm.trans h
      refine v_aload_n dX3_sideNamed_7 rfl ?_
      refine v_iload_n dX3_sideNamed_8 rfl ?_
      refine v_callS (as := [.int y1]) (st := [.ref 36]) (sX3_sideName rfl) dX3_sideNamed_9 mlX3_104 (CRn (by decide) (by decide)) rfl rfl (Nat.le_of_ble_eq_true rfl) ?_
      obtain ⟨v2, e3, h⟩ := Option.bind_eq_some_iff.mp h
      refine v_callV (as := [.ref (fX3_sideName y1)]) (st := []) (sX2_isWord (ttX3_sideName y1) e3) dX3_sideNamed_12 mlX3_32 (CRn (by decide) (by decide)) sh_36 rfl rfl rfl (Nat.le_of_ble_eq_true rfl) ?_
      refine v_if_eq (tgt := 20) dX3_sideNamed_15 rfl (fun c4 => ?_) (fun c4 => ?_)
      · replace h := (if_pos c4).symm.trans h
        refine v_iinc (v := 1) (ls1 := [some (.ref 36), some (.int (y1 + (1 : Int32)))]) dX3_sideNamed_20 rfl rfl (Nat.le_of_ble_eq_true rfl) rfl ?_
        refine v_goto (tgt := 2) dX3_sideNamed_23 rfl ?_
        refine V.sub (ls' := [some (.ref 36), some (.int (y1 + (1 : Int32)))]) (And.intro rfl (And.intro rfl trivial)) ?_
        exact ih _ h
      · replace h := (if_neg c4).symm.trans h
        refine v_iload_n dX3_sideNamed_18 rfl ?_
        replace h := Option.some.inj h; subst h
        exact v_iret rfl dX3_sideNamed_19
set_option maxRecDepth 100000 in
set_option maxHeartbeats 4000000 in
theorem sX3_sideNamed {g : Wo} {M : Mem} {r : Int32} (h : fX3_sideNamed M = some r) : Sp g kX3_sideNamed 5 [.ref 36] M (some (.int r)) M := by
  rw [fX3_sideNamed] at h
  refine Sp_intro (by decide) [some (.ref 36), none] rfl (Nat.le_of_ble_eq_true rfl) ?_
  refine v_iconst (v := 0) dX3_sideNamed_0 rfl ?_
  refine v_istore_n (ls1 := [some (.ref 36), some (.int (0 : Int32))]) dX3_sideNamed_1 (Nat.le_of_ble_eq_true rfl) rfl ?_
  refine V.sub (ls' := [some (.ref 36), some (.int (0 : Int32))]) (And.intro rfl (And.intro rfl trivial)) ?_
  refine tX3_sideNamed_2 (fun h => ?_) FU _ h
  refine v_iconst (v := -1) dX3_sideNamed_26 rfl ?_
  replace h := Option.some.inj h; subst h
  exact v_iret rfl dX3_sideNamed_27
