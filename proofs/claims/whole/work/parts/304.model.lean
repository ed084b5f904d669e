/-! ===== BentPlainModel.square(III)I ===== -/
def fX6_square_52 {ρ : Type} (kx : Int32 → Option ρ) (y3 : Int32) (y4 : Int32) (y6 : Int32) (M : Mem) : Nat → Int32 → Int32 → Option ρ
  | 0, _, _ => none
  | n + 1, y5, y7 => (if y3 ≤ y7 then (kx y5) else (if y5 < 0 then (kx y5) else ((fX6_onward y5 M).bind fun v10 => (fX6_square_52 kx y3 y4 y6 M n v10 (y7 + (1 : Int32))))))
def fX6_square_42 (kx : Option (Int32 × Mem)) (y3 : Int32) (y4 : Int32) (M : Mem) : Nat → Int32 → Int32 → Option (Int32 × Mem)
  | 0, _, _ => none
  | n + 1, y5, y6 => (if (64 : Int32) < y6 then kx else (fX6_square_52 (fun u12 => (if 0 ≤ u12 then (if (((u12 / (4 : Int32)) * (4 : Int32)) + ((u12 + (1 : Int32)) - (u12 + (1 : Int32)) / (4 : Int32) * (4 : Int32))) = y4 then some (y6, M) else (fX6_square_42 kx y3 y4 M n (((u12 / (4 : Int32)) * (4 : Int32)) + ((u12 + (1 : Int32)) - (u12 + (1 : Int32)) / (4 : Int32) * (4 : Int32))) (y6 + (1 : Int32)))) else ((fX6_finds (-1000000004 : Int32) M).bind fun w15 => some (w15.1, w15.2)))) y3 y4 y6 M FU y5 (0 : Int32)))
def fX6_square (x1 : Int32) (x2 : Int32) (x3 : Int32) (M : Mem) : Option (Int32 × Mem) := ((fX6_isWay x1 x2 M).bind fun v1 => (if v1 = 0 then ((fX6_finds (-1000000001 : Int32) M).bind fun w4 => some (w4.1, w4.2)) else (if (fX6_in ((x3).toInt64) (1 : Int64) (9 : Int64)) = 0 then ((fX6_finds (-1000000001 : Int32) M).bind fun w19 => some (w19.1, w19.2)) else (fX6_square_42 (((fX6_finds (-1000000004 : Int32) M).bind fun w17 => some (w17.1, w17.2))) x3 (((4 : Int32) * x1) + x2) M FU (((4 : Int32) * x1) + x2) (1 : Int32)))))
set_option maxRecDepth 100000 in
set_option maxHeartbeats 4000000 in
theorem tX6_square_52 {g : Wo} {ρ : Type} {kx : Int32 → Option ρ} {y3 : Int32} {y4 : Int32} {y6 : Int32} {M : Mem} {r : ρ} {rr : Option Value} {Mr : Mem} (hk : ∀ (z5 : Int32), kx z5 = some r → V g kX6_square (jm g 3 rr Mr) 77 [some (.ref 49), none, none, some (.int y3), some (.int y4), some (.int z5), some (.int y6), none] [] M) : ∀ (n : Nat) (y5 : Int32) (y7 : Int32), fX6_square_52 kx y3 y4 y6 M n y5 y7 = some r → V g kX6_square (jm g 3 rr Mr) 52 [some (.ref 49), none, none, some (.int y3), some (.int y4), some (.int y5), some (.int y6), some (.int y7)] [] M := by
  intro n
  induction n with
  | zero =>
    intro y5 y7 h
    rw [fX6_square_52] at h
    cases h
  | succ n ih =>
    intro y5 y7 h
    rw [fX6_square_52] at h
    refine v_iload dX6_square_52 rfl ?_
    refine v_iload_n dX6_square_54 rfl ?_
    refine v_icmp_ge (tgt := 77) dX6_square_55 rfl (fun c8 => ?_) (fun c8 => ?_)
    · replace h := (if_pos c8).symm.trans h
      refine V.sub (ls' := [some (.ref 49), none, none, some (.int y3), some (.int y4), some (.int y5), some (.int y6), none]) (And.intro rfl (And.intro rfl (And.intro rfl (And.intro rfl (And.intro rfl trivial))))) ?_
      exact hk _ h
    · replace h := (if_neg c8).symm.trans h
      refine v_iload dX6_square_58 rfl ?_
      refine v_if_lt (tgt := 77) dX6_square_60 rfl (fun c9 => ?_) (fun c9 => ?_)
      · replace h := (if_pos c9).symm.trans h
        refine V.sub (ls' := [some (.ref 49), none, none, some (.int y3), some (.int y4), some (.int y5), some (.int y6), none]) (And.intro rfl (And.intro rfl (And.intro rfl (And.intro rfl (And.intro rfl trivial))))) ?_
        exact hk _ h
      · replace h := (if_neg c9).symm.trans h
        refine v_aload_n dX6_square_63 rfl ?_
        refine v_iload dX6_square_64 rfl ?_
        obtain ⟨v10, e11, h⟩ := Option.bind_eq_some_iff.mp h
        refine v_callV (as := [.int y5]) (st := []) (sX6_onward e11) dX6_square_66 mlX6_112 (CRn (by decide) (by decide)) sh_49 rfl rfl rfl (Nat.le_of_ble_eq_true rfl) ?_
        refine v_istore (ls1 := [some (.ref 49), none, none, some (.int y3), some (.int y4), some (.int v10), some (.int y6), some (.int y7)]) dX6_square_69 (Nat.le_of_ble_eq_true rfl) rfl ?_
        refine v_iinc (v := 1) (ls1 := [some (.ref 49), none, none, some (.int y3), some (.int y4), some (.int v10), some (.int y6), some (.int (y7 + (1 : Int32)))]) dX6_square_71 rfl rfl (Nat.le_of_ble_eq_true rfl) rfl ?_
        refine v_goto (tgt := 52) dX6_square_74 rfl ?_
        refine V.sub (ls' := [some (.ref 49), none, none, some (.int y3), some (.int y4), some (.int v10), some (.int y6), some (.int (y7 + (1 : Int32)))]) (And.intro rfl (And.intro rfl (And.intro rfl (And.intro rfl (And.intro rfl (And.intro rfl trivial)))))) ?_
        exact ih _ _ h
set_option maxRecDepth 100000 in
set_option maxHeartbeats 4000000 in
theorem tX6_square_42 {g : Wo} {kx : Option (Int32 × Mem)} {y3 : Int32} {y4 : Int32} {M : Mem} {r : Int32 × Mem} (hk : kx = some r → V g kX6_square (jm g 3 (some (.int r.1)) r.2) 120 [some (.ref 49), none, none, none, none, none, none, none] [] M) : ∀ (n : Nat) (y5 : Int32) (y6 : Int32), fX6_square_42 kx y3 y4 M n y5 y6 = some r → V g kX6_square (jm g 3 (some (.int r.1)) r.2) 42 [some (.ref 49), none, none, some (.int y3), some (.int y4), some (.int y5), some (.int y6), none] [] M := by
  intro n
  induction n with
  | zero =>
    intro y5 y6 h
    rw [fX6_square_42] at h
    cases h
  | succ n ih =>
    intro y5 y6 h
    rw [fX6_square_42] at h
    refine v_iload dX6_square_42 rfl ?_
    refine v_bipush (v := 64) dX6_square_44 rfl ?_
    refine v_icmp_gt (tgt := 120) dX6_square_46 rfl (fun c7 => ?_) (fun c7 => ?_)
    · replace h := (if_pos c7).symm.trans h
      refine V.sub (ls' := [some (.ref 49), none, none, none, none, none, none, none]) (And.intro rfl trivial) ?_
      exact hk h
    · replace h := (if_neg c7).symm.trans h
      refine v_iconst (v := 0) dX6_square_49 rfl ?_
      refine v_istore (ls1 := [some (.ref 49), none, none, some (.int y3), some (.int y4), some (.int y5), some (.int y6), some (.int (0 : Int32))]) dX6_square_50 (Nat.le_of_ble_eq_true rfl) rfl ?_
      refine V.sub (ls' := [some (.ref 49), none, none, some (.int y3), some (.int y4), some (.int y5), some (.int y6), some (.int (0 : Int32))]) (And.intro rfl (And.intro rfl (And.intro rfl (And.intro rfl (And.intro rfl (And.intro rfl trivial)))))) ?_
      refine tX6_square_52 (fun u12 h => ?_) FU _ _ h
      refine v_iload dX6_square_77 rfl ?_
      refine v_if_ge (tgt := 89) dX6_square_79 rfl (fun c13 => ?_) (fun c13 => ?_)
      · replace h := (if_pos c13).symm.trans h
        refine v_iload dX6_square_89 rfl ?_
        refine v_iconst (v := 4) dX6_square_91 rfl ?_
        refine v_idiv dX6_square_92 (by decide) ?_
        refine v_iconst (v := 4) dX6_square_93 rfl ?_
        refine v_imul dX6_square_94 ?_
        refine v_iload dX6_square_95 rfl ?_
        refine v_iconst (v := 1) dX6_square_97 rfl ?_
        refine v_iadd dX6_square_98 ?_
        refine v_iconst (v := 4) dX6_square_99 rfl ?_
        refine v_irem dX6_square_100 (by decide) ?_
        refine v_iadd dX6_square_101 ?_
        refine v_istore (ls1 := [some (.ref 49), none, none, some (.int y3), some (.int y4), some (.int (((u12 / (4 : Int32)) * (4 : Int32)) + ((u12 + (1 : Int32)) - (u12 + (1 : Int32)) / (4 : Int32) * (4 : Int32)))), some (.int y6), none]) dX6_square_102 (Nat.le_of_ble_eq_true rfl) rfl ?_
        refine v_iload dX6_square_104 rfl ?_
        refine v_iload dX6_square_106 rfl ?_
        refine v_icmp_ne (tgt := 114) dX6_square_108 rfl (fun c14 => ?_) (fun c14 => ?_)
        · replace h := (if_neg c14).symm.trans h
          refine v_iinc (v := 1) (ls1 := [some (.ref 49), none, none, some (.int y3), some (.int y4), some (.int (((u12 / (4 : Int32)) * (4 : Int32)) + ((u12 + (1 : Int32)) - (u12 + (1 : Int32)) / (4 : Int32) * (4 : Int32)))), some (.int (y6 + (1 : Int32))), none]) dX6_square_114 rfl rfl (Nat.le_of_ble_eq_true rfl) rfl ?_
          refine v_goto (tgt := 42) dX6_square_117 rfl ?_
          refine V.sub (ls' := [some (.ref 49), none, none, some (.int y3), some (.int y4), some (.int (((u12 / (4 : Int32)) * (4 : Int32)) + ((u12 + (1 : Int32)) - (u12 + (1 : Int32)) / (4 : Int32) * (4 : Int32)))), some (.int (y6 + (1 : Int32))), none]) (And.intro rfl (And.intro rfl (And.intro rfl (And.intro rfl (And.intro rfl trivial))))) ?_
          exact ih _ _ h
        · replace h := (if_pos c14).symm.trans h
          refine v_iload dX6_square_111 rfl ?_
          replace h := Option.some.inj h; subst h
          exact v_iret rfl dX6_square_113
      · replace h := (if_neg c13).symm.trans h
        refine v_aload_n dX6_square_82 rfl ?_
        refine v_ldc (v := -1000000004) dX6_square_83 w_880 ?_
        obtain ⟨w15, e16, h⟩ := Option.bind_eq_some_iff.mp h
        refine v_callV (as := [.int (-1000000004 : Int32)]) (st := []) (sX6_finds e16) dX6_square_85 mlX6_69 (CRn (by decide) (by decide)) sh_49 rfl rfl rfl (Nat.le_of_ble_eq_true rfl) ?_
        replace h := Option.some.inj h; subst h
        exact v_iret rfl dX6_square_88
set_option maxRecDepth 100000 in
set_option maxHeartbeats 4000000 in
theorem sX6_square {g : Wo} {M : Mem} {x1 : Int32} {x2 : Int32} {x3 : Int32} {r : Int32 × Mem} (h : fX6_square x1 x2 x3 M = some r) : Sp g kX6_square 3 [.ref 49, .int x1, .int x2, .int x3] M (some (.int r.1)) r.2 := by
  rw [fX6_square] at h
  refine Sp_intro (by decide) [some (.ref 49), some (.int x1), some (.int x2), some (.int x3), none, none, none, none] rfl (Nat.le_of_ble_eq_true rfl) ?_
  refine v_aload_n dX6_square_0 rfl ?_
  refine v_iload_n dX6_square_1 rfl ?_
  refine v_iload_n dX6_square_2 rfl ?_
  obtain ⟨v1, e2, h⟩ := Option.bind_eq_some_iff.mp h
  refine v_callV (as := [.int x1, .int x2]) (st := []) (sX6_isWay e2) dX6_square_3 mlX6_88 (CRn (by decide) (by decide)) sh_49 rfl rfl rfl (Nat.le_of_ble_eq_true rfl) ?_
  refine v_if_eq (tgt := 21) dX6_square_6 rfl (fun c3 => ?_) (fun c3 => ?_)
  · replace h := (if_pos c3).symm.trans h
    refine v_aload_n dX6_square_21 rfl ?_
    refine v_ldc (v := -1000000001) dX6_square_22 w_809 ?_
    obtain ⟨w4, e5, h⟩ := Option.bind_eq_some_iff.mp h
    refine v_callV (as := [.int (-1000000001 : Int32)]) (st := []) (sX6_finds e5) dX6_square_24 mlX6_69 (CRn (by decide) (by decide)) sh_49 rfl rfl rfl (Nat.le_of_ble_eq_true rfl) ?_
    replace h := Option.some.inj h; subst h
    exact v_iret rfl dX6_square_27
  · replace h := (if_neg c3).symm.trans h
    refine v_iload_n dX6_square_9 rfl ?_
    refine v_i2l dX6_square_10 ?_
    refine v_lconst (v := 1) dX6_square_11 rfl ?_
    refine v_ldc2 (v := 9) dX6_square_12 w_805 ?_
    refine v_callS (as := [.long ((x3).toInt64), .long (1 : Int64), .long (9 : Int64)]) (st := []) (sX6_in rfl) dX6_square_15 mlX6_45 (CRn (by decide) (by decide)) rfl rfl (Nat.le_of_ble_eq_true rfl) ?_
    refine v_if_ne (tgt := 28) dX6_square_18 rfl (fun c6 => ?_) (fun c6 => ?_)
    · replace h := (if_neg c6).symm.trans h
      refine v_iconst (v := 4) dX6_square_28 rfl ?_
      refine v_iload_n dX6_square_29 rfl ?_
      refine v_imul dX6_square_30 ?_
      refine v_iload_n dX6_square_31 rfl ?_
      refine v_iadd dX6_square_32 ?_
      refine v_istore (ls1 := [some (.ref 49), some (.int x1), some (.int x2), some (.int x3), some (.int (((4 : Int32) * x1) + x2)), none, none, none]) dX6_square_33 (Nat.le_of_ble_eq_true rfl) rfl ?_
      refine v_iload dX6_square_35 rfl ?_
      refine v_istore (ls1 := [some (.ref 49), some (.int x1), some (.int x2), some (.int x3), some (.int (((4 : Int32) * x1) + x2)), some (.int (((4 : Int32) * x1) + x2)), none, none]) dX6_square_37 (Nat.le_of_ble_eq_true rfl) rfl ?_
      refine v_iconst (v := 1) dX6_square_39 rfl ?_
      refine v_istore (ls1 := [some (.ref 49), some (.int x1), some (.int x2), some (.int x3), some (.int (((4 : Int32) * x1) + x2)), some (.int (((4 : Int32) * x1) + x2)), some (.int (1 : Int32)), none]) dX6_square_40 (Nat.le_of_ble_eq_true rfl) rfl ?_
      refine V.sub (ls' := [some (.ref 49), none, none, some (.int x3), some (.int (((4 : Int32) * x1) + x2)), some (.int (((4 : Int32) * x1) + x2)), some (.int (1 : Int32)), none]) (And.intro rfl (And.intro rfl (And.intro rfl (And.intro rfl (And.intro rfl trivial))))) ?_
      refine tX6_square_42 (fun h => ?_) FU _ _ h
      refine v_aload_n dX6_square_120 rfl ?_
      refine v_ldc (v := -1000000004) dX6_square_121 w_880 ?_
      obtain ⟨w17, e18, h⟩ := Option.bind_eq_some_iff.mp h
      refine v_callV (as := [.int (-1000000004 : Int32)]) (st := []) (sX6_finds e18) dX6_square_123 mlX6_69 (CRn (by decide) (by decide)) sh_49 rfl rfl rfl (Nat.le_of_ble_eq_true rfl) ?_
      replace h := Option.some.inj h; subst h
      exact v_iret rfl dX6_square_126
    · replace h := (if_pos c6).symm.trans h
      refine v_aload_n dX6_square_21 rfl ?_
      refine v_ldc (v := -1000000001) dX6_square_22 w_809 ?_
      obtain ⟨w19, e20, h⟩ := Option.bind_eq_some_iff.mp h
      refine v_callV (as := [.int (-1000000001 : Int32)]) (st := []) (sX6_finds e20) dX6_square_24 mlX6_69 (CRn (by decide) (by decide)) sh_49 rfl rfl rfl (Nat.le_of_ble_eq_true rfl) ?_
      replace h := Option.some.inj h; subst h
      exact v_iret rfl dX6_square_27
/-! ===== BentPlainModel.dine(IIII)I ===== -/
def fX6_dine_44 (kx : Option (Int32 × Mem)) (M : Mem) : Nat → Int32 → Int32 → Int32 → Option (Int32 × Mem)
  | 0, _, _, _ => none
  | n + 1, y5, y6, y7 => (if (64 : Int32) < y7 then kx else (if y5 < 0 then kx else (if y6 < 0 then kx else (if (y5 / (4 : Int32)) = (y6 / (4 : Int32)) then some (y7, M) else ((fX6_onward y5 M).bind fun v13 => ((fX6_onward y6 M).bind fun v15 => (fX6_dine_44 kx M n v13 v15 (y7 + (1 : Int32)))))))))
def fX6_dine (x1 : Int32) (x2 : Int32) (x3 : Int32) (x4 : Int32) (M : Mem) : Option (Int32 × Mem) := ((fX6_isWay x1 x2 M).bind fun v1 => (if v1 = 0 then ((fX6_finds (-1000000001 : Int32) M).bind fun w4 => some (w4.1, w4.2)) else ((fX6_isWay x3 x4 M).bind fun v6 => (if v6 = 0 then ((fX6_finds (-1000000001 : Int32) M).bind fun w19 => some (w19.1, w19.2)) else (fX6_dine_44 (((fX6_finds (-1000000004 : Int32) M).bind fun w17 => some (w17.1, w17.2))) M FU (((4 : Int32) * x1) + x2) (((4 : Int32) * x3) + x4) (0 : Int32))))))
set_option maxRecDepth 100000 in
set_option maxHeartbeats 4000000 in
theorem tX6_dine_44 {g : Wo} {kx : Option (Int32 × Mem)} {M : Mem} {r : Int32 × Mem} (hk : kx = some r → V g kX6_dine (jm g 3 (some (.int r.1)) r.2) 97 [some (.ref 49), none, none, none, none, none, none, none] [] M) : ∀ (n : Nat) (y5 : Int32) (y6 : Int32) (y7 : Int32), fX6_dine_44 kx M n y5 y6 y7 = some r → V g kX6_dine (jm g 3 (some (.int r.1)) r.2) 44 [some (.ref 49), none, none, none, none, some (.int y5), some (.int y6), some (.int y7)] [] M := by
  intro n
  induction n with
  | zero =>
    intro y5 y6 y7 h
    rw [fX6_dine_44] at h
    cases h
  | succ n ih =>
    intro y5 y6 y7 h
    rw [fX6_dine_44] at h
    refine v_iload dX6_dine_44 rfl ?_
    refine v_bipush (v := 64) dX6_dine_46 rfl ?_
    refine v_icmp_gt (tgt := 97) dX6_dine_48 rfl (fun c9 => ?_) (fun c9 => ?_)
    · replace h := (if_pos c9).symm.trans h
      refine V.sub (ls' := [some (.ref 49), none, none, none, none, none, none, none]) (And.intro rfl trivial) ?_
      exact hk h
    · replace h := (if_neg c9).symm.trans h
      refine v_iload dX6_dine_51 rfl ?_
      refine v_if_lt (tgt := 97) dX6_dine_53 rfl (fun c10 => ?_) (fun c10 => ?_)
      · replace h := (if_pos c10).symm.trans h
        refine V.sub (ls' := [some (.ref 49), none, none, none, none, none, none, none]) (And.intro rfl trivial) ?_
        exact hk h
      · replace h := (if_neg c10).symm.trans h
        refine v_iload dX6_dine_56 rfl ?_
        refine v_if_lt (tgt := 97) dX6_dine_58 rfl (fun c11 => ?_) (fun c11 => ?_)
        · replace h := (if_pos c11).symm.trans h
          refine V.sub (ls' := [some (.ref 49), none, none, none, none, none, none, none]) (And.intro rfl trivial) ?_
          exact hk h
        · replace h := (if_neg c11).symm.trans h
          refine v_iload dX6_dine_61 rfl ?_
          refine v_iconst (v := 4) dX6_dine_63 rfl ?_
          refine v_idiv dX6_dine_64 (by decide) ?_
          refine v_iload dX6_dine_65 rfl ?_
          refine v_iconst (v := 4) dX6_dine_67 rfl ?_
          refine v_idiv dX6_dine_68 (by decide) ?_
          refine v_icmp_ne (tgt := 75) dX6_dine_69 rfl (fun c12 => ?_) (fun c12 => ?_)
          · replace h := (if_neg c12).symm.trans h
            refine v_aload_n dX6_dine_75 rfl ?_
            refine v_iload dX6_dine_76 rfl ?_
            obtain ⟨v13, e14, h⟩ := Option.bind_eq_some_iff.mp h
            refine v_callV (as := [.int y5]) (st := []) (sX6_onward e14) dX6_dine_78 mlX6_112 (CRn (by decide) (by decide)) sh_49 rfl rfl rfl (Nat.le_of_ble_eq_true rfl) ?_
            refine v_istore (ls1 := [some (.ref 49), none, none, none, none, some (.int v13), some (.int y6), some (.int y7)]) dX6_dine_81 (Nat.le_of_ble_eq_true rfl) rfl ?_
            refine v_aload_n dX6_dine_83 rfl ?_
            refine v_iload dX6_dine_84 rfl ?_
            obtain ⟨v15, e16, h⟩ := Option.bind_eq_some_iff.mp h
            refine v_callV (as := [.int y6]) (st := []) (sX6_onward e16) dX6_dine_86 mlX6_112 (CRn (by decide) (by decide)) sh_49 rfl rfl rfl (Nat.le_of_ble_eq_true rfl) ?_
            refine v_istore (ls1 := [some (.ref 49), none, none, none, none, some (.int v13), some (.int v15), some (.int y7)]) dX6_dine_89 (Nat.le_of_ble_eq_true rfl) rfl ?_
            refine v_iinc (v := 1) (ls1 := [some (.ref 49), none, none, none, none, some (.int v13), some (.int v15), some (.int (y7 + (1 : Int32)))]) dX6_dine_91 rfl rfl (Nat.le_of_ble_eq_true rfl) rfl ?_
            refine v_goto (tgt := 44) dX6_dine_94 rfl ?_
            refine V.sub (ls' := [some (.ref 49), none, none, none, none, some (.int v13), some (.int v15), some (.int (y7 + (1 : Int32)))]) (And.intro rfl (And.intro rfl (And.intro rfl (And.intro rfl trivial)))) ?_
            exact ih _ _ _ h
          · replace h := (if_pos c12).symm.trans h
            refine v_iload dX6_dine_72 rfl ?_
            replace h := Option.some.inj h; subst h
            exact v_iret rfl dX6_dine_74
set_option maxRecDepth 100000 in
set_option maxHeartbeats 4000000 in
theorem sX6_dine {g : Wo} {M : Mem} {x1 : Int32} {x2 : Int32} {x3 : Int32} {x4 : Int32} {r : Int32 × Mem} (h : fX6_dine x1 x2 x3 x4 M = some r) : Sp g kX6_dine 3 [.ref 49, .int x1, .int x2, .int x3, .int x4] M (some (.int r.1)) r.2 := by
  rw [fX6_dine] at h
  refine Sp_intro (by decide) [some (.ref 49), some (.int x1), some (.int x2), some (.int x3), some (.int x4), none, none, none] rfl (Nat.le_of_ble_eq_true rfl) ?_
  refine v_aload_n dX6_dine_0 rfl ?_
  refine v_iload_n dX6_dine_1 rfl ?_
  refine v_iload_n dX6_dine_2 rfl ?_
  obtain ⟨v1, e2, h⟩ := Option.bind_eq_some_iff.mp h
  refine v_callV (as := [.int x1, .int x2]) (st := []) (sX6_isWay e2) dX6_dine_3 mlX6_88 (CRn (by decide) (by decide)) sh_49 rfl rfl rfl (Nat.le_of_ble_eq_true rfl) ?_
  refine v_if_eq (tgt := 19) dX6_dine_6 rfl (fun c3 => ?_) (fun c3 => ?_)
  · replace h := (if_pos c3).symm.trans h
    refine v_aload_n dX6_dine_19 rfl ?_
    refine v_ldc (v := -1000000001) dX6_dine_20 w_809 ?_
    obtain ⟨w4, e5, h⟩ := Option.bind_eq_some_iff.mp h
    refine v_callV (as := [.int (-1000000001 : Int32)]) (st := []) (sX6_finds e5) dX6_dine_22 mlX6_69 (CRn (by decide) (by decide)) sh_49 rfl rfl rfl (Nat.le_of_ble_eq_true rfl) ?_
    replace h := Option.some.inj h; subst h
    exact v_iret rfl dX6_dine_25
  · replace h := (if_neg c3).symm.trans h
    refine v_aload_n dX6_dine_9 rfl ?_
    refine v_iload_n dX6_dine_10 rfl ?_
    refine v_iload dX6_dine_11 rfl ?_
    obtain ⟨v6, e7, h⟩ := Option.bind_eq_some_iff.mp h
    refine v_callV (as := [.int x3, .int x4]) (st := []) (sX6_isWay e7) dX6_dine_13 mlX6_88 (CRn (by decide) (by decide)) sh_49 rfl rfl rfl (Nat.le_of_ble_eq_true rfl) ?_
    refine v_if_ne (tgt := 26) dX6_dine_16 rfl (fun c8 => ?_) (fun c8 => ?_)
    · replace h := (if_neg c8).symm.trans h
      refine v_iconst (v := 4) dX6_dine_26 rfl ?_
      refine v_iload_n dX6_dine_27 rfl ?_
      refine v_imul dX6_dine_28 ?_
      refine v_iload_n dX6_dine_29 rfl ?_
      refine v_iadd dX6_dine_30 ?_
      refine v_istore (ls1 := [some (.ref 49), some (.int x1), some (.int x2), some (.int x3), some (.int x4), some (.int (((4 : Int32) * x1) + x2)), none, none]) dX6_dine_31 (Nat.le_of_ble_eq_true rfl) rfl ?_
      refine v_iconst (v := 4) dX6_dine_33 rfl ?_
      refine v_iload_n dX6_dine_34 rfl ?_
      refine v_imul dX6_dine_35 ?_
      refine v_iload dX6_dine_36 rfl ?_
      refine v_iadd dX6_dine_38 ?_
      refine v_istore (ls1 := [some (.ref 49), some (.int x1), some (.int x2), some (.int x3), some (.int x4), some (.int (((4 : Int32) * x1) + x2)), some (.int (((4 : Int32) * x3) + x4)), none]) dX6_dine_39 (Nat.le_of_ble_eq_true rfl) rfl ?_
      refine v_iconst (v := 0) dX6_dine_41 rfl ?_
      refine v_istore (ls1 := [some (.ref 49), some (.int x1), some (.int x2), some (.int x3), some (.int x4), some (.int (((4 : Int32) * x1) + x2)), some (.int (((4 : Int32) * x3) + x4)), some (.int (0 : Int32))]) dX6_dine_42 (Nat.le_of_ble_eq_true rfl) rfl ?_
      refine V.sub (ls' := [some (.ref 49), none, none, none, none, some (.int (((4 : Int32) * x1) + x2)), some (.int (((4 : Int32) * x3) + x4)), some (.int (0 : Int32))]) (And.intro rfl (And.intro rfl (And.intro rfl (And.intro rfl trivial)))) ?_
      refine tX6_dine_44 (fun h => ?_) FU _ _ _ h
      refine v_aload_n dX6_dine_97 rfl ?_
      refine v_ldc (v := -1000000004) dX6_dine_98 w_880 ?_
      obtain ⟨w17, e18, h⟩ := Option.bind_eq_some_iff.mp h
      refine v_callV (as := [.int (-1000000004 : Int32)]) (st := []) (sX6_finds e18) dX6_dine_100 mlX6_69 (CRn (by decide) (by decide)) sh_49 rfl rfl rfl (Nat.le_of_ble_eq_true rfl) ?_
      replace h := Option.some.inj h; subst h
      exact v_iret rfl dX6_dine_103
    · replace h := (if_pos c8).symm.trans h
      refine v_aload_n dX6_dine_19 rfl ?_
      refine v_ldc (v := -1000000001) dX6_dine_20 w_809 ?_
      obtain ⟨w19, e20, h⟩ := Option.bind_eq_some_iff.mp h
      refine v_callV (as := [.int (-1000000001 : Int32)]) (st := []) (sX6_finds e20) dX6_dine_22 mlX6_69 (CRn (by decide) (by decide)) sh_49 rfl rfl rfl (Nat.le_of_ble_eq_true rfl) ?_
      replace h := Option.some.inj h; subst h
      exact v_iret rfl dX6_dine_25
/-! ===== BentPlainModel.seen(I)I ===== -/
def fX6_seen_12 {ρ : Type} (kx : Int32 → Option ρ) (y1 : Int32) (M : Mem) : Nat → Int32 → Int32 → Option ρ
  | 0, _, _ => none
  | n + 1, y2, y3 => (if y3 < 0 then (kx y2) else (if y3 = y1 then (kx y2) else ((fX6_onward y3 M).bind fun v5 => (fX6_seen_12 kx y1 M n (y2 ||| ((1 : Int32) <<< ((y3 / (4 : Int32)) &&& 31))) v5))))
def fX6_seen (x1 : Int32) (M : Mem) : Option Int32 := ((fX6_onward x1 M).bind fun v1 => (fX6_seen_12 (fun u7 => some u7) x1 M FU ((1 : Int32) <<< ((x1 / (4 : Int32)) &&& 31)) v1))
set_option maxRecDepth 100000 in
set_option maxHeartbeats 4000000 in
theorem tX6_seen_12 {g : Wo} {ρ : Type} {kx : Int32 → Option ρ} {y1 : Int32} {M : Mem} {r : ρ} {rr : Option Value} {Mr : Mem} (hk : ∀ (z2 : Int32), kx z2 = some r → V g kX6_seen (jm g 1 rr Mr) 38 [none, none, some (.int z2), none] [] M) : ∀ (n : Nat) (y2 : Int32) (y3 : Int32), fX6_seen_12 kx y1 M n y2 y3 = some r → V g kX6_seen (jm g 1 rr Mr) 12 [some (.ref 49), some (.int y1), some (.int y2), some (.int y3)] [] M := by
  intro n
  induction n with
  | zero =>
    intro y2 y3 h
    rw [fX6_seen_12] at h
    cases h
  | succ n ih =>
    intro y2 y3 h
    rw [fX6_seen_12] at h
    refine v_iload_n dX6_seen_12 rfl ?_
    refine v_if_lt (tgt := 38) dX6_seen_13 rfl (fun c3 => ?_) (fun c3 => ?_)
    · replace h := (if_pos c3).symm.trans h
      refine V.sub (ls' := [none, none, some (.int y2), none]) (And.intro rfl trivial) ?_
      exact hk _ h
    · replace h := (if_neg c3).symm.trans h
      refine v_iload_n dX6_seen_16 rfl ?_
      refine v_iload_n dX6_seen_17 rfl ?_
      refine v_icmp_eq (tgt := 38) dX6_seen_18 rfl (fun c4 => ?_) (fun c4 => ?_)
      · replace h := (if_pos c4).symm.trans h
        refine V.sub (ls' := [none, none, some (.int y2), none]) (And.intro rfl trivial) ?_
        exact hk _ h
      · replace h := (if_neg c4).symm.trans h
        refine v_iload_n dX6_seen_21 rfl ?_
        refine v_iconst (v := 1) dX6_seen_22 rfl ?_
        refine v_iload_n dX6_seen_23 rfl ?_
        refine v_iconst (v := 4) dX6_seen_24 rfl ?_
        refine v_idiv dX6_seen_25 (by decide) ?_
        refine v_ishl dX6_seen_26 ?_
        refine v_ior dX6_seen_27 ?_
        refine v_istore_n (ls1 := [some (.ref 49), some (.int y1), some (.int (y2 ||| ((1 : Int32) <<< ((y3 / (4 : Int32)) &&& 31)))), some (.int y3)]) dX6_seen_28 (Nat.le_of_ble_eq_true rfl) rfl ?_
        refine v_aload_n dX6_seen_29 rfl ?_
        refine v_iload_n dX6_seen_30 rfl ?_
        obtain ⟨v5, e6, h⟩ := Option.bind_eq_some_iff.mp h
        refine v_callV (as := [.int y3]) (st := []) (sX6_onward e6) dX6_seen_31 mlX6_112 (CRn (by decide) (by decide)) sh_49 rfl rfl rfl (Nat.le_of_ble_eq_true rfl) ?_
        refine v_istore_n (ls1 := [some (.ref 49), some (.int y1), some (.int (y2 ||| ((1 : Int32) <<< ((y3 / (4 : Int32)) &&& 31)))), some (.int v5)]) dX6_seen_34 (Nat.le_of_ble_eq_true rfl) rfl ?_
        refine v_goto (tgt := 12) dX6_seen_35 rfl ?_
        refine V.sub (ls' := [some (.ref 49), some (.int y1), some (.int (y2 ||| ((1 : Int32) <<< ((y3 / (4 : Int32)) &&& 31)))), some (.int v5)]) (And.intro rfl (And.intro rfl (And.intro rfl (And.intro rfl trivial)))) ?_
        exact ih _ _ h
set_option maxRecDepth 100000 in
set_option maxHeartbeats 4000000 in
theorem sX6_seen {g : Wo} {M : Mem} {x1 : Int32} {r : Int32} (h : fX6_seen x1 M = some r) : Sp g kX6_seen 1 [.ref 49, .int x1] M (some (.int r)) M := by
  rw [fX6_seen] at h
  refine Sp_intro (by decide) [some (.ref 49), some (.int x1), none, none] rfl (Nat.le_of_ble_eq_true rfl) ?_
  refine v_iconst (v := 1) dX6_seen_0 rfl ?_
  refine v_iload_n dX6_seen_1 rfl ?_
  refine v_iconst (v := 4) dX6_seen_2 rfl ?_
  refine v_idiv dX6_seen_3 (by decide) ?_
  refine v_ishl dX6_seen_4 ?_
  refine v_istore_n (ls1 := [some (.ref 49), some (.int x1), some (.int ((1 : Int32) <<< ((x1 / (4 : Int32)) &&& 31))), none]) dX6_seen_5 (Nat.le_of_ble_eq_true rfl) rfl ?_
  refine v_aload_n dX6_seen_6 rfl ?_
  refine v_iload_n dX6_seen_7 rfl ?_
  obtain ⟨v1, e2, h⟩ := Option.bind_eq_some_iff.mp h
  refine v_callV (as := [.int x1]) (st := []) (sX6_onward e2) dX6_seen_8 mlX6_112 (CRn (by decide) (by decide)) sh_49 rfl rfl rfl (Nat.le_of_ble_eq_true rfl) ?_
  refine v_istore_n (ls1 := [some (.ref 49), some (.int x1), some (.int ((1 : Int32) <<< ((x1 / (4 : Int32)) &&& 31))), some (.int v1)]) dX6_seen_11 (Nat.le_of_ble_eq_true rfl) rfl ?_
  refine V.sub (ls' := [some (.ref 49), some (.int x1), some (.int ((1 : Int32) <<< ((x1 / (4 : Int32)) &&& 31))), some (.int v1)]) (And.intro rfl (And.intro rfl (And.intro rfl (And.intro rfl trivial)))) ?_
  refine tX6_seen_12 (fun u7 h => ?_) FU _ _ h
  refine v_iload_n dX6_seen_38 rfl ?_
  replace h := Option.some.inj h; subst h
  exact v_iret rfl dX6_seen_39
/-! ===== BentPlainModel.sees(II)I ===== -/
def fX6_sees (x1 : Int32) (x2 : Int32) (M : Mem) : Option (Int32 × Mem) := ((fX6_isWay x1 x2 M).bind fun v1 => (if v1 = 0 then ((fX6_finds (-1000000001 : Int32) M).bind fun w4 => some (w4.1, w4.2)) else ((fX6_seen (((4 : Int32) * x1) + x2) M).bind fun v6 => some (v6, M))))
set_option maxRecDepth 100000 in
set_option maxHeartbeats 4000000 in
theorem sX6_sees {g : Wo} {M : Mem} {x1 : Int32} {x2 : Int32} {r : Int32 × Mem} (h : fX6_sees x1 x2 M = some r) : Sp g kX6_sees 3 [.ref 49, .int x1, .int x2] M (some (.int r.1)) r.2 := by
  rw [fX6_sees] at h
  refine Sp_intro (by decide) [some (.ref 49), some (.int x1), some (.int x2)] rfl (Nat.le_of_ble_eq_true rfl) ?_
  refine v_aload_n dX6_sees_0 rfl ?_
  refine v_iload_n dX6_sees_1 rfl ?_
  refine v_iload_n dX6_sees_2 rfl ?_
  obtain ⟨v1, e2, h⟩ := Option.bind_eq_some_iff.mp h
  refine v_callV (as := [.int x1, .int x2]) (st := []) (sX6_isWay e2) dX6_sees_3 mlX6_88 (CRn (by decide) (by decide)) sh_49 rfl rfl rfl (Nat.le_of_ble_eq_true rfl) ?_
  refine v_if_eq (tgt := 21) dX6_sees_6 rfl (fun c3 => ?_) (fun c3 => ?_)
  · replace h := (if_pos c3).symm.trans h
    refine v_aload_n dX6_sees_21 rfl ?_
    refine v_ldc (v := -1000000001) dX6_sees_22 w_809 ?_
    obtain ⟨w4, e5, h⟩ := Option.bind_eq_some_iff.mp h
    refine v_callV (as := [.int (-1000000001 : Int32)]) (st := []) (sX6_finds e5) dX6_sees_24 mlX6_69 (CRn (by decide) (by decide)) sh_49 rfl rfl rfl (Nat.le_of_ble_eq_true rfl) ?_
    replace h := Option.some.inj h; subst h
    exact v_iret rfl dX6_sees_27
  · replace h := (if_neg c3).symm.trans h
    refine v_aload_n dX6_sees_9 rfl ?_
    refine v_iconst (v := 4) dX6_sees_10 rfl ?_
    refine v_iload_n dX6_sees_11 rfl ?_
    refine v_imul dX6_sees_12 ?_
    refine v_iload_n dX6_sees_13 rfl ?_
    refine v_iadd dX6_sees_14 ?_
    obtain ⟨v6, e7, h⟩ := Option.bind_eq_some_iff.mp h
    refine v_callV (as := [.int (((4 : Int32) * x1) + x2)]) (st := []) (sX6_seen e7) dX6_sees_15 mlX6_155 (CRn (by decide) (by decide)) sh_49 rfl rfl rfl (Nat.le_of_ble_eq_true rfl) ?_
    refine v_goto (tgt := 27) dX6_sees_18 rfl ?_
    replace h := Option.some.inj h; subst h
    exact v_iret rfl dX6_sees_27
/-! ===== BentPlainModel.ones(I)I ===== -/
def fX6_ones_4 {ρ : Type} (kx : Int32 → Option ρ) : Nat → Int32 → Int32 → Option ρ
  | 0, _, _ => none
  | n + 1, y1, y2 => (if y2 = 0 then (kx y1) else (fX6_ones_4 kx n (y1 + (1 : Int32)) (y2 &&& (y2 - (1 : Int32)))))
def fX6_ones (x0 : Int32) : Option Int32 := (fX6_ones_4 (fun u2 => some u2) FU (0 : Int32) x0)
set_option maxRecDepth 100000 in
set_option maxHeartbeats 4000000 in
theorem tX6_ones_4 {g : Wo} {ρ : Type} {kx : Int32 → Option ρ} {M : Mem} {r : ρ} {rr : Option Value} {Mr : Mem} (hk : ∀ (z1 : Int32), kx z1 = some r → V g kX6_ones (jm g 0 rr Mr) 20 [none, some (.int z1), none] [] M) : ∀ (n : Nat) (y1 : Int32) (y2 : Int32), fX6_ones_4 kx n y1 y2 = some r → V g kX6_ones (jm g 0 rr Mr) 4 [none, some (.int y1), some (.int y2)] [] M := by
  intro n
  induction n with
  | zero =>
    intro y1 y2 h
    rw [fX6_ones_4] at h
    cases h
  | succ n ih =>
    intro y1 y2 h
    rw [fX6_ones_4] at h
    refine v_iload_n dX6_ones_4 rfl ?_
    refine v_if_eq (tgt := 20) dX6_ones_5 rfl (fun c1 => ?_) (fun c1 => ?_)
    · replace h := (if_pos c1).symm.trans h
      refine V.sub (ls' := [none, some (.int y1), none]) (And.intro rfl trivial) ?_
      exact hk _ h
    · replace h := (if_neg c1).symm.trans h
      refine v_iinc (v := 1) (ls1 := [none, some (.int (y1 + (1 : Int32))), some (.int y2)]) dX6_ones_8 rfl rfl (Nat.le_of_ble_eq_true rfl) rfl ?_
      refine v_iload_n dX6_ones_11 rfl ?_
      refine v_iload_n dX6_ones_12 rfl ?_
      refine v_iconst (v := 1) dX6_ones_13 rfl ?_
      refine v_isub dX6_ones_14 ?_
      refine v_iand dX6_ones_15 ?_
      refine v_istore_n (ls1 := [none, some (.int (y1 + (1 : Int32))), some (.int (y2 &&& (y2 - (1 : Int32))))]) dX6_ones_16 (Nat.le_of_ble_eq_true rfl) rfl ?_
      refine v_goto (tgt := 4) dX6_ones_17 rfl ?_
      refine V.sub (ls' := [none, some (.int (y1 + (1 : Int32))), some (.int (y2 &&& (y2 - (1 : Int32))))]) (And.intro rfl (And.intro rfl trivial)) ?_
      exact ih _ _ h
set_option maxRecDepth 100000 in
set_option maxHeartbeats 4000000 in
theorem sX6_ones {g : Wo} {M : Mem} {x0 : Int32} {r : Int32} (h : fX6_ones x0 = some r) : Sp g kX6_ones 0 [.int x0] M (some (.int r)) M := by
  rw [fX6_ones] at h
  refine Sp_intro (by decide) [some (.int x0), none, none] rfl (Nat.le_of_ble_eq_true rfl) ?_
  refine v_iconst (v := 0) dX6_ones_0 rfl ?_
  refine v_istore_n (ls1 := [some (.int x0), some (.int (0 : Int32)), none]) dX6_ones_1 (Nat.le_of_ble_eq_true rfl) rfl ?_
  refine v_iload_n dX6_ones_2 rfl ?_
  refine v_istore_n (ls1 := [some (.int x0), some (.int (0 : Int32)), some (.int x0)]) dX6_ones_3 (Nat.le_of_ble_eq_true rfl) rfl ?_
  refine V.sub (ls' := [none, some (.int (0 : Int32)), some (.int x0)]) (And.intro rfl (And.intro rfl trivial)) ?_
  refine tX6_ones_4 (fun u2 h => ?_) FU _ _ h
  refine v_iload_n dX6_ones_20 rfl ?_
  replace h := Option.some.inj h; subst h
  exact v_iret rfl dX6_ones_21
/-! ===== BentPlainModel.twice(I)I ===== -/
def fX6_twice_22 {ρ : Type} (kx : Int32 → Option ρ) (y1 : Int32) (M : Mem) : Nat → Int32 → Int32 → Int32 → Option ρ
  | 0, _, _, _ => none
  | n + 1, y2, y3, y4 => (if (4 : Int32) ≤ y4 then (kx y3) else ((fX6_seen (((4 : Int32) * y1) + y4) M).bind fun v5 => (fX6_twice_22 kx y1 M n (y2 ||| (v5 &&& (((1 : Int32) <<< (y1 &&& 31)) ^^^ (-1 : Int32)))) (y3 ||| (y2 &&& (v5 &&& (((1 : Int32) <<< (y1 &&& 31)) ^^^ (-1 : Int32))))) (y4 + (1 : Int32)))))
def fX6_twice (x1 : Int32) (M : Mem) : Option (Int32 × Mem) := ((fX6_isField x1 M).bind fun v1 => (if v1 = 0 then ((fX6_finds (-1000000001 : Int32) M).bind fun w10 => some (w10.1, w10.2)) else (fX6_twice_22 (fun u7 => ((fX6_ones u7).bind fun v8 => some (v8, M))) x1 M FU (0 : Int32) (0 : Int32) (0 : Int32))))
set_option maxRecDepth 100000 in
set_option maxHeartbeats 4000000 in
theorem tX6_twice_22 {g : Wo} {ρ : Type} {kx : Int32 → Option ρ} {y1 : Int32} {M : Mem} {r : ρ} {rr : Option Value} {Mr : Mem} (hk : ∀ (z3 : Int32), kx z3 = some r → V g kX6_twice (jm g 2 rr Mr) 64 [none, none, none, some (.int z3), none, none] [] M) : ∀ (n : Nat) (y2 : Int32) (y3 : Int32) (y4 : Int32), fX6_twice_22 kx y1 M n y2 y3 y4 = some r → V g kX6_twice (jm g 2 rr Mr) 22 [some (.ref 49), some (.int y1), some (.int y2), some (.int y3), some (.int y4), none] [] M := by
  intro n
  induction n with
  | zero =>
    intro y2 y3 y4 h
    rw [fX6_twice_22] at h
    cases h
  | succ n ih =>
    intro y2 y3 y4 h
    rw [fX6_twice_22] at h
    refine v_iload dX6_twice_22 rfl ?_
    refine v_iconst (v := 4) dX6_twice_24 rfl ?_
    refine v_icmp_ge (tgt := 64) dX6_twice_25 rfl (fun c4 => ?_) (fun c4 => ?_)
    · replace h := (if_pos c4).symm.trans h
      refine V.sub (ls' := [none, none, none, some (.int y3), none, none]) (And.intro rfl trivial) ?_
      exact hk _ h
    · replace h := (if_neg c4).symm.trans h
      refine v_aload_n dX6_twice_28 rfl ?_
      refine v_iconst (v := 4) dX6_twice_29 rfl ?_
      refine v_iload_n dX6_twice_30 rfl ?_
      refine v_imul dX6_twice_31 ?_
      refine v_iload dX6_twice_32 rfl ?_
      refine v_iadd dX6_twice_34 ?_
      obtain ⟨v5, e6, h⟩ := Option.bind_eq_some_iff.mp h
      refine v_callV (as := [.int (((4 : Int32) * y1) + y4)]) (st := []) (sX6_seen e6) dX6_twice_35 mlX6_155 (CRn (by decide) (by decide)) sh_49 rfl rfl rfl (Nat.le_of_ble_eq_true rfl) ?_
      refine v_iconst (v := 1) dX6_twice_38 rfl ?_
      refine v_iload_n dX6_twice_39 rfl ?_
      refine v_ishl dX6_twice_40 ?_
      refine v_iconst (v := -1) dX6_twice_41 rfl ?_
      refine v_ixor dX6_twice_42 ?_
      refine v_iand dX6_twice_43 ?_
      refine v_istore (ls1 := [some (.ref 49), some (.int y1), some (.int y2), some (.int y3), some (.int y4), some (.int (v5 &&& (((1 : Int32) <<< (y1 &&& 31)) ^^^ (-1 : Int32))))]) dX6_twice_44 (Nat.le_of_ble_eq_true rfl) rfl ?_
      refine v_iload_n dX6_twice_46 rfl ?_
      refine v_iload_n dX6_twice_47 rfl ?_
      refine v_iload dX6_twice_48 rfl ?_
      refine v_iand dX6_twice_50 ?_
      refine v_ior dX6_twice_51 ?_
      refine v_istore_n (ls1 := [some (.ref 49), some (.int y1), some (.int y2), some (.int (y3 ||| (y2 &&& (v5 &&& (((1 : Int32) <<< (y1 &&& 31)) ^^^ (-1 : Int32)))))), some (.int y4), some (.int (v5 &&& (((1 : Int32) <<< (y1 &&& 31)) ^^^ (-1 : Int32))))]) dX6_twice_52 (Nat.le_of_ble_eq_true rfl) rfl ?_
      refine v_iload_n dX6_twice_53 rfl ?_
      refine v_iload dX6_twice_54 rfl ?_
      refine v_ior dX6_twice_56 ?_
      refine v_istore_n (ls1 := [some (.ref 49), some (.int y1), some (.int (y2 ||| (v5 &&& (((1 : Int32) <<< (y1 &&& 31)) ^^^ (-1 : Int32))))), some (.int (y3 ||| (y2 &&& (v5 &&& (((1 : Int32) <<< (y1 &&& 31)) ^^^ (-1 : Int32)))))), some (.int y4), some (.int (v5 &&& (((1 : Int32) <<< (y1 &&& 31)) ^^^ (-1 : Int32))))]) dX6_twice_57 (Nat.le_of_ble_eq_true rfl) rfl ?_
      refine v_iinc (v := 1) (ls1 := [some (.ref 49), some (.int y1), some (.int (y2 ||| (v5 &&& (((1 : Int32) <<< (y1 &&& 31)) ^^^ (-1 : Int32))))), some (.int (y3 ||| (y2 &&& (v5 &&& (((1 : Int32) <<< (y1 &&& 31)) ^^^ (-1 : Int32)))))), some (.int (y4 + (1 : Int32))), some (.int (v5 &&& (((1 : Int32) <<< (y1 &&& 31)) ^^^ (-1 : Int32))))]) dX6_twice_58 rfl rfl (Nat.le_of_ble_eq_true rfl) rfl ?_
      refine v_goto (tgt := 22) dX6_twice_61 rfl ?_
      refine V.sub (ls' := [some (.ref 49), some (.int y1), some (.int (y2 ||| (v5 &&& (((1 : Int32) <<< (y1 &&& 31)) ^^^ (-1 : Int32))))), some (.int (y3 ||| (y2 &&& (v5 &&& (((1 : Int32) <<< (y1 &&& 31)) ^^^ (-1 : Int32)))))), some (.int (y4 + (1 : Int32))), none]) (And.intro rfl (And.intro rfl (And.intro rfl (And.intro rfl (And.intro rfl trivial))))) ?_
      exact ih _ _ _ h
set_option maxRecDepth 100000 in
set_option maxHeartbeats 4000000 in
theorem sX6_twice {g : Wo} {M : Mem} {x1 : Int32} {r : Int32 × Mem} (h : fX6_twice x1 M = some r) : Sp g kX6_twice 2 [.ref 49, .int x1] M (some (.int r.1)) r.2 := by
  rw [fX6_twice] at h
  refine Sp_intro (by decide) [some (.ref 49), some (.int x1), none, none, none, none] rfl (Nat.le_of_ble_eq_true rfl) ?_
  refine v_aload_n dX6_twice_0 rfl ?_
  refine v_iload_n dX6_twice_1 rfl ?_
  obtain ⟨v1, e2, h⟩ := Option.bind_eq_some_iff.mp h
  refine v_callV (as := [.int x1]) (st := []) (sX6_isField e2) dX6_twice_2 mlX6_53 (CRn (by decide) (by decide)) sh_49 rfl rfl rfl (Nat.le_of_ble_eq_true rfl) ?_
  refine v_if_ne (tgt := 15) dX6_twice_5 rfl (fun c3 => ?_) (fun c3 => ?_)
  · replace h := (if_neg c3).symm.trans h
    refine v_iconst (v := 0) dX6_twice_15 rfl ?_
    refine v_istore_n (ls1 := [some (.ref 49), some (.int x1), some (.int (0 : Int32)), none, none, none]) dX6_twice_16 (Nat.le_of_ble_eq_true rfl) rfl ?_
    refine v_iconst (v := 0) dX6_twice_17 rfl ?_
    refine v_istore_n (ls1 := [some (.ref 49), some (.int x1), some (.int (0 : Int32)), some (.int (0 : Int32)), none, none]) dX6_twice_18 (Nat.le_of_ble_eq_true rfl) rfl ?_
    refine v_iconst (v := 0) dX6_twice_19 rfl ?_
    refine v_istore (ls1 := [some (.ref 49), some (.int x1), some (.int (0 : Int32)), some (.int (0 : Int32)), some (.int (0 : Int32)), none]) dX6_twice_20 (Nat.le_of_ble_eq_true rfl) rfl ?_
    refine V.sub (ls' := [some (.ref 49), some (.int x1), some (.int (0 : Int32)), some (.int (0 : Int32)), some (.int (0 : Int32)), none]) (And.intro rfl (And.intro rfl (And.intro rfl (And.intro rfl (And.intro rfl trivial))))) ?_
    refine tX6_twice_22 (fun u7 h => ?_) FU _ _ _ h
    refine v_iload_n dX6_twice_64 rfl ?_
    obtain ⟨v8, e9, h⟩ := Option.bind_eq_some_iff.mp h
    refine v_callS (as := [.int u7]) (st := []) (sX6_ones e9) dX6_twice_65 mlX6_158 (CRn (by decide) (by decide)) rfl rfl (Nat.le_of_ble_eq_true rfl) ?_
    replace h := Option.some.inj h; subst h
    exact v_iret rfl dX6_twice_68
  · replace h := (if_pos c3).symm.trans h
    refine v_aload_n dX6_twice_8 rfl ?_
    refine v_ldc (v := -1000000001) dX6_twice_9 w_809 ?_
    obtain ⟨w10, e11, h⟩ := Option.bind_eq_some_iff.mp h
    refine v_callV (as := [.int (-1000000001 : Int32)]) (st := []) (sX6_finds e11) dX6_twice_11 mlX6_69 (CRn (by decide) (by decide)) sh_49 rfl rfl rfl (Nat.le_of_ble_eq_true rfl) ?_
    replace h := Option.some.inj h; subst h
    exact v_iret rfl dX6_twice_14
/-! ===== BentPlainModel.beside(I)I ===== -/
def fX6_beside (x1 : Int32) (M : Mem) : Option Int32 := ((ldI M 50 112 ((18 : Int32) + x1)).bind fun v1 => (if 0 ≤ (v1 - (1 : Int32)) then some ((((v1 - (1 : Int32)) / (4 : Int32)) * (4 : Int32)) + (((v1 - (1 : Int32)) + (3 : Int32)) - ((v1 - (1 : Int32)) + (3 : Int32)) / (4 : Int32) * (4 : Int32))) else some (-1 : Int32)))
set_option maxRecDepth 100000 in
set_option maxHeartbeats 4000000 in
theorem sX6_beside {g : Wo} {M : Mem} {x1 : Int32} {r : Int32} (h : fX6_beside x1 M = some r) : Sp g kX6_beside 0 [.ref 49, .int x1] M (some (.int r)) M := by
  rw [fX6_beside] at h
  refine Sp_intro (by decide) [some (.ref 49), some (.int x1), none] rfl (Nat.le_of_ble_eq_true rfl) ?_
  refine v_aload_n dX6_beside_0 rfl ?_
  refine v_getr dX6_beside_1 flX6_7 sh_49 rfl ?_
  refine v_bipush (v := 18) dX6_beside_4 rfl ?_
  refine v_iload_n dX6_beside_6 rfl ?_
  refine v_iadd dX6_beside_7 ?_
  obtain ⟨v1, e2, h⟩ := Option.bind_eq_some_iff.mp h
  refine v_ild e2 dX6_beside_8 sh_50 ?_
  refine v_iconst (v := 1) dX6_beside_9 rfl ?_
  refine v_isub dX6_beside_10 ?_
  refine v_istore_n (ls1 := [some (.ref 49), some (.int x1), some (.int (v1 - (1 : Int32)))]) dX6_beside_11 (Nat.le_of_ble_eq_true rfl) rfl ?_
  refine v_iload_n dX6_beside_12 rfl ?_
  refine v_if_ge (tgt := 20) dX6_beside_13 rfl (fun c3 => ?_) (fun c3 => ?_)
  · replace h := (if_pos c3).symm.trans h
    refine v_iload_n dX6_beside_20 rfl ?_
    refine v_iconst (v := 4) dX6_beside_21 rfl ?_
    refine v_idiv dX6_beside_22 (by decide) ?_
    refine v_iconst (v := 4) dX6_beside_23 rfl ?_
    refine v_imul dX6_beside_24 ?_
    refine v_iload_n dX6_beside_25 rfl ?_
    refine v_iconst (v := 3) dX6_beside_26 rfl ?_
    refine v_iadd dX6_beside_27 ?_
    refine v_iconst (v := 4) dX6_beside_28 rfl ?_
    refine v_irem dX6_beside_29 (by decide) ?_
    refine v_iadd dX6_beside_30 ?_
    replace h := Option.some.inj h; subst h
    exact v_iret rfl dX6_beside_31
  · replace h := (if_neg c3).symm.trans h
    refine v_iconst (v := -1) dX6_beside_16 rfl ?_
    refine v_goto (tgt := 31) dX6_beside_17 rfl ?_
    replace h := Option.some.inj h; subst h
    exact v_iret rfl dX6_beside_31
/-! ===== BentPlainModel.aboutOf(I)I ===== -/
def fX6_aboutOf_8 {ρ : Type} (kx : Int32 → Int32 → Option ρ) (y1 : Int32) (M : Mem) : Nat → Int32 → Int32 → Option ρ
  | 0, _, _ => none
  | n + 1, y2, y3 => (if y2 < 0 then (kx y2 y3) else (if y2 = y1 then (kx y2 y3) else ((fX6_beside y2 M).bind fun v5 => (fX6_aboutOf_8 kx y1 M n v5 (y3 + (1 : Int32))))))
def fX6_aboutOf (x1 : Int32) (M : Mem) : Option Int32 := ((fX6_beside x1 M).bind fun v1 => (fX6_aboutOf_8 (fun u7 u8 => (if 0 ≤ u7 then some u8 else some (0 : Int32))) x1 M FU v1 (1 : Int32)))
set_option maxRecDepth 100000 in
set_option maxHeartbeats 4000000 in
theorem tX6_aboutOf_8 {g : Wo} {ρ : Type} {kx : Int32 → Int32 → Option ρ} {y1 : Int32} {M : Mem} {r : ρ} {rr : Option Value} {Mr : Mem} (hk : ∀ (z2 : Int32) (z3 : Int32), kx z2 z3 = some r → V g kX6_aboutOf (jm g 1 rr Mr) 29 [none, none, some (.int z2), some (.int z3)] [] M) : ∀ (n : Nat) (y2 : Int32) (y3 : Int32), fX6_aboutOf_8 kx y1 M n y2 y3 = some r → V g kX6_aboutOf (jm g 1 rr Mr) 8 [some (.ref 49), some (.int y1), some (.int y2), some (.int y3)] [] M := by
  intro n
  induction n with
  | zero =>
    intro y2 y3 h
    rw [fX6_aboutOf_8] at h
    cases h
  | succ n ih =>
    intro y2 y3 h
    rw [fX6_aboutOf_8] at h
    refine v_iload_n dX6_aboutOf_8 rfl ?_
    refine v_if_lt (tgt := 29) dX6_aboutOf_9 rfl (fun c3 => ?_) (fun c3 => ?_)
    · replace h := (if_pos c3).symm.trans h
      refine V.sub (ls' := [none, none, some (.int y2), some (.int y3)]) (And.intro rfl (And.intro rfl trivial)) ?_
      exact hk _ _ h
    · replace h := (if_neg c3).symm.trans h
      refine v_iload_n dX6_aboutOf_12 rfl ?_
      refine v_iload_n dX6_aboutOf_13 rfl ?_
      refine v_icmp_eq (tgt := 29) dX6_aboutOf_14 rfl (fun c4 => ?_) (fun c4 => ?_)
      · replace h := (if_pos c4).symm.trans h
        refine V.sub (ls' := [none, none, some (.int y2), some (.int y3)]) (And.intro rfl (And.intro rfl trivial)) ?_
        exact hk _ _ h
      · replace h := (if_neg c4).symm.trans h
        refine v_aload_n dX6_aboutOf_17 rfl ?_
        refine v_iload_n dX6_aboutOf_18 rfl ?_
        obtain ⟨v5, e6, h⟩ := Option.bind_eq_some_iff.mp h
        refine v_callV (as := [.int y2]) (st := []) (sX6_beside e6) dX6_aboutOf_19 mlX6_161 (CRn (by decide) (by decide)) sh_49 rfl rfl rfl (Nat.le_of_ble_eq_true rfl) ?_
        refine v_istore_n (ls1 := [some (.ref 49), some (.int y1), some (.int v5), some (.int y3)]) dX6_aboutOf_22 (Nat.le_of_ble_eq_true rfl) rfl ?_
        refine v_iinc (v := 1) (ls1 := [some (.ref 49), some (.int y1), some (.int v5), some (.int (y3 + (1 : Int32)))]) dX6_aboutOf_23 rfl rfl (Nat.le_of_ble_eq_true rfl) rfl ?_
        refine v_goto (tgt := 8) dX6_aboutOf_26 rfl ?_
        refine V.sub (ls' := [some (.ref 49), some (.int y1), some (.int v5), some (.int (y3 + (1 : Int32)))]) (And.intro rfl (And.intro rfl (And.intro rfl (And.intro rfl trivial)))) ?_
        exact ih _ _ h
set_option maxRecDepth 100000 in
set_option maxHeartbeats 4000000 in
theorem sX6_aboutOf {g : Wo} {M : Mem} {x1 : Int32} {r : Int32} (h : fX6_aboutOf x1 M = some r) : Sp g kX6_aboutOf 1 [.ref 49, .int x1] M (some (.int r)) M := by
  rw [fX6_aboutOf] at h
  refine Sp_intro (by decide) [some (.ref 49), some (.int x1), none, none] rfl (Nat.le_of_ble_eq_true rfl) ?_
  refine v_aload_n dX6_aboutOf_0 rfl ?_
  refine v_iload_n dX6_aboutOf_1 rfl ?_
  obtain ⟨v1, e2, h⟩ := Option.bind_eq_some_iff.mp h
  refine v_callV (as := [.int x1]) (st := []) (sX6_beside e2) dX6_aboutOf_2 mlX6_161 (CRn (by decide) (by decide)) sh_49 rfl rfl rfl (Nat.le_of_ble_eq_true rfl) ?_
  refine v_istore_n (ls1 := [some (.ref 49), some (.int x1), some (.int v1), none]) dX6_aboutOf_5 (Nat.le_of_ble_eq_true rfl) rfl ?_
  refine v_iconst (v := 1) dX6_aboutOf_6 rfl ?_
  refine v_istore_n (ls1 := [some (.ref 49), some (.int x1), some (.int v1), some (.int (1 : Int32))]) dX6_aboutOf_7 (Nat.le_of_ble_eq_true rfl) rfl ?_
  refine V.sub (ls' := [some (.ref 49), some (.int x1), some (.int v1), some (.int (1 : Int32))]) (And.intro rfl (And.intro rfl (And.intro rfl (And.intro rfl trivial)))) ?_
  refine tX6_aboutOf_8 (fun u7 u8 h => ?_) FU _ _ h
  refine v_iload_n dX6_aboutOf_29 rfl ?_
  refine v_if_ge (tgt := 37) dX6_aboutOf_30 rfl (fun c9 => ?_) (fun c9 => ?_)
  · replace h := (if_pos c9).symm.trans h
    refine v_iload_n dX6_aboutOf_37 rfl ?_
    replace h := Option.some.inj h; subst h
    exact v_iret rfl dX6_aboutOf_38
  · replace h := (if_neg c9).symm.trans h
    refine v_iconst (v := 0) dX6_aboutOf_33 rfl ?_
    refine v_goto (tgt := 38) dX6_aboutOf_34 rfl ?_
    replace h := Option.some.inj h; subst h
    exact v_iret rfl dX6_aboutOf_38
/-! ===== BentPlainModel.about(II)I ===== -/
def fX6_about (x1 : Int32) (x2 : Int32) (M : Mem) : Option (Int32 × Mem) := ((fX6_isWay x1 x2 M).bind fun v1 => (if v1 = 0 then ((fX6_finds (-1000000001 : Int32) M).bind fun w9 => some (w9.1, w9.2)) else ((fX6_aboutOf (((4 : Int32) * x1) + x2) M).bind fun v4 => (if v4 = 0 then ((fX6_finds (-1000000004 : Int32) M).bind fun w7 => some (w7.1, w7.2)) else some (v4, M)))))
set_option maxRecDepth 100000 in
set_option maxHeartbeats 4000000 in
theorem sX6_about {g : Wo} {M : Mem} {x1 : Int32} {x2 : Int32} {r : Int32 × Mem} (h : fX6_about x1 x2 M = some r) : Sp g kX6_about 3 [.ref 49, .int x1, .int x2] M (some (.int r.1)) r.2 := by
  rw [fX6_about] at h
  refine Sp_intro (by decide) [some (.ref 49), some (.int x1), some (.int x2), none] rfl (Nat.le_of_ble_eq_true rfl) ?_
  refine v_aload_n dX6_about_0 rfl ?_
  refine v_iload_n dX6_about_1 rfl ?_
  refine v_iload_n dX6_about_2 rfl ?_
  obtain ⟨v1, e2, h⟩ := Option.bind_eq_some_iff.mp h
  refine v_callV (as := [.int x1, .int x2]) (st := []) (sX6_isWay e2) dX6_about_3 mlX6_88 (CRn (by decide) (by decide)) sh_49 rfl rfl rfl (Nat.le_of_ble_eq_true rfl) ?_
  refine v_if_ne (tgt := 16) dX6_about_6 rfl (fun c3 => ?_) (fun c3 => ?_)
  · replace h := (if_neg c3).symm.trans h
    refine v_aload_n dX6_about_16 rfl ?_
    refine v_iconst (v := 4) dX6_about_17 rfl ?_
    refine v_iload_n dX6_about_18 rfl ?_
    refine v_imul dX6_about_19 ?_
    refine v_iload_n dX6_about_20 rfl ?_
    refine v_iadd dX6_about_21 ?_
    obtain ⟨v4, e5, h⟩ := Option.bind_eq_some_iff.mp h
    refine v_callV (as := [.int (((4 : Int32) * x1) + x2)]) (st := []) (sX6_aboutOf e5) dX6_about_22 mlX6_164 (CRn (by decide) (by decide)) sh_49 rfl rfl rfl (Nat.le_of_ble_eq_true rfl) ?_
    refine v_istore_n (ls1 := [some (.ref 49), some (.int x1), some (.int x2), some (.int v4)]) dX6_about_25 (Nat.le_of_ble_eq_true rfl) rfl ?_
    refine v_iload_n dX6_about_26 rfl ?_
    refine v_if_ne (tgt := 39) dX6_about_27 rfl (fun c6 => ?_) (fun c6 => ?_)
    · replace h := (if_neg c6).symm.trans h
      refine v_iload_n dX6_about_39 rfl ?_
      replace h := Option.some.inj h; subst h
      exact v_iret rfl dX6_about_40
    · replace h := (if_pos c6).symm.trans h
      refine v_aload_n dX6_about_30 rfl ?_
      refine v_ldc (v := -1000000004) dX6_about_31 w_880 ?_
      obtain ⟨w7, e8, h⟩ := Option.bind_eq_some_iff.mp h
      refine v_callV (as := [.int (-1000000004 : Int32)]) (st := []) (sX6_finds e8) dX6_about_33 mlX6_69 (CRn (by decide) (by decide)) sh_49 rfl rfl rfl (Nat.le_of_ble_eq_true rfl) ?_
      refine v_goto (tgt := 40) dX6_about_36 rfl ?_
      replace h := Option.some.inj h; subst h
      exact v_iret rfl dX6_about_40
  · replace h := (if_pos c3).symm.trans h
    refine v_aload_n dX6_about_9 rfl ?_
    refine v_ldc (v := -1000000001) dX6_about_10 w_809 ?_
    obtain ⟨w9, e10, h⟩ := Option.bind_eq_some_iff.mp h
    refine v_callV (as := [.int (-1000000001 : Int32)]) (st := []) (sX6_finds e10) dX6_about_12 mlX6_69 (CRn (by decide) (by decide)) sh_49 rfl rfl rfl (Nat.le_of_ble_eq_true rfl) ?_
    replace h := Option.some.inj h; subst h
    exact v_iret rfl dX6_about_15
