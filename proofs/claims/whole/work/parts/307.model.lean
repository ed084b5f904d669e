/-! ===== BentPlainModel.within(II)I ===== -/
def fX6_within_34 {ρ : Type} (kx : Int32 → Option ρ) (y2 : Int32) (M : Mem) : Nat → Int32 → Int32 → Option ρ
  | 0, _, _ => none
  | n + 1, y3, y4 => (if y2 ≤ y4 then (kx y3) else ((fX6_spread y3 M).bind fun v8 => (fX6_within_34 kx y2 M n v8 (y4 + (1 : Int32)))))
def fX6_within (x1 : Int32) (x2 : Int32) (M : Mem) : Option (Int32 × Mem) := ((fX6_isField x1 M).bind fun v1 => (if v1 = 0 then ((fX6_finds (-1000000001 : Int32) M).bind fun w4 => some (w4.1, w4.2)) else (if (fX6_in ((x2).toInt64) (0 : Int64) (16 : Int64)) = 0 then ((fX6_finds (-1000000001 : Int32) M).bind fun w13 => some (w13.1, w13.2)) else (fX6_within_34 (fun u10 => ((fX6_ones u10).bind fun v11 => some (v11, M))) x2 M FU ((1 : Int32) <<< (x1 &&& 31)) (0 : Int32)))))
set_option maxRecDepth 100000 in
set_option maxHeartbeats 4000000 in
theorem tX6_within_34 {g : Wo} {ρ : Type} {kx : Int32 → Option ρ} {y2 : Int32} {M : Mem} {r : ρ} {rr : Option Value} {Mr : Mem} (hk : ∀ (z3 : Int32), kx z3 = some r → V g kX6_within (jm g 2 rr Mr) 52 [none, none, none, some (.int z3), none] [] M) : ∀ (n : Nat) (y3 : Int32) (y4 : Int32), fX6_within_34 kx y2 M n y3 y4 = some r → V g kX6_within (jm g 2 rr Mr) 34 [some (.ref 49), none, some (.int y2), some (.int y3), some (.int y4)] [] M := by
  intro n
  induction n with
  | zero =>
    intro y3 y4 h
    rw [fX6_within_34] at h
    cases h
  | succ n ih =>
    intro y3 y4 h
    rw [fX6_within_34] at h
    refine v_iload dX6_within_34 rfl ?_
    refine v_iload_n dX6_within_36 rfl ?_
    refine v_icmp_ge (tgt := 52) dX6_within_37 rfl (fun c7 => ?_) (fun c7 => ?_)
    · replace h := (if_pos c7).symm.trans h
      refine V.sub (ls' := [none, none, none, some (.int y3), none]) (And.intro rfl trivial) ?_
      exact hk _ h
    · replace h := (if_neg c7).symm.trans h
      refine v_aload_n dX6_within_40 rfl ?_
      refine v_iload_n dX6_within_41 rfl ?_
      obtain ⟨v8, e9, h⟩ := Option.bind_eq_some_iff.mp h
      refine v_callV (as := [.int y3]) (st := []) (sX6_spread e9) dX6_within_42 mlX6_170 (CRn (by decide) (by decide)) sh_49 rfl rfl rfl (Nat.le_of_ble_eq_true rfl) ?_
      refine v_istore_n (ls1 := [some (.ref 49), none, some (.int y2), some (.int v8), some (.int y4)]) dX6_within_45 (Nat.le_of_ble_eq_true rfl) rfl ?_
      refine v_iinc (v := 1) (ls1 := [some (.ref 49), none, some (.int y2), some (.int v8), some (.int (y4 + (1 : Int32)))]) dX6_within_46 rfl rfl (Nat.le_of_ble_eq_true rfl) rfl ?_
      refine v_goto (tgt := 34) dX6_within_49 rfl ?_
      refine V.sub (ls' := [some (.ref 49), none, some (.int y2), some (.int v8), some (.int (y4 + (1 : Int32)))]) (And.intro rfl (And.intro rfl (And.intro rfl (And.intro rfl trivial)))) ?_
      exact ih _ _ h
set_option maxRecDepth 100000 in
set_option maxHeartbeats 4000000 in
theorem sX6_within {g : Wo} {M : Mem} {x1 : Int32} {x2 : Int32} {r : Int32 × Mem} (h : fX6_within x1 x2 M = some r) : Sp g kX6_within 2 [.ref 49, .int x1, .int x2] M (some (.int r.1)) r.2 := by
  rw [fX6_within] at h
  refine Sp_intro (by decide) [some (.ref 49), some (.int x1), some (.int x2), none, none] rfl (Nat.le_of_ble_eq_true rfl) ?_
  refine v_aload_n dX6_within_0 rfl ?_
  refine v_iload_n dX6_within_1 rfl ?_
  obtain ⟨v1, e2, h⟩ := Option.bind_eq_some_iff.mp h
  refine v_callV (as := [.int x1]) (st := []) (sX6_isField e2) dX6_within_2 mlX6_53 (CRn (by decide) (by decide)) sh_49 rfl rfl rfl (Nat.le_of_ble_eq_true rfl) ?_
  refine v_if_eq (tgt := 20) dX6_within_5 rfl (fun c3 => ?_) (fun c3 => ?_)
  · replace h := (if_pos c3).symm.trans h
    refine v_aload_n dX6_within_20 rfl ?_
    refine v_ldc (v := -1000000001) dX6_within_21 w_809 ?_
    obtain ⟨w4, e5, h⟩ := Option.bind_eq_some_iff.mp h
    refine v_callV (as := [.int (-1000000001 : Int32)]) (st := []) (sX6_finds e5) dX6_within_23 mlX6_69 (CRn (by decide) (by decide)) sh_49 rfl rfl rfl (Nat.le_of_ble_eq_true rfl) ?_
    replace h := Option.some.inj h; subst h
    exact v_iret rfl dX6_within_26
  · replace h := (if_neg c3).symm.trans h
    refine v_iload_n dX6_within_8 rfl ?_
    refine v_i2l dX6_within_9 ?_
    refine v_lconst (v := 0) dX6_within_10 rfl ?_
    refine v_ldc2 (v := 16) dX6_within_11 w_1080 ?_
    refine v_callS (as := [.long ((x2).toInt64), .long (0 : Int64), .long (16 : Int64)]) (st := []) (sX6_in rfl) dX6_within_14 mlX6_45 (CRn (by decide) (by decide)) rfl rfl (Nat.le_of_ble_eq_true rfl) ?_
    refine v_if_ne (tgt := 27) dX6_within_17 rfl (fun c6 => ?_) (fun c6 => ?_)
    · replace h := (if_neg c6).symm.trans h
      refine v_iconst (v := 1) dX6_within_27 rfl ?_
      refine v_iload_n dX6_within_28 rfl ?_
      refine v_ishl dX6_within_29 ?_
      refine v_istore_n (ls1 := [some (.ref 49), some (.int x1), some (.int x2), some (.int ((1 : Int32) <<< (x1 &&& 31))), none]) dX6_within_30 (Nat.le_of_ble_eq_true rfl) rfl ?_
      refine v_iconst (v := 0) dX6_within_31 rfl ?_
      refine v_istore (ls1 := [some (.ref 49), some (.int x1), some (.int x2), some (.int ((1 : Int32) <<< (x1 &&& 31))), some (.int (0 : Int32))]) dX6_within_32 (Nat.le_of_ble_eq_true rfl) rfl ?_
      refine V.sub (ls' := [some (.ref 49), none, some (.int x2), some (.int ((1 : Int32) <<< (x1 &&& 31))), some (.int (0 : Int32))]) (And.intro rfl (And.intro rfl (And.intro rfl (And.intro rfl trivial)))) ?_
      refine tX6_within_34 (fun u10 h => ?_) FU _ _ h
      refine v_iload_n dX6_within_52 rfl ?_
      obtain ⟨v11, e12, h⟩ := Option.bind_eq_some_iff.mp h
      refine v_callS (as := [.int u10]) (st := []) (sX6_ones e12) dX6_within_53 mlX6_158 (CRn (by decide) (by decide)) rfl rfl (Nat.le_of_ble_eq_true rfl) ?_
      replace h := Option.some.inj h; subst h
      exact v_iret rfl dX6_within_56
    · replace h := (if_pos c6).symm.trans h
      refine v_aload_n dX6_within_20 rfl ?_
      refine v_ldc (v := -1000000001) dX6_within_21 w_809 ?_
      obtain ⟨w13, e14, h⟩ := Option.bind_eq_some_iff.mp h
      refine v_callV (as := [.int (-1000000001 : Int32)]) (st := []) (sX6_finds e14) dX6_within_23 mlX6_69 (CRn (by decide) (by decide)) sh_49 rfl rfl rfl (Nat.le_of_ble_eq_true rfl) ?_
      replace h := Option.some.inj h; subst h
      exact v_iret rfl dX6_within_26
/-! ===== BentPlainModel.mends(II)I ===== -/
def fX6_mends_55 {ρ : Type} (kx : Int32 → Int32 → Mem → Option ρ) (y1 : Int32) (y2 : Int32) (y5 : Int32) : Nat → Int32 → Int32 → Int32 → Mem → Option ρ
  | 0, _, _, _, _ => none
  | n + 1, y3, y4, y6, M => ((ldI M 50 112 (0 : Int32)).bind fun v14 => (if ((4 : Int32) * v14) ≤ y6 then (kx y3 y4 M) else ((ldI M 50 112 ((18 : Int32) + y5)).bind fun v17 => ((if 0 < v17 then some (y3, y4, M) else ((ldI M 50 112 ((18 : Int32) + y6)).bind fun v23 => (if v23 ≤ 0 then ((fX6_glues y5 y6 M).bind fun w26 => ((fX6_farOf y1 y2 w26).bind fun v28 => ((fX6_cuts y5 w26).bind fun w30 => some ((if y4 ≤ v28 then y3 else (((64 : Int32) * y5) + y6)), (if y4 ≤ v28 then y4 else v28), w30)))) else some (y3, y4, M)))).bind fun t21 => (fX6_mends_55 kx y1 y2 y5 n t21.1 t21.2.1 (y6 + (1 : Int32)) t21.2.2)))))
def fX6_mends_36 {ρ : Type} (kx : Int32 → Mem → Option ρ) (y1 : Int32) (y2 : Int32) : Nat → Int32 → Int32 → Int32 → Mem → Option ρ
  | 0, _, _, _, _ => none
  | n + 1, y3, y4, y5, M => ((ldI M 50 112 (0 : Int32)).bind fun v11 => (if ((4 : Int32) * v11) ≤ y5 then (kx y3 M) else (fX6_mends_55 (fun u34 u35 M36 => (fX6_mends_36 kx y1 y2 n u34 u35 (y5 + (1 : Int32)) M36)) y1 y2 y5 FU y3 y4 (y5 + (1 : Int32)) M)))
def fX6_mends (x1 : Int32) (x2 : Int32) (M : Mem) : Option (Int32 × Mem) := ((fX6_isField x1 M).bind fun v1 => (if v1 = 0 then ((fX6_finds (-1000000001 : Int32) M).bind fun w4 => some (w4.1, w4.2)) else ((fX6_isField x2 M).bind fun v6 => (if v6 = 0 then ((fX6_finds (-1000000001 : Int32) M).bind fun w42 => some (w42.1, w42.2)) else ((fX6_farOf x1 x2 M).bind fun v9 => (fX6_mends_36 (fun u37 M38 => (if 0 ≤ u37 then some (u37, M38) else ((fX6_finds (-1000000004 : Int32) M38).bind fun w40 => some (w40.1, w40.2)))) x1 x2 FU (-1 : Int32) v9 (0 : Int32) M))))))
set_option maxRecDepth 100000 in
set_option maxHeartbeats 4000000 in
theorem tX6_mends_55 {g : Wo} {ρ : Type} {kx : Int32 → Int32 → Mem → Option ρ} {y1 : Int32} {y2 : Int32} {y5 : Int32} {r : ρ} {rr : Option Value} {Mr : Mem} (hk : ∀ (z3 : Int32) (z4 : Int32) (Mx : Mem), kx z3 z4 Mx = some r → V g kX6_mends (jm g 2 rr Mr) 161 [some (.ref 49), some (.int y1), some (.int y2), some (.int z3), some (.int z4), some (.int y5), none, none] [] Mx) : ∀ (n : Nat) (y3 : Int32) (y4 : Int32) (y6 : Int32) (M : Mem), fX6_mends_55 kx y1 y2 y5 n y3 y4 y6 M = some r → V g kX6_mends (jm g 2 rr Mr) 55 [some (.ref 49), some (.int y1), some (.int y2), some (.int y3), some (.int y4), some (.int y5), some (.int y6), none] [] M := by
  intro n
  induction n with
  | zero =>
    intro y3 y4 y6 M h
    rw [fX6_mends_55] at h
    cases h
  | succ n ih =>
    intro y3 y4 y6 M h
    rw [fX6_mends_55] at h
    refine v_iload dX6_mends_55 rfl ?_
    refine v_iconst (v := 4) dX6_mends_57 rfl ?_
    refine v_aload_n dX6_mends_58 rfl ?_
    refine v_getr dX6_mends_59 flX6_7 sh_49 rfl ?_
    refine v_iconst (v := 0) dX6_mends_62 rfl ?_
    obtain ⟨v14, e15, h⟩ := Option.bind_eq_some_iff.mp h
    refine v_ild e15 dX6_mends_63 sh_50 ?_
    refine v_imul dX6_mends_64 ?_
    refine v_icmp_ge (tgt := 161) dX6_mends_65 rfl (fun c16 => ?_) (fun c16 => ?_)
    · replace h := (if_pos c16).symm.trans h
      refine V.sub (ls' := [some (.ref 49), some (.int y1), some (.int y2), some (.int y3), some (.int y4), some (.int y5), none, none]) (And.intro rfl (And.intro rfl (And.intro rfl (And.intro rfl (And.intro rfl (And.intro rfl trivial)))))) ?_
      exact hk _ _ _ h
    · replace h := (if_neg c16).symm.trans h
      refine v_aload_n dX6_mends_68 rfl ?_
      refine v_getr dX6_mends_69 flX6_7 sh_49 rfl ?_
      refine v_bipush (v := 18) dX6_mends_72 rfl ?_
      refine v_iload dX6_mends_74 rfl ?_
      refine v_iadd dX6_mends_76 ?_
      obtain ⟨v17, e18, h⟩ := Option.bind_eq_some_iff.mp h
      refine v_ild e18 dX6_mends_77 sh_50 ?_
      obtain ⟨t21, e22, h⟩ := Option.bind_eq_some_iff.mp h
      have hJ : V g kX6_mends (jm g 2 rr Mr) 155 [some (.ref 49), some (.int y1), some (.int y2), some (.int t21.1), some (.int t21.2.1), some (.int y5), some (.int y6), none] [] t21.2.2 := by
        refine v_iinc (v := 1) (ls1 := [some (.ref 49), some (.int y1), some (.int y2), some (.int t21.1), some (.int t21.2.1), some (.int y5), some (.int (y6 + (1 : Int32))), none]) dX6_mends_155 rfl rfl (Nat.le_of_ble_eq_true rfl) rfl ?_
        refine v_goto (tgt := 55) dX6_mends_158 rfl ?_
        refine V.sub (ls' := [some (.ref 49), some (.int y1), some (.int y2), some (.int t21.1), some (.int t21.2.1), some (.int y5), some (.int (y6 + (1 : Int32))), none]) (And.intro rfl (And.intro rfl (And.intro rfl (And.intro rfl (And.intro rfl (And.intro rfl (And.intro rfl trivial))))))) ?_
        exact ih _ _ _ _ h
      clear h
      have h := e22
      clear e22
      refine v_if_gt (tgt := 155) dX6_mends_78 rfl (fun c20 => ?_) (fun c20 => ?_)
      · replace h := (if_pos c20).symm.trans h
        replace h := Option.some.inj h; subst h
        refine V.sub (ls' := [some (.ref 49), some (.int y1), some (.int y2), some (.int y3), some (.int y4), some (.int y5), some (.int y6), none]) (And.intro rfl (And.intro rfl (And.intro rfl (And.intro rfl (And.intro rfl (And.intro rfl (And.intro rfl trivial))))))) ?_
        exact hJ
      · replace h := (if_neg c20).symm.trans h
        refine v_aload_n dX6_mends_81 rfl ?_
        refine v_getr dX6_mends_82 flX6_7 sh_49 rfl ?_
        refine v_bipush (v := 18) dX6_mends_85 rfl ?_
        refine v_iload dX6_mends_87 rfl ?_
        refine v_iadd dX6_mends_89 ?_
        obtain ⟨v23, e24, h⟩ := Option.bind_eq_some_iff.mp h
        refine v_ild e24 dX6_mends_90 sh_50 ?_
        refine v_if_le (tgt := 97) dX6_mends_91 rfl (fun c25 => ?_) (fun c25 => ?_)
        · replace h := (if_pos c25).symm.trans h
          refine v_aload_n dX6_mends_97 rfl ?_
          refine v_iload dX6_mends_98 rfl ?_
          refine v_iload dX6_mends_100 rfl ?_
          obtain ⟨w26, e27, h⟩ := Option.bind_eq_some_iff.mp h
          refine v_callV (as := [.int y5, .int y6]) (st := []) (sX6_glues e27) dX6_mends_102 mlX6_93 (CRn (by decide) (by decide)) sh_49 rfl rfl rfl (Nat.le_of_ble_eq_true rfl) ?_
          refine v_aload_n dX6_mends_105 rfl ?_
          refine v_iload_n dX6_mends_106 rfl ?_
          refine v_iload_n dX6_mends_107 rfl ?_
          obtain ⟨v28, e29, h⟩ := Option.bind_eq_some_iff.mp h
          refine v_callV (as := [.int y1, .int y2]) (st := []) (sX6_farOf e29) dX6_mends_108 mlX6_174 (CRn (by decide) (by decide)) sh_49 rfl rfl rfl (Nat.le_of_ble_eq_true rfl) ?_
          refine v_istore (ls1 := [some (.ref 49), some (.int y1), some (.int y2), some (.int y3), some (.int y4), some (.int y5), some (.int y6), some (.int v28)]) dX6_mends_111 (Nat.le_of_ble_eq_true rfl) rfl ?_
          refine v_aload_n dX6_mends_113 rfl ?_
          refine v_iload dX6_mends_114 rfl ?_
          obtain ⟨w30, e31, h⟩ := Option.bind_eq_some_iff.mp h
          refine v_callV (as := [.int y5]) (st := []) (sX6_cuts e31) dX6_mends_116 mlX6_97 (CRn (by decide) (by decide)) sh_49 rfl rfl rfl (Nat.le_of_ble_eq_true rfl) ?_
          refine v_iload dX6_mends_119 rfl ?_
          refine v_iload dX6_mends_121 rfl ?_
          have hJ : V g kX6_mends (jm g 2 rr Mr) 138 [some (.ref 49), some (.int y1), some (.int y2), none, some (.int y4), some (.int y5), some (.int y6), some (.int v28)] [.int (if y4 ≤ v28 then y3 else (((64 : Int32) * y5) + y6))] w30 := by
            refine v_istore_n (ls1 := [some (.ref 49), some (.int y1), some (.int y2), some (.int (if y4 ≤ v28 then y3 else (((64 : Int32) * y5) + y6))), some (.int y4), some (.int y5), some (.int y6), some (.int v28)]) dX6_mends_138 (Nat.le_of_ble_eq_true rfl) rfl ?_
            refine v_iload dX6_mends_139 rfl ?_
            refine v_iload dX6_mends_141 rfl ?_
            have hJ : V g kX6_mends (jm g 2 rr Mr) 153 [some (.ref 49), some (.int y1), some (.int y2), some (.int (if y4 ≤ v28 then y3 else (((64 : Int32) * y5) + y6))), none, some (.int y5), some (.int y6), none] [.int (if y4 ≤ v28 then y4 else v28)] w30 := by
              refine v_istore (ls1 := [some (.ref 49), some (.int y1), some (.int y2), some (.int (if y4 ≤ v28 then y3 else (((64 : Int32) * y5) + y6))), some (.int (if y4 ≤ v28 then y4 else v28)), some (.int y5), some (.int y6), none]) dX6_mends_153 (Nat.le_of_ble_eq_true rfl) rfl ?_
              replace h := Option.some.inj h; subst h
              refine V.sub (ls' := [some (.ref 49), some (.int y1), some (.int y2), some (.int (if y4 ≤ v28 then y3 else (((64 : Int32) * y5) + y6))), some (.int (if y4 ≤ v28 then y4 else v28)), some (.int y5), some (.int y6), none]) (And.intro rfl (And.intro rfl (And.intro rfl (And.intro rfl (And.intro rfl (And.intro rfl (And.intro rfl trivial))))))) ?_
              exact hJ
            refine v_icmp_ge (tgt := 151) dX6_mends_143 rfl (fun c33 => ?_) (fun c33 => ?_)
            · refine v_iload dX6_mends_151 rfl ?_
              refine V.sub (ls' := [some (.ref 49), some (.int y1), some (.int y2), some (.int (if y4 ≤ v28 then y3 else (((64 : Int32) * y5) + y6))), none, some (.int y5), some (.int y6), none]) (And.intro rfl (And.intro rfl (And.intro rfl (And.intro rfl (And.intro rfl (And.intro rfl trivial)))))) ?_
              first | (simp only [if_pos c33] at hJ; exact hJ) | exact hJ | (simp only [if_pos c33] at hJ ⊢; exact hJ)
            · refine v_iload dX6_mends_146 rfl ?_
              refine v_goto (tgt := 153) dX6_mends_148 rfl ?_
              refine V.sub (ls' := [some (.ref 49), some (.int y1), some (.int y2), some (.int (if y4 ≤ v28 then y3 else (((64 : Int32) * y5) + y6))), none, some (.int y5), some (.int y6), none]) (And.intro rfl (And.intro rfl (And.intro rfl (And.intro rfl (And.intro rfl (And.intro rfl trivial)))))) ?_
              first | (simp only [if_neg c33] at hJ; exact hJ) | exact hJ | (simp only [if_neg c33] at hJ ⊢; exact hJ)
          refine v_icmp_ge (tgt := 137) dX6_mends_123 rfl (fun c32 => ?_) (fun c32 => ?_)
          · refine v_iload_n dX6_mends_137 rfl ?_
            refine V.sub (ls' := [some (.ref 49), some (.int y1), some (.int y2), none, some (.int y4), some (.int y5), some (.int y6), some (.int v28)]) (And.intro rfl (And.intro rfl (And.intro rfl (And.intro rfl (And.intro rfl (And.intro rfl (And.intro rfl trivial))))))) ?_
            first | (simp only [if_pos c32] at hJ; exact hJ) | exact hJ | (simp only [if_pos c32] at hJ ⊢; exact hJ)
          · refine v_bipush (v := 64) dX6_mends_126 rfl ?_
            refine v_iload dX6_mends_128 rfl ?_
            refine v_imul dX6_mends_130 ?_
            refine v_iload dX6_mends_131 rfl ?_
            refine v_iadd dX6_mends_133 ?_
            refine v_goto (tgt := 138) dX6_mends_134 rfl ?_
            refine V.sub (ls' := [some (.ref 49), some (.int y1), some (.int y2), none, some (.int y4), some (.int y5), some (.int y6), some (.int v28)]) (And.intro rfl (And.intro rfl (And.intro rfl (And.intro rfl (And.intro rfl (And.intro rfl (And.intro rfl trivial))))))) ?_
            first | (simp only [if_neg c32] at hJ; exact hJ) | exact hJ | (simp only [if_neg c32] at hJ ⊢; exact hJ)
        · replace h := (if_neg c25).symm.trans h
          refine v_goto (tgt := 155) dX6_mends_94 rfl ?_
          replace h := Option.some.inj h; subst h
          refine V.sub (ls' := [some (.ref 49), some (.int y1), some (.int y2), some (.int y3), some (.int y4), some (.int y5), some (.int y6), none]) (And.intro rfl (And.intro rfl (And.intro rfl (And.intro rfl (And.intro rfl (And.intro rfl (And.intro rfl trivial))))))) ?_
          exact hJ
set_option maxRecDepth 100000 in
set_option maxHeartbeats 4000000 in
theorem tX6_mends_36 {g : Wo} {ρ : Type} {kx : Int32 → Mem → Option ρ} {y1 : Int32} {y2 : Int32} {r : ρ} {rr : Option Value} {Mr : Mem} (hk : ∀ (z3 : Int32) (Mx : Mem), kx z3 Mx = some r → V g kX6_mends (jm g 2 rr Mr) 167 [some (.ref 49), none, none, some (.int z3), none, none, none, none] [] Mx) : ∀ (n : Nat) (y3 : Int32) (y4 : Int32) (y5 : Int32) (M : Mem), fX6_mends_36 kx y1 y2 n y3 y4 y5 M = some r → V g kX6_mends (jm g 2 rr Mr) 36 [some (.ref 49), some (.int y1), some (.int y2), some (.int y3), some (.int y4), some (.int y5), none, none] [] M := by
  intro n
  induction n with
  | zero =>
    intro y3 y4 y5 M h
    rw [fX6_mends_36] at h
    cases h
  | succ n ih =>
    intro y3 y4 y5 M h
    rw [fX6_mends_36] at h
    refine v_iload dX6_mends_36 rfl ?_
    refine v_iconst (v := 4) dX6_mends_38 rfl ?_
    refine v_aload_n dX6_mends_39 rfl ?_
    refine v_getr dX6_mends_40 flX6_7 sh_49 rfl ?_
    refine v_iconst (v := 0) dX6_mends_43 rfl ?_
    obtain ⟨v11, e12, h⟩ := Option.bind_eq_some_iff.mp h
    refine v_ild e12 dX6_mends_44 sh_50 ?_
    refine v_imul dX6_mends_45 ?_
    refine v_icmp_ge (tgt := 167) dX6_mends_46 rfl (fun c13 => ?_) (fun c13 => ?_)
    · replace h := (if_pos c13).symm.trans h
      refine V.sub (ls' := [some (.ref 49), none, none, some (.int y3), none, none, none, none]) (And.intro rfl (And.intro rfl trivial)) ?_
      exact hk _ _ h
    · replace h := (if_neg c13).symm.trans h
      refine v_iload dX6_mends_49 rfl ?_
      refine v_iconst (v := 1) dX6_mends_51 rfl ?_
      refine v_iadd dX6_mends_52 ?_
      refine v_istore (ls1 := [some (.ref 49), some (.int y1), some (.int y2), some (.int y3), some (.int y4), some (.int y5), some (.int (y5 + (1 : Int32))), none]) dX6_mends_53 (Nat.le_of_ble_eq_true rfl) rfl ?_
      refine V.sub (ls' := [some (.ref 49), some (.int y1), some (.int y2), some (.int y3), some (.int y4), some (.int y5), some (.int (y5 + (1 : Int32))), none]) (And.intro rfl (And.intro rfl (And.intro rfl (And.intro rfl (And.intro rfl (And.intro rfl (And.intro rfl trivial))))))) ?_
      refine tX6_mends_55 (fun u34 u35 M36 h => ?_) FU _ _ _ _ h
      refine v_iinc (v := 1) (ls1 := [some (.ref 49), some (.int y1), some (.int y2), some (.int u34), some (.int u35), some (.int (y5 + (1 : Int32))), none, none]) dX6_mends_161 rfl rfl (Nat.le_of_ble_eq_true rfl) rfl ?_
      refine v_goto (tgt := 36) dX6_mends_164 rfl ?_
      refine V.sub (ls' := [some (.ref 49), some (.int y1), some (.int y2), some (.int u34), some (.int u35), some (.int (y5 + (1 : Int32))), none, none]) (And.intro rfl (And.intro rfl (And.intro rfl (And.intro rfl (And.intro rfl (And.intro rfl trivial)))))) ?_
      exact ih _ _ _ _ h
set_option maxRecDepth 100000 in
set_option maxHeartbeats 4000000 in
theorem sX6_mends {g : Wo} {M : Mem} {x1 : Int32} {x2 : Int32} {r : Int32 × Mem} (h : fX6_mends x1 x2 M = some r) : Sp g kX6_mends 2 [.ref 49, .int x1, .int x2] M (some (.int r.1)) r.2 := by
  rw [fX6_mends] at h
  refine Sp_intro (by decide) [some (.ref 49), some (.int x1), some (.int x2), none, none, none, none, none] rfl (Nat.le_of_ble_eq_true rfl) ?_
  refine v_aload_n dX6_mends_0 rfl ?_
  refine v_iload_n dX6_mends_1 rfl ?_
  obtain ⟨v1, e2, h⟩ := Option.bind_eq_some_iff.mp h
  refine v_callV (as := [.int x1]) (st := []) (sX6_isField e2) dX6_mends_2 mlX6_53 (CRn (by decide) (by decide)) sh_49 rfl rfl rfl (Nat.le_of_ble_eq_true rfl) ?_
  refine v_if_eq (tgt := 16) dX6_mends_5 rfl (fun c3 => ?_) (fun c3 => ?_)
  · replace h := (if_pos c3).symm.trans h
    refine v_aload_n dX6_mends_16 rfl ?_
    refine v_ldc (v := -1000000001) dX6_mends_17 w_809 ?_
    obtain ⟨w4, e5, h⟩ := Option.bind_eq_some_iff.mp h
    refine v_callV (as := [.int (-1000000001 : Int32)]) (st := []) (sX6_finds e5) dX6_mends_19 mlX6_69 (CRn (by decide) (by decide)) sh_49 rfl rfl rfl (Nat.le_of_ble_eq_true rfl) ?_
    replace h := Option.some.inj h; subst h
    exact v_iret rfl dX6_mends_22
  · replace h := (if_neg c3).symm.trans h
    refine v_aload_n dX6_mends_8 rfl ?_
    refine v_iload_n dX6_mends_9 rfl ?_
    obtain ⟨v6, e7, h⟩ := Option.bind_eq_some_iff.mp h
    refine v_callV (as := [.int x2]) (st := []) (sX6_isField e7) dX6_mends_10 mlX6_53 (CRn (by decide) (by decide)) sh_49 rfl rfl rfl (Nat.le_of_ble_eq_true rfl) ?_
    refine v_if_ne (tgt := 23) dX6_mends_13 rfl (fun c8 => ?_) (fun c8 => ?_)
    · replace h := (if_neg c8).symm.trans h
      refine v_iconst (v := -1) dX6_mends_23 rfl ?_
      refine v_istore_n (ls1 := [some (.ref 49), some (.int x1), some (.int x2), some (.int (-1 : Int32)), none, none, none, none]) dX6_mends_24 (Nat.le_of_ble_eq_true rfl) rfl ?_
      refine v_aload_n dX6_mends_25 rfl ?_
      refine v_iload_n dX6_mends_26 rfl ?_
      refine v_iload_n dX6_mends_27 rfl ?_
      obtain ⟨v9, e10, h⟩ := Option.bind_eq_some_iff.mp h
      refine v_callV (as := [.int x1, .int x2]) (st := []) (sX6_farOf e10) dX6_mends_28 mlX6_174 (CRn (by decide) (by decide)) sh_49 rfl rfl rfl (Nat.le_of_ble_eq_true rfl) ?_
      refine v_istore (ls1 := [some (.ref 49), some (.int x1), some (.int x2), some (.int (-1 : Int32)), some (.int v9), none, none, none]) dX6_mends_31 (Nat.le_of_ble_eq_true rfl) rfl ?_
      refine v_iconst (v := 0) dX6_mends_33 rfl ?_
      refine v_istore (ls1 := [some (.ref 49), some (.int x1), some (.int x2), some (.int (-1 : Int32)), some (.int v9), some (.int (0 : Int32)), none, none]) dX6_mends_34 (Nat.le_of_ble_eq_true rfl) rfl ?_
      refine V.sub (ls' := [some (.ref 49), some (.int x1), some (.int x2), some (.int (-1 : Int32)), some (.int v9), some (.int (0 : Int32)), none, none]) (And.intro rfl (And.intro rfl (And.intro rfl (And.intro rfl (And.intro rfl (And.intro rfl trivial)))))) ?_
      refine tX6_mends_36 (fun u37 M38 h => ?_) FU _ _ _ _ h
      refine v_iload_n dX6_mends_167 rfl ?_
      refine v_if_ge (tgt := 180) dX6_mends_168 rfl (fun c39 => ?_) (fun c39 => ?_)
      · replace h := (if_pos c39).symm.trans h
        refine v_iload_n dX6_mends_180 rfl ?_
        replace h := Option.some.inj h; subst h
        exact v_iret rfl dX6_mends_181
      · replace h := (if_neg c39).symm.trans h
        refine v_aload_n dX6_mends_171 rfl ?_
        refine v_ldc (v := -1000000004) dX6_mends_172 w_880 ?_
        obtain ⟨w40, e41, h⟩ := Option.bind_eq_some_iff.mp h
        refine v_callV (as := [.int (-1000000004 : Int32)]) (st := []) (sX6_finds e41) dX6_mends_174 mlX6_69 (CRn (by decide) (by decide)) sh_49 rfl rfl rfl (Nat.le_of_ble_eq_true rfl) ?_
        refine v_goto (tgt := 181) dX6_mends_177 rfl ?_
        replace h := Option.some.inj h; subst h
        exact v_iret rfl dX6_mends_181
    · replace h := (if_pos c8).symm.trans h
      refine v_aload_n dX6_mends_16 rfl ?_
      refine v_ldc (v := -1000000001) dX6_mends_17 w_809 ?_
      obtain ⟨w42, e43, h⟩ := Option.bind_eq_some_iff.mp h
      refine v_callV (as := [.int (-1000000001 : Int32)]) (st := []) (sX6_finds e43) dX6_mends_19 mlX6_69 (CRn (by decide) (by decide)) sh_49 rfl rfl rfl (Nat.le_of_ble_eq_true rfl) ?_
      replace h := Option.some.inj h; subst h
      exact v_iret rfl dX6_mends_22
/-! ===== BentPlainModel.feed(II)I ===== -/
def fX6_feed_41 {ρ : Type} (kx : Mem → Option ρ) (y1 : Int32) : Nat → Int32 → Mem → Option ρ
  | 0, _, _ => none
  | n + 1, y3, M => (if y3 < 0 then (kx M) else ((stI M 56 120 (M.1 49 8) ((y1 >>> (((8 : Int32) * y3) &&& 31)) &&& (255 : Int32))).bind fun M4 => (fX6_feed_41 kx y1 n (y3 + (-1 : Int32)) (setI M4 49 8 ((M4.1 49 8) + (1 : Int32))))))
def fX6_feed (x1 : Int32) (x2 : Int32) (M : Mem) : Option (Int32 × Mem) := (if (fX6_in ((x2).toInt64) (1 : Int64) (4 : Int64)) = 0 then ((fX6_finds (-1000000001 : Int32) M).bind fun w9 => some (w9.1, w9.2)) else (if ((M.1 49 8) + x2) ≤ (120 : Int32) then (fX6_feed_41 (fun M6 => some ((M6.1 49 8), M6)) x1 FU (x2 - (1 : Int32)) M) else ((fX6_finds (-1000000002 : Int32) M).bind fun w7 => some (w7.1, w7.2))))
set_option maxRecDepth 100000 in
set_option maxHeartbeats 4000000 in
theorem tX6_feed_41 {g : Wo} {ρ : Type} {kx : Mem → Option ρ} {y1 : Int32} {r : ρ} {rr : Option Value} {Mr : Mem} (hk : ∀ (Mx : Mem), kx Mx = some r → V g kX6_feed (jm g 1 rr Mr) 80 [some (.ref 49), none, none, none] [] Mx) : ∀ (n : Nat) (y3 : Int32) (M : Mem), fX6_feed_41 kx y1 n y3 M = some r → V g kX6_feed (jm g 1 rr Mr) 41 [some (.ref 49), some (.int y1), none, some (.int y3)] [] M := by
  intro n
  induction n with
  | zero =>
    intro y3 M h
    rw [fX6_feed_41] at h
    cases h
  | succ n ih =>
    intro y3 M h
    rw [fX6_feed_41] at h
    refine v_iload_n dX6_feed_41 rfl ?_
    refine v_if_lt (tgt := 80) dX6_feed_42 rfl (fun c3 => ?_) (fun c3 => ?_)
    · replace h := (if_pos c3).symm.trans h
      refine V.sub (ls' := [some (.ref 49), none, none, none]) (And.intro rfl trivial) ?_
      exact hk _ h
    · replace h := (if_neg c3).symm.trans h
      refine v_aload_n dX6_feed_45 rfl ?_
      refine v_getr dX6_feed_46 flX6_28 sh_49 rfl ?_
      refine v_aload_n dX6_feed_49 rfl ?_
      refine v_geti dX6_feed_50 flX6_182 sh_49 rfl ?_
      refine v_iload_n dX6_feed_53 rfl ?_
      refine v_bipush (v := 8) dX6_feed_54 rfl ?_
      refine v_iload_n dX6_feed_56 rfl ?_
      refine v_imul dX6_feed_57 ?_
      refine v_ishr dX6_feed_58 ?_
      refine v_sipush (v := 255) dX6_feed_59 rfl ?_
      refine v_iand dX6_feed_62 ?_
      obtain ⟨M4, e5, h⟩ := Option.bind_eq_some_iff.mp h
      refine v_ist e5 dX6_feed_63 sh_56 ?_
      refine v_aload_n dX6_feed_64 rfl ?_
      refine v_dup dX6_feed_65 rfl ?_
      refine v_geti dX6_feed_66 flX6_182 sh_49 rfl ?_
      refine v_iconst (v := 1) dX6_feed_69 rfl ?_
      refine v_iadd dX6_feed_70 ?_
      refine v_puti dX6_feed_71 fpX6_182 sh_49 rfl ?_
      refine v_iinc (v := -1) (ls1 := [some (.ref 49), some (.int y1), none, some (.int (y3 + (-1 : Int32)))]) dX6_feed_74 rfl rfl (Nat.le_of_ble_eq_true rfl) rfl ?_
      refine v_goto (tgt := 41) dX6_feed_77 rfl ?_
      refine V.sub (ls' := [some (.ref 49), some (.int y1), none, some (.int (y3 + (-1 : Int32)))]) (And.intro rfl (And.intro rfl (And.intro rfl trivial))) ?_
      exact ih _ _ h
set_option maxRecDepth 100000 in
set_option maxHeartbeats 4000000 in
theorem sX6_feed {g : Wo} {M : Mem} {x1 : Int32} {x2 : Int32} {r : Int32 × Mem} (h : fX6_feed x1 x2 M = some r) : Sp g kX6_feed 1 [.ref 49, .int x1, .int x2] M (some (.int r.1)) r.2 := by
  rw [fX6_feed] at h
  refine Sp_intro (by decide) [some (.ref 49), some (.int x1), some (.int x2), none] rfl (Nat.le_of_ble_eq_true rfl) ?_
  refine v_iload_n dX6_feed_0 rfl ?_
  refine v_i2l dX6_feed_1 ?_
  refine v_lconst (v := 1) dX6_feed_2 rfl ?_
  refine v_ldc2 (v := 4) dX6_feed_3 w_1089 ?_
  refine v_callS (as := [.long ((x2).toInt64), .long (1 : Int64), .long (4 : Int64)]) (st := []) (sX6_in rfl) dX6_feed_6 mlX6_45 (CRn (by decide) (by decide)) rfl rfl (Nat.le_of_ble_eq_true rfl) ?_
  refine v_if_ne (tgt := 19) dX6_feed_9 rfl (fun c1 => ?_) (fun c1 => ?_)
  · replace h := (if_neg c1).symm.trans h
    refine v_aload_n dX6_feed_19 rfl ?_
    refine v_geti dX6_feed_20 flX6_182 sh_49 rfl ?_
    refine v_iload_n dX6_feed_23 rfl ?_
    refine v_iadd dX6_feed_24 ?_
    refine v_bipush (v := 120) dX6_feed_25 rfl ?_
    refine v_icmp_le (tgt := 37) dX6_feed_27 rfl (fun c2 => ?_) (fun c2 => ?_)
    · replace h := (if_pos c2).symm.trans h
      refine v_iload_n dX6_feed_37 rfl ?_
      refine v_iconst (v := 1) dX6_feed_38 rfl ?_
      refine v_isub dX6_feed_39 ?_
      refine v_istore_n (ls1 := [some (.ref 49), some (.int x1), some (.int x2), some (.int (x2 - (1 : Int32)))]) dX6_feed_40 (Nat.le_of_ble_eq_true rfl) rfl ?_
      refine V.sub (ls' := [some (.ref 49), some (.int x1), none, some (.int (x2 - (1 : Int32)))]) (And.intro rfl (And.intro rfl (And.intro rfl trivial))) ?_
      refine tX6_feed_41 (fun M6 h => ?_) FU _ _ h
      refine v_aload_n dX6_feed_80 rfl ?_
      refine v_geti dX6_feed_81 flX6_182 sh_49 rfl ?_
      replace h := Option.some.inj h; subst h
      exact v_iret rfl dX6_feed_84
    · replace h := (if_neg c2).symm.trans h
      refine v_aload_n dX6_feed_30 rfl ?_
      refine v_ldc (v := -1000000002) dX6_feed_31 w_814 ?_
      obtain ⟨w7, e8, h⟩ := Option.bind_eq_some_iff.mp h
      refine v_callV (as := [.int (-1000000002 : Int32)]) (st := []) (sX6_finds e8) dX6_feed_33 mlX6_69 (CRn (by decide) (by decide)) sh_49 rfl rfl rfl (Nat.le_of_ble_eq_true rfl) ?_
      replace h := Option.some.inj h; subst h
      exact v_iret rfl dX6_feed_36
  · replace h := (if_pos c1).symm.trans h
    refine v_aload_n dX6_feed_12 rfl ?_
    refine v_ldc (v := -1000000001) dX6_feed_13 w_809 ?_
    obtain ⟨w9, e10, h⟩ := Option.bind_eq_some_iff.mp h
    refine v_callV (as := [.int (-1000000001 : Int32)]) (st := []) (sX6_finds e10) dX6_feed_15 mlX6_69 (CRn (by decide) (by decide)) sh_49 rfl rfl rfl (Nat.le_of_ble_eq_true rfl) ?_
    replace h := Option.some.inj h; subst h
    exact v_iret rfl dX6_feed_18
/-! ===== BentPlainModel.wipe()I ===== -/
def fX6_wipe (M : Mem) : Option (Int32 × Mem) := some ((M.1 49 8), (setI M 49 8 (0 : Int32)))
set_option maxRecDepth 100000 in
set_option maxHeartbeats 4000000 in
theorem sX6_wipe {g : Wo} {M : Mem} {r : Int32 × Mem} (h : fX6_wipe M = some r) : Sp g kX6_wipe 0 [.ref 49] M (some (.int r.1)) r.2 := by
  rw [fX6_wipe] at h
  refine Sp_intro (by decide) [some (.ref 49), none] rfl (Nat.le_of_ble_eq_true rfl) ?_
  refine v_aload_n dX6_wipe_0 rfl ?_
  refine v_geti dX6_wipe_1 flX6_182 sh_49 rfl ?_
  refine v_istore_n (ls1 := [some (.ref 49), some (.int (M.1 49 8))]) dX6_wipe_4 (Nat.le_of_ble_eq_true rfl) rfl ?_
  refine v_aload_n dX6_wipe_5 rfl ?_
  refine v_iconst (v := 0) dX6_wipe_6 rfl ?_
  refine v_puti dX6_wipe_7 fpX6_182 sh_49 rfl ?_
  refine v_iload_n dX6_wipe_10 rfl ?_
  replace h := Option.some.inj h; subst h
  exact v_iret rfl dX6_wipe_11
/-! ===== BentPlainModel.saves()V ===== -/
def fX6_saves_2 {ρ : Type} (kx : Mem → Option ρ) : Nat → Int32 → Mem → Option ρ
  | 0, _, _ => none
  | n + 1, y1, M => (if (112 : Int32) ≤ y1 then (kx M) else ((ldI M 50 112 y1).bind fun v2 => ((stI M 52 112 y1 v2).bind fun M4 => (fX6_saves_2 kx n (y1 + (1 : Int32)) M4))))
def fX6_saves (M : Mem) : Option Mem := (fX6_saves_2 (fun M6 => some M6) FU (0 : Int32) M)
set_option maxRecDepth 100000 in
set_option maxHeartbeats 4000000 in
theorem tX6_saves_2 {g : Wo} {ρ : Type} {kx : Mem → Option ρ} {r : ρ} {rr : Option Value} {Mr : Mem} (hk : ∀ (Mx : Mem), kx Mx = some r → V g kX6_saves (jm g 0 rr Mr) 26 [none, none] [] Mx) : ∀ (n : Nat) (y1 : Int32) (M : Mem), fX6_saves_2 kx n y1 M = some r → V g kX6_saves (jm g 0 rr Mr) 2 [some (.ref 49), some (.int y1)] [] M := by
  intro n
  induction n with
  | zero =>
    intro y1 M h
    rw [fX6_saves_2] at h
    cases h
  | succ n ih =>
    intro y1 M h
    rw [fX6_saves_2] at h
    refine v_iload_n dX6_saves_2 rfl ?_
    refine v_bipush (v := 112) dX6_saves_3 rfl ?_
    refine v_icmp_ge (tgt := 26) dX6_saves_5 rfl (fun c1 => ?_) (fun c1 => ?_)
    · replace h := (if_pos c1).symm.trans h
      refine V.sub (ls' := [none, none]) trivial ?_
      exact hk _ h
    · replace h := (if_neg c1).symm.trans h
      refine v_aload_n dX6_saves_8 rfl ?_
      refine v_getr dX6_saves_9 flX6_16 sh_49 rfl ?_
      refine v_iload_n dX6_saves_12 rfl ?_
      refine v_aload_n dX6_saves_13 rfl ?_
      refine v_getr dX6_saves_14 flX6_7 sh_49 rfl ?_
      refine v_iload_n dX6_saves_17 rfl ?_
      obtain ⟨v2, e3, h⟩ := Option.bind_eq_some_iff.mp h
      refine v_ild e3 dX6_saves_18 sh_50 ?_
      obtain ⟨M4, e5, h⟩ := Option.bind_eq_some_iff.mp h
      refine v_ist e5 dX6_saves_19 sh_52 ?_
      refine v_iinc (v := 1) (ls1 := [some (.ref 49), some (.int (y1 + (1 : Int32)))]) dX6_saves_20 rfl rfl (Nat.le_of_ble_eq_true rfl) rfl ?_
      refine v_goto (tgt := 2) dX6_saves_23 rfl ?_
      refine V.sub (ls' := [some (.ref 49), some (.int (y1 + (1 : Int32)))]) (And.intro rfl (And.intro rfl trivial)) ?_
      exact ih _ _ h
set_option maxRecDepth 100000 in
set_option maxHeartbeats 4000000 in
theorem sX6_saves {g : Wo} {M : Mem} {r : Mem} (h : fX6_saves M = some r) : Sp g kX6_saves 0 [.ref 49] M none r := by
  rw [fX6_saves] at h
  refine Sp_intro (by decide) [some (.ref 49), none] rfl (Nat.le_of_ble_eq_true rfl) ?_
  refine v_iconst (v := 0) dX6_saves_0 rfl ?_
  refine v_istore_n (ls1 := [some (.ref 49), some (.int (0 : Int32))]) dX6_saves_1 (Nat.le_of_ble_eq_true rfl) rfl ?_
  refine V.sub (ls' := [some (.ref 49), some (.int (0 : Int32))]) (And.intro rfl (And.intro rfl trivial)) ?_
  refine tX6_saves_2 (fun M6 h => ?_) FU _ _ h
  replace h := Option.some.inj h; subst h
  exact v_vret rfl dX6_saves_26
/-! ===== BentPlainModel.byteAt(I)I ===== -/
def fX6_byteAt (x1 : Int32) (M : Mem) : Option Int32 := (if (M.1 49 8) ≤ x1 then some (-1 : Int32) else ((ldI M 56 120 x1).bind fun v2 => some v2))
set_option maxRecDepth 100000 in
set_option maxHeartbeats 4000000 in
theorem sX6_byteAt {g : Wo} {M : Mem} {x1 : Int32} {r : Int32} (h : fX6_byteAt x1 M = some r) : Sp g kX6_byteAt 0 [.ref 49, .int x1] M (some (.int r)) M := by
  rw [fX6_byteAt] at h
  refine Sp_intro (by decide) [some (.ref 49), some (.int x1)] rfl (Nat.le_of_ble_eq_true rfl) ?_
  refine v_iload_n dX6_byteAt_0 rfl ?_
  refine v_aload_n dX6_byteAt_1 rfl ?_
  refine v_geti dX6_byteAt_2 flX6_182 sh_49 rfl ?_
  refine v_icmp_ge (tgt := 17) dX6_byteAt_5 rfl (fun c1 => ?_) (fun c1 => ?_)
  · replace h := (if_pos c1).symm.trans h
    refine v_iconst (v := -1) dX6_byteAt_17 rfl ?_
    replace h := Option.some.inj h; subst h
    exact v_iret rfl dX6_byteAt_18
  · replace h := (if_neg c1).symm.trans h
    refine v_aload_n dX6_byteAt_8 rfl ?_
    refine v_getr dX6_byteAt_9 flX6_28 sh_49 rfl ?_
    refine v_iload_n dX6_byteAt_12 rfl ?_
    obtain ⟨v2, e3, h⟩ := Option.bind_eq_some_iff.mp h
    refine v_ild e3 dX6_byteAt_13 sh_56 ?_
    refine v_goto (tgt := 18) dX6_byteAt_14 rfl ?_
    replace h := Option.some.inj h; subst h
    exact v_iret rfl dX6_byteAt_18
/-! ===== BentPlainModel.isLetter(I)Z ===== -/
def fX6_isLetter (x0 : Int32) : Int32 := (fX6_in ((x0).toInt64) (97 : Int64) (122 : Int64))
set_option maxRecDepth 100000 in
set_option maxHeartbeats 4000000 in
theorem sX6_isLetter {g : Wo} {M : Mem} {x0 : Int32} {r : Int32} (h : fX6_isLetter x0 = r) : Sp g kX6_isLetter 1 [.int x0] M (some (.int r)) M := by
  rw [fX6_isLetter] at h
  refine Sp_intro (by decide) [some (.int x0)] rfl (Nat.le_of_ble_eq_true rfl) ?_
  refine v_iload_n dX6_isLetter_0 rfl ?_
  refine v_i2l dX6_isLetter_1 ?_
  refine v_ldc2 (v := 97) dX6_isLetter_2 w_1113 ?_
  refine v_ldc2 (v := 122) dX6_isLetter_5 w_1114 ?_
  refine v_callS (as := [.long ((x0).toInt64), .long (97 : Int64), .long (122 : Int64)]) (st := []) (sX6_in rfl) dX6_isLetter_8 mlX6_45 (CRn (by decide) (by decide)) rfl rfl (Nat.le_of_ble_eq_true rfl) ?_
  subst h
  exact v_zret rfl (z_nar (zX6_in ((x0).toInt64) (97 : Int64) (122 : Int64))) dX6_isLetter_11
/-! ===== BentPlainModel.isDigit(I)Z ===== -/
def fX6_isDigit (x0 : Int32) : Int32 := (fX6_in ((x0).toInt64) (48 : Int64) (57 : Int64))
set_option maxRecDepth 100000 in
set_option maxHeartbeats 4000000 in
theorem sX6_isDigit {g : Wo} {M : Mem} {x0 : Int32} {r : Int32} (h : fX6_isDigit x0 = r) : Sp g kX6_isDigit 1 [.int x0] M (some (.int r)) M := by
  rw [fX6_isDigit] at h
  refine Sp_intro (by decide) [some (.int x0)] rfl (Nat.le_of_ble_eq_true rfl) ?_
  refine v_iload_n dX6_isDigit_0 rfl ?_
  refine v_i2l dX6_isDigit_1 ?_
  refine v_ldc2 (v := 48) dX6_isDigit_2 w_1118 ?_
  refine v_ldc2 (v := 57) dX6_isDigit_5 w_1119 ?_
  refine v_callS (as := [.long ((x0).toInt64), .long (48 : Int64), .long (57 : Int64)]) (st := []) (sX6_in rfl) dX6_isDigit_8 mlX6_45 (CRn (by decide) (by decide)) rfl rfl (Nat.le_of_ble_eq_true rfl) ?_
  subst h
  exact v_zret rfl (z_nar (zX6_in ((x0).toInt64) (48 : Int64) (57 : Int64))) dX6_isDigit_11
/-! ===== BentPlainModel.token()V ===== -/
def fX6_token_8 {ρ : Type} (kx : Mem → Option ρ) : Nat → Mem → Option ρ
  | 0, _ => none
  | n + 1, M => ((fX6_byteAt (M.1 49 9) M).bind fun v1 => (if v1 = (32 : Int32) then (fX6_token_8 kx n (setI M 49 9 ((M.1 49 9) + (1 : Int32)))) else (kx M)))
def fX6_token_86 {ρ : Type} (kx : Mem → Option ρ) (y1 : Int32) (y2 : Int32) : Nat → Mem → Option ρ
  | 0, _ => none
  | n + 1, M => (if y1 = 0 then (if y2 = 0 then (kx M) else ((fX6_byteAt (M.1 49 10) M).bind fun v12 => (if (fX6_isDigit v12) = 0 then (kx M) else (fX6_token_86 kx y1 y2 n (setI M 49 10 ((M.1 49 10) + (1 : Int32))))))) else ((fX6_byteAt (M.1 49 10) M).bind fun v15 => (if (fX6_isLetter v15) = 0 then (if y2 = 0 then (kx M) else ((fX6_byteAt (M.1 49 10) M).bind fun v19 => (if (fX6_isDigit v19) = 0 then (kx M) else (fX6_token_86 kx y1 y2 n (setI M 49 10 ((M.1 49 10) + (1 : Int32))))))) else (fX6_token_86 kx y1 y2 n (setI M 49 10 ((M.1 49 10) + (1 : Int32)))))))
def fX6_token (M : Mem) : Option Mem := (fX6_token_8 (fun M4 => ((fX6_byteAt (M4.1 49 9) M4).bind fun v5 => ((fX6_byteAt (M4.1 49 9) M4).bind fun v7 => (fX6_token_86 (fun M22 => some M22) (fX6_isLetter v5) (fX6_isDigit v7) FU (setI M4 49 10 (if (M4.1 49 8) ≤ (M4.1 49 9) then (M4.1 49 9) else ((M4.1 49 9) + (1 : Int32)))))))) FU (setI M 49 9 (M.1 49 10)))
set_option maxRecDepth 100000 in
set_option maxHeartbeats 4000000 in
theorem tX6_token_8 {g : Wo} {ρ : Type} {kx : Mem → Option ρ} {r : ρ} {rr : Option Value} {Mr : Mem} (hk : ∀ (Mx : Mem), kx Mx = some r → V g kX6_token (jm g 2 rr Mr) 34 [some (.ref 49), none, none] [] Mx) : ∀ (n : Nat) (M : Mem), fX6_token_8 kx n M = some r → V g kX6_token (jm g 2 rr Mr) 8 [some (.ref 49), none, none] [] M := by
  intro n
  induction n with
  | zero =>
    intro M h
    rw [fX6_token_8] at h
    cases h
  | succ n ih =>
    intro M h
    rw [fX6_token_8] at h
    refine v_aload_n dX6_token_8 rfl ?_
    refine v_aload_n dX6_token_9 rfl ?_
    refine v_geti dX6_token_10 flX6_197 sh_49 rfl ?_
    obtain ⟨v1, e2, h⟩ := Option.bind_eq_some_iff.mp h
    refine v_callV (as := [.int (M.1 49 9)]) (st := []) (sX6_byteAt e2) dX6_token_13 mlX6_200 (CRn (by decide) (by decide)) sh_49 rfl rfl rfl (Nat.le_of_ble_eq_true rfl) ?_
    refine v_bipush (v := 32) dX6_token_16 rfl ?_
    refine v_icmp_ne (tgt := 34) dX6_token_18 rfl (fun c3 => ?_) (fun c3 => ?_)
    · replace h := (if_neg c3).symm.trans h
      refine V.sub (ls' := [some (.ref 49), none, none]) (And.intro rfl trivial) ?_
      exact hk _ h
    · replace h := (if_pos c3).symm.trans h
      refine v_aload_n dX6_token_21 rfl ?_
      refine v_dup dX6_token_22 rfl ?_
      refine v_geti dX6_token_23 flX6_197 sh_49 rfl ?_
      refine v_iconst (v := 1) dX6_token_26 rfl ?_
      refine v_iadd dX6_token_27 ?_
      refine v_puti dX6_token_28 fpX6_197 sh_49 rfl ?_
      refine v_goto (tgt := 8) dX6_token_31 rfl ?_
      refine V.sub (ls' := [some (.ref 49), none, none]) (And.intro rfl trivial) ?_
      exact ih _ h
set_option maxRecDepth 100000 in
set_option maxHeartbeats 4000000 in
theorem tX6_token_86 {g : Wo} {ρ : Type} {kx : Mem → Option ρ} {y1 : Int32} {y2 : Int32} {r : ρ} {rr : Option Value} {Mr : Mem} (hk : ∀ (Mx : Mem), kx Mx = some r → V g kX6_token (jm g 2 rr Mr) 135 [none, none, none] [] Mx) : ∀ (n : Nat) (M : Mem), fX6_token_86 kx y1 y2 n M = some r → V g kX6_token (jm g 2 rr Mr) 86 [some (.ref 49), some (.int y1), some (.int y2)] [] M := by
  intro n
  induction n with
  | zero =>
    intro M h
    rw [fX6_token_86] at h
    cases h
  | succ n ih =>
    intro M h
    rw [fX6_token_86] at h
    refine v_iload_n dX6_token_86 rfl ?_
    refine v_if_eq (tgt := 104) dX6_token_87 rfl (fun c10 => ?_) (fun c10 => ?_)
    · replace h := (if_pos c10).symm.trans h
      refine v_iload_n dX6_token_104 rfl ?_
      refine v_if_eq (tgt := 135) dX6_token_105 rfl (fun c11 => ?_) (fun c11 => ?_)
      · replace h := (if_pos c11).symm.trans h
        refine V.sub (ls' := [none, none, none]) trivial ?_
        exact hk _ h
      · replace h := (if_neg c11).symm.trans h
        refine v_aload_n dX6_token_108 rfl ?_
        refine v_aload_n dX6_token_109 rfl ?_
        refine v_geti dX6_token_110 flX6_194 sh_49 rfl ?_
        obtain ⟨v12, e13, h⟩ := Option.bind_eq_some_iff.mp h
        refine v_callV (as := [.int (M.1 49 10)]) (st := []) (sX6_byteAt e13) dX6_token_113 mlX6_200 (CRn (by decide) (by decide)) sh_49 rfl rfl rfl (Nat.le_of_ble_eq_true rfl) ?_
        refine v_callS (as := [.int v12]) (st := []) (sX6_isDigit rfl) dX6_token_116 mlX6_206 (CRn (by decide) (by decide)) rfl rfl (Nat.le_of_ble_eq_true rfl) ?_
        refine v_if_eq (tgt := 135) dX6_token_119 rfl (fun c14 => ?_) (fun c14 => ?_)
        · replace h := (if_pos c14).symm.trans h
          refine V.sub (ls' := [none, none, none]) trivial ?_
          exact hk _ h
        · replace h := (if_neg c14).symm.trans h
          refine v_aload_n dX6_token_122 rfl ?_
          refine v_dup dX6_token_123 rfl ?_
          refine v_geti dX6_token_124 flX6_194 sh_49 rfl ?_
          refine v_iconst (v := 1) dX6_token_127 rfl ?_
          refine v_iadd dX6_token_128 ?_
          refine v_puti dX6_token_129 fpX6_194 sh_49 rfl ?_
          refine v_goto (tgt := 86) dX6_token_132 rfl ?_
          refine V.sub (ls' := [some (.ref 49), some (.int y1), some (.int y2)]) (And.intro rfl (And.intro rfl (And.intro rfl trivial))) ?_
          exact ih _ h
    · replace h := (if_neg c10).symm.trans h
      refine v_aload_n dX6_token_90 rfl ?_
      refine v_aload_n dX6_token_91 rfl ?_
      refine v_geti dX6_token_92 flX6_194 sh_49 rfl ?_
      obtain ⟨v15, e16, h⟩ := Option.bind_eq_some_iff.mp h
      refine v_callV (as := [.int (M.1 49 10)]) (st := []) (sX6_byteAt e16) dX6_token_95 mlX6_200 (CRn (by decide) (by decide)) sh_49 rfl rfl rfl (Nat.le_of_ble_eq_true rfl) ?_
      refine v_callS (as := [.int v15]) (st := []) (sX6_isLetter rfl) dX6_token_98 mlX6_203 (CRn (by decide) (by decide)) rfl rfl (Nat.le_of_ble_eq_true rfl) ?_
      refine v_if_ne (tgt := 122) dX6_token_101 rfl (fun c17 => ?_) (fun c17 => ?_)
      · replace h := (if_neg c17).symm.trans h
        refine v_aload_n dX6_token_122 rfl ?_
        refine v_dup dX6_token_123 rfl ?_
        refine v_geti dX6_token_124 flX6_194 sh_49 rfl ?_
        refine v_iconst (v := 1) dX6_token_127 rfl ?_
        refine v_iadd dX6_token_128 ?_
        refine v_puti dX6_token_129 fpX6_194 sh_49 rfl ?_
        refine v_goto (tgt := 86) dX6_token_132 rfl ?_
        refine V.sub (ls' := [some (.ref 49), some (.int y1), some (.int y2)]) (And.intro rfl (And.intro rfl (And.intro rfl trivial))) ?_
        exact ih _ h
      · replace h := (if_pos c17).symm.trans h
        refine v_iload_n dX6_token_104 rfl ?_
        refine v_if_eq (tgt := 135) dX6_token_105 rfl (fun c18 => ?_) (fun c18 => ?_)
        · replace h := (if_pos c18).symm.trans h
          refine V.sub (ls' := [none, none, none]) trivial ?_
          exact hk _ h
        · replace h := (if_neg c18).symm.trans h
          refine v_aload_n dX6_token_108 rfl ?_
          refine v_aload_n dX6_token_109 rfl ?_
          refine v_geti dX6_token_110 flX6_194 sh_49 rfl ?_
          obtain ⟨v19, e20, h⟩ := Option.bind_eq_some_iff.mp h
          refine v_callV (as := [.int (M.1 49 10)]) (st := []) (sX6_byteAt e20) dX6_token_113 mlX6_200 (CRn (by decide) (by decide)) sh_49 rfl rfl rfl (Nat.le_of_ble_eq_true rfl) ?_
          refine v_callS (as := [.int v19]) (st := []) (sX6_isDigit rfl) dX6_token_116 mlX6_206 (CRn (by decide) (by decide)) rfl rfl (Nat.le_of_ble_eq_true rfl) ?_
          refine v_if_eq (tgt := 135) dX6_token_119 rfl (fun c21 => ?_) (fun c21 => ?_)
          · replace h := (if_pos c21).symm.trans h
            refine V.sub (ls' := [none, none, none]) trivial ?_
            exact hk _ h
          · replace h := (if_neg c21).symm.trans h
            refine v_aload_n dX6_token_122 rfl ?_
            refine v_dup dX6_token_123 rfl ?_
            refine v_geti dX6_token_124 flX6_194 sh_49 rfl ?_
            refine v_iconst (v := 1) dX6_token_127 rfl ?_
            refine v_iadd dX6_token_128 ?_
            refine v_puti dX6_token_129 fpX6_194 sh_49 rfl ?_
            refine v_goto (tgt := 86) dX6_token_132 rfl ?_
            refine V.sub (ls' := [some (.ref 49), some (.int y1), some (.int y2)]) (And.intro rfl (And.intro rfl (And.intro rfl trivial))) ?_
            exact ih _ h
set_option maxRecDepth 100000 in
set_option maxHeartbeats 4000000 in
theorem sX6_token {g : Wo} {M : Mem} {r : Mem} (h : fX6_token M = some r) : Sp g kX6_token 2 [.ref 49] M none r := by
  rw [fX6_token] at h
  refine Sp_intro (by decide) [some (.ref 49), none, none] rfl (Nat.le_of_ble_eq_true rfl) ?_
  refine v_aload_n dX6_token_0 rfl ?_
  refine v_aload_n dX6_token_1 rfl ?_
  refine v_geti dX6_token_2 flX6_194 sh_49 rfl ?_
  refine v_puti dX6_token_5 fpX6_197 sh_49 rfl ?_
  refine V.sub (ls' := [some (.ref 49), none, none]) (And.intro rfl trivial) ?_
  refine tX6_token_8 (fun M4 h => ?_) FU _ h
  refine v_aload_n dX6_token_34 rfl ?_
  refine v_aload_n dX6_token_35 rfl ?_
  refine v_geti dX6_token_36 flX6_197 sh_49 rfl ?_
  obtain ⟨v5, e6, h⟩ := Option.bind_eq_some_iff.mp h
  refine v_callV (as := [.int (M4.1 49 9)]) (st := []) (sX6_byteAt e6) dX6_token_39 mlX6_200 (CRn (by decide) (by decide)) sh_49 rfl rfl rfl (Nat.le_of_ble_eq_true rfl) ?_
  refine v_callS (as := [.int v5]) (st := []) (sX6_isLetter rfl) dX6_token_42 mlX6_203 (CRn (by decide) (by decide)) rfl rfl (Nat.le_of_ble_eq_true rfl) ?_
  refine v_istore_n (ls1 := [some (.ref 49), some (.int (fX6_isLetter v5)), none]) dX6_token_45 (Nat.le_of_ble_eq_true rfl) rfl ?_
  refine v_aload_n dX6_token_46 rfl ?_
  refine v_aload_n dX6_token_47 rfl ?_
  refine v_geti dX6_token_48 flX6_197 sh_49 rfl ?_
  obtain ⟨v7, e8, h⟩ := Option.bind_eq_some_iff.mp h
  refine v_callV (as := [.int (M4.1 49 9)]) (st := []) (sX6_byteAt e8) dX6_token_51 mlX6_200 (CRn (by decide) (by decide)) sh_49 rfl rfl rfl (Nat.le_of_ble_eq_true rfl) ?_
  refine v_callS (as := [.int v7]) (st := []) (sX6_isDigit rfl) dX6_token_54 mlX6_206 (CRn (by decide) (by decide)) rfl rfl (Nat.le_of_ble_eq_true rfl) ?_
  refine v_istore_n (ls1 := [some (.ref 49), some (.int (fX6_isLetter v5)), some (.int (fX6_isDigit v7))]) dX6_token_57 (Nat.le_of_ble_eq_true rfl) rfl ?_
  refine v_aload_n dX6_token_58 rfl ?_
  refine v_aload_n dX6_token_59 rfl ?_
  refine v_geti dX6_token_60 flX6_197 sh_49 rfl ?_
  refine v_aload_n dX6_token_63 rfl ?_
  refine v_geti dX6_token_64 flX6_182 sh_49 rfl ?_
  have hJ : V g kX6_token (jm g 2 none r) 83 [some (.ref 49), some (.int (fX6_isLetter v5)), some (.int (fX6_isDigit v7))] [.int (if (M4.1 49 8) ≤ (M4.1 49 9) then (M4.1 49 9) else ((M4.1 49 9) + (1 : Int32))), .ref 49] M4 := by
    refine v_puti dX6_token_83 fpX6_194 sh_49 rfl ?_
    refine V.sub (ls' := [some (.ref 49), some (.int (fX6_isLetter v5)), some (.int (fX6_isDigit v7))]) (And.intro rfl (And.intro rfl (And.intro rfl trivial))) ?_
    refine tX6_token_86 (fun M22 h => ?_) FU _ h
    replace h := Option.some.inj h; subst h
    exact v_vret rfl dX6_token_135
  refine v_icmp_ge (tgt := 79) dX6_token_67 rfl (fun c9 => ?_) (fun c9 => ?_)
  · refine v_aload_n dX6_token_79 rfl ?_
    refine v_geti dX6_token_80 flX6_197 sh_49 rfl ?_
    refine V.sub (ls' := [some (.ref 49), some (.int (fX6_isLetter v5)), some (.int (fX6_isDigit v7))]) (And.intro rfl (And.intro rfl (And.intro rfl trivial))) ?_
    first | (simp only [if_pos c9] at hJ; exact hJ) | exact hJ | (simp only [if_pos c9] at hJ ⊢; exact hJ)
  · refine v_aload_n dX6_token_70 rfl ?_
    refine v_geti dX6_token_71 flX6_197 sh_49 rfl ?_
    refine v_iconst (v := 1) dX6_token_74 rfl ?_
    refine v_iadd dX6_token_75 ?_
    refine v_goto (tgt := 83) dX6_token_76 rfl ?_
    refine V.sub (ls' := [some (.ref 49), some (.int (fX6_isLetter v5)), some (.int (fX6_isDigit v7))]) (And.intro rfl (And.intro rfl (And.intro rfl trivial))) ?_
    first | (simp only [if_neg c9] at hJ; exact hJ) | exact hJ | (simp only [if_neg c9] at hJ ⊢; exact hJ)
