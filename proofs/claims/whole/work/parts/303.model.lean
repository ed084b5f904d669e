/-! ===== BentPlainModel.on(III)I ===== -/
def fX6_on_46 {ρ : Type} (kx : Mem → Option ρ) (y1 : Int32) (y2 : Int32) (y3 : Int32) : Nat → Int32 → Mem → Option ρ
  | 0, _, _ => none
  | n + 1, y4, M => (if y2 ≤ y4 then (kx M) else ((fX6_goes y1 M).bind fun w13 => (fX6_on_46 kx y1 y2 y3 n (y4 + (1 : Int32)) w13)))
def fX6_on (x1 : Int32) (x2 : Int32) (x3 : Int32) (M : Mem) : Option (Int32 × Mem) := ((fX6_isWalker x1 M).bind fun v1 => (if v1 = 0 then ((fX6_finds (-1000000001 : Int32) M).bind fun w4 => some (w4.1, w4.2)) else (if (fX6_in ((x2).toInt64) (0 : Int64) (100 : Int64)) = 0 then ((fX6_finds (-1000000001 : Int32) M).bind fun w7 => some (w7.1, w7.2)) else (if (fX6_in ((x3).toInt64) (0 : Int64) (3 : Int64)) = 0 then ((fX6_finds (-1000000001 : Int32) M).bind fun w20 => some (w20.1, w20.2)) else ((fX6_laysAside M).bind fun w10 => (fX6_on_46 (fun M15 => ((fX6_partOf x1 (x3 + (1 : Int32)) M15).bind fun v16 => ((fX6_takesBack v16 M15).bind fun w18 => some (w18.1, w18.2)))) x1 x2 x3 FU (0 : Int32) w10))))))
set_option maxRecDepth 100000 in
set_option maxHeartbeats 4000000 in
theorem tX6_on_46 {g : Wo} {ρ : Type} {kx : Mem → Option ρ} {y1 : Int32} {y2 : Int32} {y3 : Int32} {r : ρ} {rr : Option Value} {Mr : Mem} (hk : ∀ (Mx : Mem), kx Mx = some r → V g kX6_on (jm g 4 rr Mr) 63 [some (.ref 49), some (.int y1), none, some (.int y3), none] [] Mx) : ∀ (n : Nat) (y4 : Int32) (M : Mem), fX6_on_46 kx y1 y2 y3 n y4 M = some r → V g kX6_on (jm g 4 rr Mr) 46 [some (.ref 49), some (.int y1), some (.int y2), some (.int y3), some (.int y4)] [] M := by
  intro n
  induction n with
  | zero =>
    intro y4 M h
    rw [fX6_on_46] at h
    cases h
  | succ n ih =>
    intro y4 M h
    rw [fX6_on_46] at h
    refine v_iload dX6_on_46 rfl ?_
    refine v_iload_n dX6_on_48 rfl ?_
    refine v_icmp_ge (tgt := 63) dX6_on_49 rfl (fun c12 => ?_) (fun c12 => ?_)
    · replace h := (if_pos c12).symm.trans h
      refine V.sub (ls' := [some (.ref 49), some (.int y1), none, some (.int y3), none]) (And.intro rfl (And.intro rfl (And.intro rfl trivial))) ?_
      exact hk _ h
    · replace h := (if_neg c12).symm.trans h
      refine v_aload_n dX6_on_52 rfl ?_
      refine v_iload_n dX6_on_53 rfl ?_
      obtain ⟨w13, e14, h⟩ := Option.bind_eq_some_iff.mp h
      refine v_callV (as := [.int y1]) (st := []) (sX6_goes e14) dX6_on_54 mlX6_134 (CRn (by decide) (by decide)) sh_49 rfl rfl rfl (Nat.le_of_ble_eq_true rfl) ?_
      refine v_iinc (v := 1) (ls1 := [some (.ref 49), some (.int y1), some (.int y2), some (.int y3), some (.int (y4 + (1 : Int32)))]) dX6_on_57 rfl rfl (Nat.le_of_ble_eq_true rfl) rfl ?_
      refine v_goto (tgt := 46) dX6_on_60 rfl ?_
      refine V.sub (ls' := [some (.ref 49), some (.int y1), some (.int y2), some (.int y3), some (.int (y4 + (1 : Int32)))]) (And.intro rfl (And.intro rfl (And.intro rfl (And.intro rfl (And.intro rfl trivial))))) ?_
      exact ih _ _ h
set_option maxRecDepth 100000 in
set_option maxHeartbeats 4000000 in
theorem sX6_on {g : Wo} {M : Mem} {x1 : Int32} {x2 : Int32} {x3 : Int32} {r : Int32 × Mem} (h : fX6_on x1 x2 x3 M = some r) : Sp g kX6_on 4 [.ref 49, .int x1, .int x2, .int x3] M (some (.int r.1)) r.2 := by
  rw [fX6_on] at h
  refine Sp_intro (by decide) [some (.ref 49), some (.int x1), some (.int x2), some (.int x3), none] rfl (Nat.le_of_ble_eq_true rfl) ?_
  refine v_aload_n dX6_on_0 rfl ?_
  refine v_iload_n dX6_on_1 rfl ?_
  obtain ⟨v1, e2, h⟩ := Option.bind_eq_some_iff.mp h
  refine v_callV (as := [.int x1]) (st := []) (sX6_isWalker e2) dX6_on_2 mlX6_124 (CRn (by decide) (by decide)) sh_49 rfl rfl rfl (Nat.le_of_ble_eq_true rfl) ?_
  refine v_if_eq (tgt := 32) dX6_on_5 rfl (fun c3 => ?_) (fun c3 => ?_)
  · replace h := (if_pos c3).symm.trans h
    refine v_aload_n dX6_on_32 rfl ?_
    refine v_ldc (v := -1000000001) dX6_on_33 w_809 ?_
    obtain ⟨w4, e5, h⟩ := Option.bind_eq_some_iff.mp h
    refine v_callV (as := [.int (-1000000001 : Int32)]) (st := []) (sX6_finds e5) dX6_on_35 mlX6_69 (CRn (by decide) (by decide)) sh_49 rfl rfl rfl (Nat.le_of_ble_eq_true rfl) ?_
    replace h := Option.some.inj h; subst h
    exact v_iret rfl dX6_on_38
  · replace h := (if_neg c3).symm.trans h
    refine v_iload_n dX6_on_8 rfl ?_
    refine v_i2l dX6_on_9 ?_
    refine v_lconst (v := 0) dX6_on_10 rfl ?_
    refine v_ldc2 (v := 100) dX6_on_11 w_950 ?_
    refine v_callS (as := [.long ((x2).toInt64), .long (0 : Int64), .long (100 : Int64)]) (st := []) (sX6_in rfl) dX6_on_14 mlX6_45 (CRn (by decide) (by decide)) rfl rfl (Nat.le_of_ble_eq_true rfl) ?_
    refine v_if_eq (tgt := 32) dX6_on_17 rfl (fun c6 => ?_) (fun c6 => ?_)
    · replace h := (if_pos c6).symm.trans h
      refine v_aload_n dX6_on_32 rfl ?_
      refine v_ldc (v := -1000000001) dX6_on_33 w_809 ?_
      obtain ⟨w7, e8, h⟩ := Option.bind_eq_some_iff.mp h
      refine v_callV (as := [.int (-1000000001 : Int32)]) (st := []) (sX6_finds e8) dX6_on_35 mlX6_69 (CRn (by decide) (by decide)) sh_49 rfl rfl rfl (Nat.le_of_ble_eq_true rfl) ?_
      replace h := Option.some.inj h; subst h
      exact v_iret rfl dX6_on_38
    · replace h := (if_neg c6).symm.trans h
      refine v_iload_n dX6_on_20 rfl ?_
      refine v_i2l dX6_on_21 ?_
      refine v_lconst (v := 0) dX6_on_22 rfl ?_
      refine v_ldc2 (v := 3) dX6_on_23 w_862 ?_
      refine v_callS (as := [.long ((x3).toInt64), .long (0 : Int64), .long (3 : Int64)]) (st := []) (sX6_in rfl) dX6_on_26 mlX6_45 (CRn (by decide) (by decide)) rfl rfl (Nat.le_of_ble_eq_true rfl) ?_
      refine v_if_ne (tgt := 39) dX6_on_29 rfl (fun c9 => ?_) (fun c9 => ?_)
      · replace h := (if_neg c9).symm.trans h
        refine v_aload_n dX6_on_39 rfl ?_
        obtain ⟨w10, e11, h⟩ := Option.bind_eq_some_iff.mp h
        refine v_callV (as := []) (st := []) (sX6_laysAside e11) dX6_on_40 mlX6_146 (CRn (by decide) (by decide)) sh_49 rfl rfl rfl (Nat.le_of_ble_eq_true rfl) ?_
        refine v_iconst (v := 0) dX6_on_43 rfl ?_
        refine v_istore (ls1 := [some (.ref 49), some (.int x1), some (.int x2), some (.int x3), some (.int (0 : Int32))]) dX6_on_44 (Nat.le_of_ble_eq_true rfl) rfl ?_
        refine V.sub (ls' := [some (.ref 49), some (.int x1), some (.int x2), some (.int x3), some (.int (0 : Int32))]) (And.intro rfl (And.intro rfl (And.intro rfl (And.intro rfl (And.intro rfl trivial))))) ?_
        refine tX6_on_46 (fun M15 h => ?_) FU _ _ h
        refine v_aload_n dX6_on_63 rfl ?_
        refine v_aload_n dX6_on_64 rfl ?_
        refine v_iload_n dX6_on_65 rfl ?_
        refine v_iload_n dX6_on_66 rfl ?_
        refine v_iconst (v := 1) dX6_on_67 rfl ?_
        refine v_iadd dX6_on_68 ?_
        obtain ⟨v16, e17, h⟩ := Option.bind_eq_some_iff.mp h
        refine v_callV (as := [.int x1, .int (x3 + (1 : Int32))]) (st := [.ref 49]) (sX6_partOf e17) dX6_on_69 mlX6_64 (CRn (by decide) (by decide)) sh_49 rfl rfl rfl (Nat.le_of_ble_eq_true rfl) ?_
        obtain ⟨w18, e19, h⟩ := Option.bind_eq_some_iff.mp h
        refine v_callV (as := [.int v16]) (st := []) (sX6_takesBack e19) dX6_on_72 mlX6_149 (CRn (by decide) (by decide)) sh_49 rfl rfl rfl (Nat.le_of_ble_eq_true rfl) ?_
        replace h := Option.some.inj h; subst h
        exact v_iret rfl dX6_on_75
      · replace h := (if_pos c9).symm.trans h
        refine v_aload_n dX6_on_32 rfl ?_
        refine v_ldc (v := -1000000001) dX6_on_33 w_809 ?_
        obtain ⟨w20, e21, h⟩ := Option.bind_eq_some_iff.mp h
        refine v_callV (as := [.int (-1000000001 : Int32)]) (st := []) (sX6_finds e21) dX6_on_35 mlX6_69 (CRn (by decide) (by decide)) sh_49 rfl rfl rfl (Nat.le_of_ble_eq_true rfl) ?_
        replace h := Option.some.inj h; subst h
        exact v_iret rfl dX6_on_38
/-! ===== BentPlainModel.orNone(II)I ===== -/
def fX6_orNone (x1 : Int32) (x2 : Int32) (M : Mem) : Option (Int32 × Mem) := (if x1 ≤ x2 then some (x1, M) else ((fX6_finds (-1000000004 : Int32) M).bind fun w2 => some (w2.1, w2.2)))
set_option maxRecDepth 100000 in
set_option maxHeartbeats 4000000 in
theorem sX6_orNone {g : Wo} {M : Mem} {x1 : Int32} {x2 : Int32} {r : Int32 × Mem} (h : fX6_orNone x1 x2 M = some r) : Sp g kX6_orNone 1 [.ref 49, .int x1, .int x2] M (some (.int r.1)) r.2 := by
  rw [fX6_orNone] at h
  refine Sp_intro (by decide) [some (.ref 49), some (.int x1), some (.int x2)] rfl (Nat.le_of_ble_eq_true rfl) ?_
  refine v_iload_n dX6_orNone_0 rfl ?_
  refine v_iload_n dX6_orNone_1 rfl ?_
  refine v_icmp_le (tgt := 14) dX6_orNone_2 rfl (fun c1 => ?_) (fun c1 => ?_)
  · replace h := (if_pos c1).symm.trans h
    refine v_iload_n dX6_orNone_14 rfl ?_
    replace h := Option.some.inj h; subst h
    exact v_iret rfl dX6_orNone_15
  · replace h := (if_neg c1).symm.trans h
    refine v_aload_n dX6_orNone_5 rfl ?_
    refine v_ldc (v := -1000000004) dX6_orNone_6 w_880 ?_
    obtain ⟨w2, e3, h⟩ := Option.bind_eq_some_iff.mp h
    refine v_callV (as := [.int (-1000000004 : Int32)]) (st := []) (sX6_finds e3) dX6_orNone_8 mlX6_69 (CRn (by decide) (by decide)) sh_49 rfl rfl rfl (Nat.le_of_ble_eq_true rfl) ?_
    refine v_goto (tgt := 15) dX6_orNone_11 rfl ?_
    replace h := Option.some.inj h; subst h
    exact v_iret rfl dX6_orNone_15
/-! ===== BentPlainModel.when(II)I ===== -/
def fX6_when_29 {ρ : Type} (kx : Int32 → Mem → Option ρ) (y1 : Int32) (y2 : Int32) : Nat → Int32 → Mem → Option ρ
  | 0, _, _ => none
  | n + 1, y3, M => (if (100 : Int32) < y3 then (kx y3 M) else ((fX6_partOf y1 (1 : Int32) M).bind fun v12 => (if v12 = y2 then (kx y3 M) else ((fX6_goes y1 M).bind fun w15 => (fX6_when_29 kx y1 y2 n (y3 + (1 : Int32)) w15)))))
def fX6_when (x1 : Int32) (x2 : Int32) (M : Mem) : Option (Int32 × Mem) := ((fX6_isWalker x1 M).bind fun v1 => (if v1 = 0 then ((fX6_finds (-1000000001 : Int32) M).bind fun w4 => some (w4.1, w4.2)) else ((fX6_isField x2 M).bind fun v6 => (if v6 = 0 then ((fX6_finds (-1000000001 : Int32) M).bind fun w23 => some (w23.1, w23.2)) else ((fX6_laysAside M).bind fun w9 => (fX6_when_29 (fun u17 M18 => ((fX6_takesBack u17 M18).bind fun w19 => ((fX6_orNone w19.1 (100 : Int32) w19.2).bind fun w21 => some (w21.1, w21.2)))) x1 x2 FU (0 : Int32) w9))))))
set_option maxRecDepth 100000 in
set_option maxHeartbeats 4000000 in
theorem tX6_when_29 {g : Wo} {ρ : Type} {kx : Int32 → Mem → Option ρ} {y1 : Int32} {y2 : Int32} {r : ρ} {rr : Option Value} {Mr : Mem} (hk : ∀ (z3 : Int32) (Mx : Mem), kx z3 Mx = some r → V g kX6_when (jm g 4 rr Mr) 56 [some (.ref 49), none, none, some (.int z3)] [] Mx) : ∀ (n : Nat) (y3 : Int32) (M : Mem), fX6_when_29 kx y1 y2 n y3 M = some r → V g kX6_when (jm g 4 rr Mr) 29 [some (.ref 49), some (.int y1), some (.int y2), some (.int y3)] [] M := by
  intro n
  induction n with
  | zero =>
    intro y3 M h
    rw [fX6_when_29] at h
    cases h
  | succ n ih =>
    intro y3 M h
    rw [fX6_when_29] at h
    refine v_iload_n dX6_when_29 rfl ?_
    refine v_bipush (v := 100) dX6_when_30 rfl ?_
    refine v_icmp_gt (tgt := 56) dX6_when_32 rfl (fun c11 => ?_) (fun c11 => ?_)
    · replace h := (if_pos c11).symm.trans h
      refine V.sub (ls' := [some (.ref 49), none, none, some (.int y3)]) (And.intro rfl (And.intro rfl trivial)) ?_
      exact hk _ _ h
    · replace h := (if_neg c11).symm.trans h
      refine v_aload_n dX6_when_35 rfl ?_
      refine v_iload_n dX6_when_36 rfl ?_
      refine v_iconst (v := 1) dX6_when_37 rfl ?_
      obtain ⟨v12, e13, h⟩ := Option.bind_eq_some_iff.mp h
      refine v_callV (as := [.int y1, .int (1 : Int32)]) (st := []) (sX6_partOf e13) dX6_when_38 mlX6_64 (CRn (by decide) (by decide)) sh_49 rfl rfl rfl (Nat.le_of_ble_eq_true rfl) ?_
      refine v_iload_n dX6_when_41 rfl ?_
      refine v_icmp_eq (tgt := 56) dX6_when_42 rfl (fun c14 => ?_) (fun c14 => ?_)
      · replace h := (if_pos c14).symm.trans h
        refine V.sub (ls' := [some (.ref 49), none, none, some (.int y3)]) (And.intro rfl (And.intro rfl trivial)) ?_
        exact hk _ _ h
      · replace h := (if_neg c14).symm.trans h
        refine v_aload_n dX6_when_45 rfl ?_
        refine v_iload_n dX6_when_46 rfl ?_
        obtain ⟨w15, e16, h⟩ := Option.bind_eq_some_iff.mp h
        refine v_callV (as := [.int y1]) (st := []) (sX6_goes e16) dX6_when_47 mlX6_134 (CRn (by decide) (by decide)) sh_49 rfl rfl rfl (Nat.le_of_ble_eq_true rfl) ?_
        refine v_iinc (v := 1) (ls1 := [some (.ref 49), some (.int y1), some (.int y2), some (.int (y3 + (1 : Int32)))]) dX6_when_50 rfl rfl (Nat.le_of_ble_eq_true rfl) rfl ?_
        refine v_goto (tgt := 29) dX6_when_53 rfl ?_
        refine V.sub (ls' := [some (.ref 49), some (.int y1), some (.int y2), some (.int (y3 + (1 : Int32)))]) (And.intro rfl (And.intro rfl (And.intro rfl (And.intro rfl trivial)))) ?_
        exact ih _ _ h
set_option maxRecDepth 100000 in
set_option maxHeartbeats 4000000 in
theorem sX6_when {g : Wo} {M : Mem} {x1 : Int32} {x2 : Int32} {r : Int32 × Mem} (h : fX6_when x1 x2 M = some r) : Sp g kX6_when 4 [.ref 49, .int x1, .int x2] M (some (.int r.1)) r.2 := by
  rw [fX6_when] at h
  refine Sp_intro (by decide) [some (.ref 49), some (.int x1), some (.int x2), none] rfl (Nat.le_of_ble_eq_true rfl) ?_
  refine v_aload_n dX6_when_0 rfl ?_
  refine v_iload_n dX6_when_1 rfl ?_
  obtain ⟨v1, e2, h⟩ := Option.bind_eq_some_iff.mp h
  refine v_callV (as := [.int x1]) (st := []) (sX6_isWalker e2) dX6_when_2 mlX6_124 (CRn (by decide) (by decide)) sh_49 rfl rfl rfl (Nat.le_of_ble_eq_true rfl) ?_
  refine v_if_eq (tgt := 16) dX6_when_5 rfl (fun c3 => ?_) (fun c3 => ?_)
  · replace h := (if_pos c3).symm.trans h
    refine v_aload_n dX6_when_16 rfl ?_
    refine v_ldc (v := -1000000001) dX6_when_17 w_809 ?_
    obtain ⟨w4, e5, h⟩ := Option.bind_eq_some_iff.mp h
    refine v_callV (as := [.int (-1000000001 : Int32)]) (st := []) (sX6_finds e5) dX6_when_19 mlX6_69 (CRn (by decide) (by decide)) sh_49 rfl rfl rfl (Nat.le_of_ble_eq_true rfl) ?_
    replace h := Option.some.inj h; subst h
    exact v_iret rfl dX6_when_22
  · replace h := (if_neg c3).symm.trans h
    refine v_aload_n dX6_when_8 rfl ?_
    refine v_iload_n dX6_when_9 rfl ?_
    obtain ⟨v6, e7, h⟩ := Option.bind_eq_some_iff.mp h
    refine v_callV (as := [.int x2]) (st := []) (sX6_isField e7) dX6_when_10 mlX6_53 (CRn (by decide) (by decide)) sh_49 rfl rfl rfl (Nat.le_of_ble_eq_true rfl) ?_
    refine v_if_ne (tgt := 23) dX6_when_13 rfl (fun c8 => ?_) (fun c8 => ?_)
    · replace h := (if_neg c8).symm.trans h
      refine v_aload_n dX6_when_23 rfl ?_
      obtain ⟨w9, e10, h⟩ := Option.bind_eq_some_iff.mp h
      refine v_callV (as := []) (st := []) (sX6_laysAside e10) dX6_when_24 mlX6_146 (CRn (by decide) (by decide)) sh_49 rfl rfl rfl (Nat.le_of_ble_eq_true rfl) ?_
      refine v_iconst (v := 0) dX6_when_27 rfl ?_
      refine v_istore_n (ls1 := [some (.ref 49), some (.int x1), some (.int x2), some (.int (0 : Int32))]) dX6_when_28 (Nat.le_of_ble_eq_true rfl) rfl ?_
      refine V.sub (ls' := [some (.ref 49), some (.int x1), some (.int x2), some (.int (0 : Int32))]) (And.intro rfl (And.intro rfl (And.intro rfl (And.intro rfl trivial)))) ?_
      refine tX6_when_29 (fun u17 M18 h => ?_) FU _ _ h
      refine v_aload_n dX6_when_56 rfl ?_
      refine v_aload_n dX6_when_57 rfl ?_
      refine v_iload_n dX6_when_58 rfl ?_
      obtain ⟨w19, e20, h⟩ := Option.bind_eq_some_iff.mp h
      refine v_callV (as := [.int u17]) (st := [.ref 49]) (sX6_takesBack e20) dX6_when_59 mlX6_149 (CRn (by decide) (by decide)) sh_49 rfl rfl rfl (Nat.le_of_ble_eq_true rfl) ?_
      refine v_bipush (v := 100) dX6_when_62 rfl ?_
      obtain ⟨w21, e22, h⟩ := Option.bind_eq_some_iff.mp h
      refine v_callV (as := [.int w19.1, .int (100 : Int32)]) (st := []) (sX6_orNone e22) dX6_when_64 mlX6_152 (CRn (by decide) (by decide)) sh_49 rfl rfl rfl (Nat.le_of_ble_eq_true rfl) ?_
      replace h := Option.some.inj h; subst h
      exact v_iret rfl dX6_when_67
    · replace h := (if_pos c8).symm.trans h
      refine v_aload_n dX6_when_16 rfl ?_
      refine v_ldc (v := -1000000001) dX6_when_17 w_809 ?_
      obtain ⟨w23, e24, h⟩ := Option.bind_eq_some_iff.mp h
      refine v_callV (as := [.int (-1000000001 : Int32)]) (st := []) (sX6_finds e24) dX6_when_19 mlX6_69 (CRn (by decide) (by decide)) sh_49 rfl rfl rfl (Nat.le_of_ble_eq_true rfl) ?_
      replace h := Option.some.inj h; subst h
      exact v_iret rfl dX6_when_22
/-! ===== BentPlainModel.back(I)I ===== -/
def fX6_back_32 {ρ : Type} (kx : Int32 → Mem → Option ρ) (y1 : Int32) (y2 : Int32) : Nat → Int32 → Mem → Option ρ
  | 0, _, _ => none
  | n + 1, y3, M => (if (200 : Int32) < y3 then (kx y3 M) else ((fX6_wayOf y1 M).bind fun v11 => (if v11 = y2 then (kx y3 M) else ((fX6_goes y1 M).bind fun w14 => (fX6_back_32 kx y1 y2 n (y3 + (1 : Int32)) w14)))))
def fX6_back (x1 : Int32) (M : Mem) : Option (Int32 × Mem) := ((fX6_isWalker x1 M).bind fun v1 => (if v1 = 0 then ((fX6_finds (-1000000001 : Int32) M).bind fun w22 => some (w22.1, w22.2)) else ((fX6_laysAside M).bind fun w4 => ((fX6_wayOf x1 w4).bind fun v6 => ((fX6_goes x1 w4).bind fun w8 => (fX6_back_32 (fun u16 M17 => ((fX6_takesBack u16 M17).bind fun w18 => ((fX6_orNone w18.1 (200 : Int32) w18.2).bind fun w20 => some (w20.1, w20.2)))) x1 v6 FU (1 : Int32) w8))))))
set_option maxRecDepth 100000 in
set_option maxHeartbeats 4000000 in
theorem tX6_back_32 {g : Wo} {ρ : Type} {kx : Int32 → Mem → Option ρ} {y1 : Int32} {y2 : Int32} {r : ρ} {rr : Option Value} {Mr : Mem} (hk : ∀ (z3 : Int32) (Mx : Mem), kx z3 Mx = some r → V g kX6_back (jm g 4 rr Mr) 59 [some (.ref 49), none, none, some (.int z3)] [] Mx) : ∀ (n : Nat) (y3 : Int32) (M : Mem), fX6_back_32 kx y1 y2 n y3 M = some r → V g kX6_back (jm g 4 rr Mr) 32 [some (.ref 49), some (.int y1), some (.int y2), some (.int y3)] [] M := by
  intro n
  induction n with
  | zero =>
    intro y3 M h
    rw [fX6_back_32] at h
    cases h
  | succ n ih =>
    intro y3 M h
    rw [fX6_back_32] at h
    refine v_iload_n dX6_back_32 rfl ?_
    refine v_sipush (v := 200) dX6_back_33 rfl ?_
    refine v_icmp_gt (tgt := 59) dX6_back_36 rfl (fun c10 => ?_) (fun c10 => ?_)
    · replace h := (if_pos c10).symm.trans h
      refine V.sub (ls' := [some (.ref 49), none, none, some (.int y3)]) (And.intro rfl (And.intro rfl trivial)) ?_
      exact hk _ _ h
    · replace h := (if_neg c10).symm.trans h
      refine v_aload_n dX6_back_39 rfl ?_
      refine v_iload_n dX6_back_40 rfl ?_
      obtain ⟨v11, e12, h⟩ := Option.bind_eq_some_iff.mp h
      refine v_callV (as := [.int y1]) (st := []) (sX6_wayOf e12) dX6_back_41 mlX6_109 (CRn (by decide) (by decide)) sh_49 rfl rfl rfl (Nat.le_of_ble_eq_true rfl) ?_
      refine v_iload_n dX6_back_44 rfl ?_
      refine v_icmp_eq (tgt := 59) dX6_back_45 rfl (fun c13 => ?_) (fun c13 => ?_)
      · replace h := (if_pos c13).symm.trans h
        refine V.sub (ls' := [some (.ref 49), none, none, some (.int y3)]) (And.intro rfl (And.intro rfl trivial)) ?_
        exact hk _ _ h
      · replace h := (if_neg c13).symm.trans h
        refine v_aload_n dX6_back_48 rfl ?_
        refine v_iload_n dX6_back_49 rfl ?_
        obtain ⟨w14, e15, h⟩ := Option.bind_eq_some_iff.mp h
        refine v_callV (as := [.int y1]) (st := []) (sX6_goes e15) dX6_back_50 mlX6_134 (CRn (by decide) (by decide)) sh_49 rfl rfl rfl (Nat.le_of_ble_eq_true rfl) ?_
        refine v_iinc (v := 1) (ls1 := [some (.ref 49), some (.int y1), some (.int y2), some (.int (y3 + (1 : Int32)))]) dX6_back_53 rfl rfl (Nat.le_of_ble_eq_true rfl) rfl ?_
        refine v_goto (tgt := 32) dX6_back_56 rfl ?_
        refine V.sub (ls' := [some (.ref 49), some (.int y1), some (.int y2), some (.int (y3 + (1 : Int32)))]) (And.intro rfl (And.intro rfl (And.intro rfl (And.intro rfl trivial)))) ?_
        exact ih _ _ h
set_option maxRecDepth 100000 in
set_option maxHeartbeats 4000000 in
theorem sX6_back {g : Wo} {M : Mem} {x1 : Int32} {r : Int32 × Mem} (h : fX6_back x1 M = some r) : Sp g kX6_back 4 [.ref 49, .int x1] M (some (.int r.1)) r.2 := by
  rw [fX6_back] at h
  refine Sp_intro (by decide) [some (.ref 49), some (.int x1), none, none] rfl (Nat.le_of_ble_eq_true rfl) ?_
  refine v_aload_n dX6_back_0 rfl ?_
  refine v_iload_n dX6_back_1 rfl ?_
  obtain ⟨v1, e2, h⟩ := Option.bind_eq_some_iff.mp h
  refine v_callV (as := [.int x1]) (st := []) (sX6_isWalker e2) dX6_back_2 mlX6_124 (CRn (by decide) (by decide)) sh_49 rfl rfl rfl (Nat.le_of_ble_eq_true rfl) ?_
  refine v_if_ne (tgt := 15) dX6_back_5 rfl (fun c3 => ?_) (fun c3 => ?_)
  · replace h := (if_neg c3).symm.trans h
    refine v_aload_n dX6_back_15 rfl ?_
    obtain ⟨w4, e5, h⟩ := Option.bind_eq_some_iff.mp h
    refine v_callV (as := []) (st := []) (sX6_laysAside e5) dX6_back_16 mlX6_146 (CRn (by decide) (by decide)) sh_49 rfl rfl rfl (Nat.le_of_ble_eq_true rfl) ?_
    refine v_aload_n dX6_back_19 rfl ?_
    refine v_iload_n dX6_back_20 rfl ?_
    obtain ⟨v6, e7, h⟩ := Option.bind_eq_some_iff.mp h
    refine v_callV (as := [.int x1]) (st := []) (sX6_wayOf e7) dX6_back_21 mlX6_109 (CRn (by decide) (by decide)) sh_49 rfl rfl rfl (Nat.le_of_ble_eq_true rfl) ?_
    refine v_istore_n (ls1 := [some (.ref 49), some (.int x1), some (.int v6), none]) dX6_back_24 (Nat.le_of_ble_eq_true rfl) rfl ?_
    refine v_aload_n dX6_back_25 rfl ?_
    refine v_iload_n dX6_back_26 rfl ?_
    obtain ⟨w8, e9, h⟩ := Option.bind_eq_some_iff.mp h
    refine v_callV (as := [.int x1]) (st := []) (sX6_goes e9) dX6_back_27 mlX6_134 (CRn (by decide) (by decide)) sh_49 rfl rfl rfl (Nat.le_of_ble_eq_true rfl) ?_
    refine v_iconst (v := 1) dX6_back_30 rfl ?_
    refine v_istore_n (ls1 := [some (.ref 49), some (.int x1), some (.int v6), some (.int (1 : Int32))]) dX6_back_31 (Nat.le_of_ble_eq_true rfl) rfl ?_
    refine V.sub (ls' := [some (.ref 49), some (.int x1), some (.int v6), some (.int (1 : Int32))]) (And.intro rfl (And.intro rfl (And.intro rfl (And.intro rfl trivial)))) ?_
    refine tX6_back_32 (fun u16 M17 h => ?_) FU _ _ h
    refine v_aload_n dX6_back_59 rfl ?_
    refine v_aload_n dX6_back_60 rfl ?_
    refine v_iload_n dX6_back_61 rfl ?_
    obtain ⟨w18, e19, h⟩ := Option.bind_eq_some_iff.mp h
    refine v_callV (as := [.int u16]) (st := [.ref 49]) (sX6_takesBack e19) dX6_back_62 mlX6_149 (CRn (by decide) (by decide)) sh_49 rfl rfl rfl (Nat.le_of_ble_eq_true rfl) ?_
    refine v_sipush (v := 200) dX6_back_65 rfl ?_
    obtain ⟨w20, e21, h⟩ := Option.bind_eq_some_iff.mp h
    refine v_callV (as := [.int w18.1, .int (200 : Int32)]) (st := []) (sX6_orNone e21) dX6_back_68 mlX6_152 (CRn (by decide) (by decide)) sh_49 rfl rfl rfl (Nat.le_of_ble_eq_true rfl) ?_
    replace h := Option.some.inj h; subst h
    exact v_iret rfl dX6_back_71
  · replace h := (if_pos c3).symm.trans h
    refine v_aload_n dX6_back_8 rfl ?_
    refine v_ldc (v := -1000000001) dX6_back_9 w_809 ?_
    obtain ⟨w22, e23, h⟩ := Option.bind_eq_some_iff.mp h
    refine v_callV (as := [.int (-1000000001 : Int32)]) (st := []) (sX6_finds e23) dX6_back_11 mlX6_69 (CRn (by decide) (by decide)) sh_49 rfl rfl rfl (Nat.le_of_ble_eq_true rfl) ?_
    replace h := Option.some.inj h; subst h
    exact v_iret rfl dX6_back_14
/-! ===== BentPlainModel.meet(II)I ===== -/
def fX6_meet_34 {ρ : Type} (kx : Int32 → Mem → Option ρ) (y1 : Int32) (y2 : Int32) : Nat → Int32 → Mem → Option ρ
  | 0, _, _ => none
  | n + 1, y3, M => (if (100 : Int32) < y3 then (kx y3 M) else ((fX6_partOf y1 (1 : Int32) M).bind fun v15 => ((fX6_partOf y2 (1 : Int32) M).bind fun v17 => (if v15 = v17 then (kx y3 M) else ((fX6_all M).bind fun w20 => (fX6_meet_34 kx y1 y2 n (y3 + (1 : Int32)) w20))))))
def fX6_meet (x1 : Int32) (x2 : Int32) (M : Mem) : Option (Int32 × Mem) := ((fX6_isWalker x1 M).bind fun v1 => (if v1 = 0 then ((fX6_finds (-1000000001 : Int32) M).bind fun w4 => some (w4.1, w4.2)) else ((fX6_isWalker x2 M).bind fun v6 => (if v6 = 0 then ((fX6_finds (-1000000001 : Int32) M).bind fun w9 => some (w9.1, w9.2)) else (if x1 = x2 then ((fX6_finds (-1000000001 : Int32) M).bind fun w28 => some (w28.1, w28.2)) else ((fX6_laysAside M).bind fun w12 => (fX6_meet_34 (fun u22 M23 => ((fX6_takesBack u22 M23).bind fun w24 => ((fX6_orNone w24.1 (100 : Int32) w24.2).bind fun w26 => some (w26.1, w26.2)))) x1 x2 FU (0 : Int32) w12)))))))
set_option maxRecDepth 100000 in
set_option maxHeartbeats 4000000 in
theorem tX6_meet_34 {g : Wo} {ρ : Type} {kx : Int32 → Mem → Option ρ} {y1 : Int32} {y2 : Int32} {r : ρ} {rr : Option Value} {Mr : Mem} (hk : ∀ (z3 : Int32) (Mx : Mem), kx z3 Mx = some r → V g kX6_meet (jm g 5 rr Mr) 65 [some (.ref 49), none, none, some (.int z3)] [] Mx) : ∀ (n : Nat) (y3 : Int32) (M : Mem), fX6_meet_34 kx y1 y2 n y3 M = some r → V g kX6_meet (jm g 5 rr Mr) 34 [some (.ref 49), some (.int y1), some (.int y2), some (.int y3)] [] M := by
  intro n
  induction n with
  | zero =>
    intro y3 M h
    rw [fX6_meet_34] at h
    cases h
  | succ n ih =>
    intro y3 M h
    rw [fX6_meet_34] at h
    refine v_iload_n dX6_meet_34 rfl ?_
    refine v_bipush (v := 100) dX6_meet_35 rfl ?_
    refine v_icmp_gt (tgt := 65) dX6_meet_37 rfl (fun c14 => ?_) (fun c14 => ?_)
    · replace h := (if_pos c14).symm.trans h
      refine V.sub (ls' := [some (.ref 49), none, none, some (.int y3)]) (And.intro rfl (And.intro rfl trivial)) ?_
      exact hk _ _ h
    · replace h := (if_neg c14).symm.trans h
      refine v_aload_n dX6_meet_40 rfl ?_
      refine v_iload_n dX6_meet_41 rfl ?_
      refine v_iconst (v := 1) dX6_meet_42 rfl ?_
      obtain ⟨v15, e16, h⟩ := Option.bind_eq_some_iff.mp h
      refine v_callV (as := [.int y1, .int (1 : Int32)]) (st := []) (sX6_partOf e16) dX6_meet_43 mlX6_64 (CRn (by decide) (by decide)) sh_49 rfl rfl rfl (Nat.le_of_ble_eq_true rfl) ?_
      refine v_aload_n dX6_meet_46 rfl ?_
      refine v_iload_n dX6_meet_47 rfl ?_
      refine v_iconst (v := 1) dX6_meet_48 rfl ?_
      obtain ⟨v17, e18, h⟩ := Option.bind_eq_some_iff.mp h
      refine v_callV (as := [.int y2, .int (1 : Int32)]) (st := [.int v15]) (sX6_partOf e18) dX6_meet_49 mlX6_64 (CRn (by decide) (by decide)) sh_49 rfl rfl rfl (Nat.le_of_ble_eq_true rfl) ?_
      refine v_icmp_eq (tgt := 65) dX6_meet_52 rfl (fun c19 => ?_) (fun c19 => ?_)
      · replace h := (if_pos c19).symm.trans h
        refine V.sub (ls' := [some (.ref 49), none, none, some (.int y3)]) (And.intro rfl (And.intro rfl trivial)) ?_
        exact hk _ _ h
      · replace h := (if_neg c19).symm.trans h
        refine v_aload_n dX6_meet_55 rfl ?_
        obtain ⟨w20, e21, h⟩ := Option.bind_eq_some_iff.mp h
        refine v_callV (as := []) (st := []) (sX6_all e21) dX6_meet_56 mlX6_139 (CRn (by decide) (by decide)) sh_49 rfl rfl rfl (Nat.le_of_ble_eq_true rfl) ?_
        refine v_iinc (v := 1) (ls1 := [some (.ref 49), some (.int y1), some (.int y2), some (.int (y3 + (1 : Int32)))]) dX6_meet_59 rfl rfl (Nat.le_of_ble_eq_true rfl) rfl ?_
        refine v_goto (tgt := 34) dX6_meet_62 rfl ?_
        refine V.sub (ls' := [some (.ref 49), some (.int y1), some (.int y2), some (.int (y3 + (1 : Int32)))]) (And.intro rfl (And.intro rfl (And.intro rfl (And.intro rfl trivial)))) ?_
        exact ih _ _ h
set_option maxRecDepth 100000 in
set_option maxHeartbeats 4000000 in
theorem sX6_meet {g : Wo} {M : Mem} {x1 : Int32} {x2 : Int32} {r : Int32 × Mem} (h : fX6_meet x1 x2 M = some r) : Sp g kX6_meet 5 [.ref 49, .int x1, .int x2] M (some (.int r.1)) r.2 := by
  rw [fX6_meet] at h
  refine Sp_intro (by decide) [some (.ref 49), some (.int x1), some (.int x2), none] rfl (Nat.le_of_ble_eq_true rfl) ?_
  refine v_aload_n dX6_meet_0 rfl ?_
  refine v_iload_n dX6_meet_1 rfl ?_
  obtain ⟨v1, e2, h⟩ := Option.bind_eq_some_iff.mp h
  refine v_callV (as := [.int x1]) (st := []) (sX6_isWalker e2) dX6_meet_2 mlX6_124 (CRn (by decide) (by decide)) sh_49 rfl rfl rfl (Nat.le_of_ble_eq_true rfl) ?_
  refine v_if_eq (tgt := 21) dX6_meet_5 rfl (fun c3 => ?_) (fun c3 => ?_)
  · replace h := (if_pos c3).symm.trans h
    refine v_aload_n dX6_meet_21 rfl ?_
    refine v_ldc (v := -1000000001) dX6_meet_22 w_809 ?_
    obtain ⟨w4, e5, h⟩ := Option.bind_eq_some_iff.mp h
    refine v_callV (as := [.int (-1000000001 : Int32)]) (st := []) (sX6_finds e5) dX6_meet_24 mlX6_69 (CRn (by decide) (by decide)) sh_49 rfl rfl rfl (Nat.le_of_ble_eq_true rfl) ?_
    replace h := Option.some.inj h; subst h
    exact v_iret rfl dX6_meet_27
  · replace h := (if_neg c3).symm.trans h
    refine v_aload_n dX6_meet_8 rfl ?_
    refine v_iload_n dX6_meet_9 rfl ?_
    obtain ⟨v6, e7, h⟩ := Option.bind_eq_some_iff.mp h
    refine v_callV (as := [.int x2]) (st := []) (sX6_isWalker e7) dX6_meet_10 mlX6_124 (CRn (by decide) (by decide)) sh_49 rfl rfl rfl (Nat.le_of_ble_eq_true rfl) ?_
    refine v_if_eq (tgt := 21) dX6_meet_13 rfl (fun c8 => ?_) (fun c8 => ?_)
    · replace h := (if_pos c8).symm.trans h
      refine v_aload_n dX6_meet_21 rfl ?_
      refine v_ldc (v := -1000000001) dX6_meet_22 w_809 ?_
      obtain ⟨w9, e10, h⟩ := Option.bind_eq_some_iff.mp h
      refine v_callV (as := [.int (-1000000001 : Int32)]) (st := []) (sX6_finds e10) dX6_meet_24 mlX6_69 (CRn (by decide) (by decide)) sh_49 rfl rfl rfl (Nat.le_of_ble_eq_true rfl) ?_
      replace h := Option.some.inj h; subst h
      exact v_iret rfl dX6_meet_27
    · replace h := (if_neg c8).symm.trans h
      refine v_iload_n dX6_meet_16 rfl ?_
      refine v_iload_n dX6_meet_17 rfl ?_
      refine v_icmp_ne (tgt := 28) dX6_meet_18 rfl (fun c11 => ?_) (fun c11 => ?_)
      · replace h := (if_neg c11).symm.trans h
        refine v_aload_n dX6_meet_28 rfl ?_
        obtain ⟨w12, e13, h⟩ := Option.bind_eq_some_iff.mp h
        refine v_callV (as := []) (st := []) (sX6_laysAside e13) dX6_meet_29 mlX6_146 (CRn (by decide) (by decide)) sh_49 rfl rfl rfl (Nat.le_of_ble_eq_true rfl) ?_
        refine v_iconst (v := 0) dX6_meet_32 rfl ?_
        refine v_istore_n (ls1 := [some (.ref 49), some (.int x1), some (.int x2), some (.int (0 : Int32))]) dX6_meet_33 (Nat.le_of_ble_eq_true rfl) rfl ?_
        refine V.sub (ls' := [some (.ref 49), some (.int x1), some (.int x2), some (.int (0 : Int32))]) (And.intro rfl (And.intro rfl (And.intro rfl (And.intro rfl trivial)))) ?_
        refine tX6_meet_34 (fun u22 M23 h => ?_) FU _ _ h
        refine v_aload_n dX6_meet_65 rfl ?_
        refine v_aload_n dX6_meet_66 rfl ?_
        refine v_iload_n dX6_meet_67 rfl ?_
        obtain ⟨w24, e25, h⟩ := Option.bind_eq_some_iff.mp h
        refine v_callV (as := [.int u22]) (st := [.ref 49]) (sX6_takesBack e25) dX6_meet_68 mlX6_149 (CRn (by decide) (by decide)) sh_49 rfl rfl rfl (Nat.le_of_ble_eq_true rfl) ?_
        refine v_bipush (v := 100) dX6_meet_71 rfl ?_
        obtain ⟨w26, e27, h⟩ := Option.bind_eq_some_iff.mp h
        refine v_callV (as := [.int w24.1, .int (100 : Int32)]) (st := []) (sX6_orNone e27) dX6_meet_73 mlX6_152 (CRn (by decide) (by decide)) sh_49 rfl rfl rfl (Nat.le_of_ble_eq_true rfl) ?_
        replace h := Option.some.inj h; subst h
        exact v_iret rfl dX6_meet_76
      · replace h := (if_pos c11).symm.trans h
        refine v_aload_n dX6_meet_21 rfl ?_
        refine v_ldc (v := -1000000001) dX6_meet_22 w_809 ?_
        obtain ⟨w28, e29, h⟩ := Option.bind_eq_some_iff.mp h
        refine v_callV (as := [.int (-1000000001 : Int32)]) (st := []) (sX6_finds e29) dX6_meet_24 mlX6_69 (CRn (by decide) (by decide)) sh_49 rfl rfl rfl (Nat.le_of_ble_eq_true rfl) ?_
        replace h := Option.some.inj h; subst h
        exact v_iret rfl dX6_meet_27
/-! ===== BentPlainModel.spares(I)I ===== -/
def fX6_spares_25 {ρ : Type} (kx : Mem → Option ρ) (y1 : Int32) : Nat → Int32 → Mem → Option ρ
  | 0, _, _ => none
  | n + 1, y2, M => (if y1 ≤ y2 then (kx M) else ((fX6_all M).bind fun w5 => (fX6_spares_25 kx y1 n (y2 + (1 : Int32)) w5)))
def fX6_spares_44 {ρ : Type} (kx : Int32 → Option ρ) (M : Mem) : Nat → Int32 → Int32 → Option ρ
  | 0, _, _ => none
  | n + 1, y2, y3 => ((ldI M 50 112 (1 : Int32)).bind fun v8 => (if v8 ≤ y3 then (kx y2) else ((if y2 < 0 then some y3 else ((fX6_partOf y3 (3 : Int32) M).bind fun v15 => ((fX6_partOf y2 (3 : Int32) M).bind fun v17 => (if v17 ≤ v15 then some y2 else some y3)))).bind fun t13 => (fX6_spares_44 kx M n t13 (y3 + (1 : Int32))))))
def fX6_spares (x1 : Int32) (M : Mem) : Option (Int32 × Mem) := (if (fX6_in ((x1).toInt64) (0 : Int64) (100 : Int64)) = 0 then ((fX6_finds (-1000000001 : Int32) M).bind fun w26 => some (w26.1, w26.2)) else ((fX6_laysAside M).bind fun w2 => (fX6_spares_25 (fun M7 => (fX6_spares_44 (fun u20 => ((fX6_takesBack u20 M7).bind fun w21 => (if 0 ≤ w21.1 then some (w21.1, w21.2) else ((fX6_finds (-1000000004 : Int32) w21.2).bind fun w24 => some (w24.1, w24.2))))) M7 FU (-1 : Int32) (0 : Int32))) x1 FU (0 : Int32) w2)))
set_option maxRecDepth 100000 in
set_option maxHeartbeats 4000000 in
theorem tX6_spares_25 {g : Wo} {ρ : Type} {kx : Mem → Option ρ} {y1 : Int32} {r : ρ} {rr : Option Value} {Mr : Mem} (hk : ∀ (Mx : Mem), kx Mx = some r → V g kX6_spares (jm g 5 rr Mr) 40 [some (.ref 49), none, none, none] [] Mx) : ∀ (n : Nat) (y2 : Int32) (M : Mem), fX6_spares_25 kx y1 n y2 M = some r → V g kX6_spares (jm g 5 rr Mr) 25 [some (.ref 49), some (.int y1), some (.int y2), none] [] M := by
  intro n
  induction n with
  | zero =>
    intro y2 M h
    rw [fX6_spares_25] at h
    cases h
  | succ n ih =>
    intro y2 M h
    rw [fX6_spares_25] at h
    refine v_iload_n dX6_spares_25 rfl ?_
    refine v_iload_n dX6_spares_26 rfl ?_
    refine v_icmp_ge (tgt := 40) dX6_spares_27 rfl (fun c4 => ?_) (fun c4 => ?_)
    · replace h := (if_pos c4).symm.trans h
      refine V.sub (ls' := [some (.ref 49), none, none, none]) (And.intro rfl trivial) ?_
      exact hk _ h
    · replace h := (if_neg c4).symm.trans h
      refine v_aload_n dX6_spares_30 rfl ?_
      obtain ⟨w5, e6, h⟩ := Option.bind_eq_some_iff.mp h
      refine v_callV (as := []) (st := []) (sX6_all e6) dX6_spares_31 mlX6_139 (CRn (by decide) (by decide)) sh_49 rfl rfl rfl (Nat.le_of_ble_eq_true rfl) ?_
      refine v_iinc (v := 1) (ls1 := [some (.ref 49), some (.int y1), some (.int (y2 + (1 : Int32))), none]) dX6_spares_34 rfl rfl (Nat.le_of_ble_eq_true rfl) rfl ?_
      refine v_goto (tgt := 25) dX6_spares_37 rfl ?_
      refine V.sub (ls' := [some (.ref 49), some (.int y1), some (.int (y2 + (1 : Int32))), none]) (And.intro rfl (And.intro rfl (And.intro rfl trivial))) ?_
      exact ih _ _ h
set_option maxRecDepth 100000 in
set_option maxHeartbeats 4000000 in
theorem tX6_spares_44 {g : Wo} {ρ : Type} {kx : Int32 → Option ρ} {M : Mem} {r : ρ} {rr : Option Value} {Mr : Mem} (hk : ∀ (z2 : Int32), kx z2 = some r → V g kX6_spares (jm g 5 rr Mr) 85 [some (.ref 49), none, some (.int z2), none] [] M) : ∀ (n : Nat) (y2 : Int32) (y3 : Int32), fX6_spares_44 kx M n y2 y3 = some r → V g kX6_spares (jm g 5 rr Mr) 44 [some (.ref 49), none, some (.int y2), some (.int y3)] [] M := by
  intro n
  induction n with
  | zero =>
    intro y2 y3 h
    rw [fX6_spares_44] at h
    cases h
  | succ n ih =>
    intro y2 y3 h
    rw [fX6_spares_44] at h
    refine v_iload_n dX6_spares_44 rfl ?_
    refine v_aload_n dX6_spares_45 rfl ?_
    refine v_getr dX6_spares_46 flX6_7 sh_49 rfl ?_
    refine v_iconst (v := 1) dX6_spares_49 rfl ?_
    obtain ⟨v8, e9, h⟩ := Option.bind_eq_some_iff.mp h
    refine v_ild e9 dX6_spares_50 sh_50 ?_
    refine v_icmp_ge (tgt := 85) dX6_spares_51 rfl (fun c10 => ?_) (fun c10 => ?_)
    · replace h := (if_pos c10).symm.trans h
      refine V.sub (ls' := [some (.ref 49), none, some (.int y2), none]) (And.intro rfl (And.intro rfl trivial)) ?_
      exact hk _ h
    · replace h := (if_neg c10).symm.trans h
      refine v_iload_n dX6_spares_54 rfl ?_
      obtain ⟨t13, e14, h⟩ := Option.bind_eq_some_iff.mp h
      have hJ : V g kX6_spares (jm g 5 rr Mr) 78 [some (.ref 49), none, none, some (.int y3)] [.int t13] M := by
        refine v_istore_n (ls1 := [some (.ref 49), none, some (.int t13), some (.int y3)]) dX6_spares_78 (Nat.le_of_ble_eq_true rfl) rfl ?_
        refine v_iinc (v := 1) (ls1 := [some (.ref 49), none, some (.int t13), some (.int (y3 + (1 : Int32)))]) dX6_spares_79 rfl rfl (Nat.le_of_ble_eq_true rfl) rfl ?_
        refine v_goto (tgt := 44) dX6_spares_82 rfl ?_
        refine V.sub (ls' := [some (.ref 49), none, some (.int t13), some (.int (y3 + (1 : Int32)))]) (And.intro rfl (And.intro rfl (And.intro rfl trivial))) ?_
        exact ih _ _ h
      clear h
      have h := e14
      clear e14
      refine v_if_lt (tgt := 73) dX6_spares_55 rfl (fun c12 => ?_) (fun c12 => ?_)
      · replace h := (if_pos c12).symm.trans h
        refine v_iload_n dX6_spares_73 rfl ?_
        refine v_goto (tgt := 78) dX6_spares_74 rfl ?_
        replace h := Option.some.inj h; subst h
        refine V.sub (ls' := [some (.ref 49), none, none, some (.int y3)]) (And.intro rfl (And.intro rfl trivial)) ?_
        exact hJ
      · replace h := (if_neg c12).symm.trans h
        refine v_aload_n dX6_spares_58 rfl ?_
        refine v_iload_n dX6_spares_59 rfl ?_
        refine v_iconst (v := 3) dX6_spares_60 rfl ?_
        obtain ⟨v15, e16, h⟩ := Option.bind_eq_some_iff.mp h
        refine v_callV (as := [.int y3, .int (3 : Int32)]) (st := []) (sX6_partOf e16) dX6_spares_61 mlX6_64 (CRn (by decide) (by decide)) sh_49 rfl rfl rfl (Nat.le_of_ble_eq_true rfl) ?_
        refine v_aload_n dX6_spares_64 rfl ?_
        refine v_iload_n dX6_spares_65 rfl ?_
        refine v_iconst (v := 3) dX6_spares_66 rfl ?_
        obtain ⟨v17, e18, h⟩ := Option.bind_eq_some_iff.mp h
        refine v_callV (as := [.int y2, .int (3 : Int32)]) (st := [.int v15]) (sX6_partOf e18) dX6_spares_67 mlX6_64 (CRn (by decide) (by decide)) sh_49 rfl rfl rfl (Nat.le_of_ble_eq_true rfl) ?_
        refine v_icmp_ge (tgt := 77) dX6_spares_70 rfl (fun c19 => ?_) (fun c19 => ?_)
        · replace h := (if_pos c19).symm.trans h
          refine v_iload_n dX6_spares_77 rfl ?_
          replace h := Option.some.inj h; subst h
          refine V.sub (ls' := [some (.ref 49), none, none, some (.int y3)]) (And.intro rfl (And.intro rfl trivial)) ?_
          exact hJ
        · replace h := (if_neg c19).symm.trans h
          refine v_iload_n dX6_spares_73 rfl ?_
          refine v_goto (tgt := 78) dX6_spares_74 rfl ?_
          replace h := Option.some.inj h; subst h
          refine V.sub (ls' := [some (.ref 49), none, none, some (.int y3)]) (And.intro rfl (And.intro rfl trivial)) ?_
          exact hJ
set_option maxRecDepth 100000 in
set_option maxHeartbeats 4000000 in
theorem sX6_spares {g : Wo} {M : Mem} {x1 : Int32} {r : Int32 × Mem} (h : fX6_spares x1 M = some r) : Sp g kX6_spares 5 [.ref 49, .int x1] M (some (.int r.1)) r.2 := by
  rw [fX6_spares] at h
  refine Sp_intro (by decide) [some (.ref 49), some (.int x1), none, none] rfl (Nat.le_of_ble_eq_true rfl) ?_
  refine v_iload_n dX6_spares_0 rfl ?_
  refine v_i2l dX6_spares_1 ?_
  refine v_lconst (v := 0) dX6_spares_2 rfl ?_
  refine v_ldc2 (v := 100) dX6_spares_3 w_950 ?_
  refine v_callS (as := [.long ((x1).toInt64), .long (0 : Int64), .long (100 : Int64)]) (st := []) (sX6_in rfl) dX6_spares_6 mlX6_45 (CRn (by decide) (by decide)) rfl rfl (Nat.le_of_ble_eq_true rfl) ?_
  refine v_if_ne (tgt := 19) dX6_spares_9 rfl (fun c1 => ?_) (fun c1 => ?_)
  · replace h := (if_neg c1).symm.trans h
    refine v_aload_n dX6_spares_19 rfl ?_
    obtain ⟨w2, e3, h⟩ := Option.bind_eq_some_iff.mp h
    refine v_callV (as := []) (st := []) (sX6_laysAside e3) dX6_spares_20 mlX6_146 (CRn (by decide) (by decide)) sh_49 rfl rfl rfl (Nat.le_of_ble_eq_true rfl) ?_
    refine v_iconst (v := 0) dX6_spares_23 rfl ?_
    refine v_istore_n (ls1 := [some (.ref 49), some (.int x1), some (.int (0 : Int32)), none]) dX6_spares_24 (Nat.le_of_ble_eq_true rfl) rfl ?_
    refine V.sub (ls' := [some (.ref 49), some (.int x1), some (.int (0 : Int32)), none]) (And.intro rfl (And.intro rfl (And.intro rfl trivial))) ?_
    refine tX6_spares_25 (fun M7 h => ?_) FU _ _ h
    refine v_iconst (v := -1) dX6_spares_40 rfl ?_
    refine v_istore_n (ls1 := [some (.ref 49), none, some (.int (-1 : Int32)), none]) dX6_spares_41 (Nat.le_of_ble_eq_true rfl) rfl ?_
    refine v_iconst (v := 0) dX6_spares_42 rfl ?_
    refine v_istore_n (ls1 := [some (.ref 49), none, some (.int (-1 : Int32)), some (.int (0 : Int32))]) dX6_spares_43 (Nat.le_of_ble_eq_true rfl) rfl ?_
    refine V.sub (ls' := [some (.ref 49), none, some (.int (-1 : Int32)), some (.int (0 : Int32))]) (And.intro rfl (And.intro rfl (And.intro rfl trivial))) ?_
    refine tX6_spares_44 (fun u20 h => ?_) FU _ _ h
    refine v_aload_n dX6_spares_85 rfl ?_
    refine v_iload_n dX6_spares_86 rfl ?_
    obtain ⟨w21, e22, h⟩ := Option.bind_eq_some_iff.mp h
    refine v_callV (as := [.int u20]) (st := []) (sX6_takesBack e22) dX6_spares_87 mlX6_149 (CRn (by decide) (by decide)) sh_49 rfl rfl rfl (Nat.le_of_ble_eq_true rfl) ?_
    refine v_istore_n (ls1 := [some (.ref 49), none, some (.int u20), some (.int w21.1)]) dX6_spares_90 (Nat.le_of_ble_eq_true rfl) rfl ?_
    refine v_iload_n dX6_spares_91 rfl ?_
    refine v_if_ge (tgt := 104) dX6_spares_92 rfl (fun c23 => ?_) (fun c23 => ?_)
    · replace h := (if_pos c23).symm.trans h
      refine v_iload_n dX6_spares_104 rfl ?_
      replace h := Option.some.inj h; subst h
      exact v_iret rfl dX6_spares_105
    · replace h := (if_neg c23).symm.trans h
      refine v_aload_n dX6_spares_95 rfl ?_
      refine v_ldc (v := -1000000004) dX6_spares_96 w_880 ?_
      obtain ⟨w24, e25, h⟩ := Option.bind_eq_some_iff.mp h
      refine v_callV (as := [.int (-1000000004 : Int32)]) (st := []) (sX6_finds e25) dX6_spares_98 mlX6_69 (CRn (by decide) (by decide)) sh_49 rfl rfl rfl (Nat.le_of_ble_eq_true rfl) ?_
      refine v_goto (tgt := 105) dX6_spares_101 rfl ?_
      replace h := Option.some.inj h; subst h
      exact v_iret rfl dX6_spares_105
  · replace h := (if_pos c1).symm.trans h
    refine v_aload_n dX6_spares_12 rfl ?_
    refine v_ldc (v := -1000000001) dX6_spares_13 w_809 ?_
    obtain ⟨w26, e27, h⟩ := Option.bind_eq_some_iff.mp h
    refine v_callV (as := [.int (-1000000001 : Int32)]) (st := []) (sX6_finds e27) dX6_spares_15 mlX6_69 (CRn (by decide) (by decide)) sh_49 rfl rfl rfl (Nat.le_of_ble_eq_true rfl) ?_
    replace h := Option.some.inj h; subst h
    exact v_iret rfl dX6_spares_18
/-! ===== BentPlainModel.closes(II)I ===== -/
def fX6_closes_32 {ρ : Type} (kx : Int32 → Int32 → Option ρ) (y3 : Int32) (M : Mem) : Nat → Int32 → Int32 → Option ρ
  | 0, _, _ => none
  | n + 1, y4, y5 => (if y4 < 0 then (kx y4 y5) else (if y4 = y3 then (kx y4 y5) else ((fX6_onward y4 M).bind fun v8 => (fX6_closes_32 kx y3 M n v8 (y5 + (1 : Int32))))))
def fX6_closes (x1 : Int32) (x2 : Int32) (M : Mem) : Option (Int32 × Mem) := ((fX6_isWay x1 x2 M).bind fun v1 => (if v1 = 0 then ((fX6_finds (-1000000001 : Int32) M).bind fun w15 => some (w15.1, w15.2)) else ((fX6_onward (((4 : Int32) * x1) + x2) M).bind fun v4 => (fX6_closes_32 (fun u10 u11 => (if 0 ≤ u10 then some (u11, M) else ((fX6_finds (-1000000004 : Int32) M).bind fun w13 => some (w13.1, w13.2)))) (((4 : Int32) * x1) + x2) M FU v4 (1 : Int32)))))
set_option maxRecDepth 100000 in
set_option maxHeartbeats 4000000 in
theorem tX6_closes_32 {g : Wo} {ρ : Type} {kx : Int32 → Int32 → Option ρ} {y3 : Int32} {M : Mem} {r : ρ} {rr : Option Value} {Mr : Mem} (hk : ∀ (z4 : Int32) (z5 : Int32), kx z4 z5 = some r → V g kX6_closes (jm g 3 rr Mr) 57 [some (.ref 49), none, none, none, some (.int z4), some (.int z5)] [] M) : ∀ (n : Nat) (y4 : Int32) (y5 : Int32), fX6_closes_32 kx y3 M n y4 y5 = some r → V g kX6_closes (jm g 3 rr Mr) 32 [some (.ref 49), none, none, some (.int y3), some (.int y4), some (.int y5)] [] M := by
  intro n
  induction n with
  | zero =>
    intro y4 y5 h
    rw [fX6_closes_32] at h
    cases h
  | succ n ih =>
    intro y4 y5 h
    rw [fX6_closes_32] at h
    refine v_iload dX6_closes_32 rfl ?_
    refine v_if_lt (tgt := 57) dX6_closes_34 rfl (fun c6 => ?_) (fun c6 => ?_)
    · replace h := (if_pos c6).symm.trans h
      refine V.sub (ls' := [some (.ref 49), none, none, none, some (.int y4), some (.int y5)]) (And.intro rfl (And.intro rfl (And.intro rfl trivial))) ?_
      exact hk _ _ h
    · replace h := (if_neg c6).symm.trans h
      refine v_iload dX6_closes_37 rfl ?_
      refine v_iload_n dX6_closes_39 rfl ?_
      refine v_icmp_eq (tgt := 57) dX6_closes_40 rfl (fun c7 => ?_) (fun c7 => ?_)
      · replace h := (if_pos c7).symm.trans h
        refine V.sub (ls' := [some (.ref 49), none, none, none, some (.int y4), some (.int y5)]) (And.intro rfl (And.intro rfl (And.intro rfl trivial))) ?_
        exact hk _ _ h
      · replace h := (if_neg c7).symm.trans h
        refine v_aload_n dX6_closes_43 rfl ?_
        refine v_iload dX6_closes_44 rfl ?_
        obtain ⟨v8, e9, h⟩ := Option.bind_eq_some_iff.mp h
        refine v_callV (as := [.int y4]) (st := []) (sX6_onward e9) dX6_closes_46 mlX6_112 (CRn (by decide) (by decide)) sh_49 rfl rfl rfl (Nat.le_of_ble_eq_true rfl) ?_
        refine v_istore (ls1 := [some (.ref 49), none, none, some (.int y3), some (.int v8), some (.int y5)]) dX6_closes_49 (Nat.le_of_ble_eq_true rfl) rfl ?_
        refine v_iinc (v := 1) (ls1 := [some (.ref 49), none, none, some (.int y3), some (.int v8), some (.int (y5 + (1 : Int32)))]) dX6_closes_51 rfl rfl (Nat.le_of_ble_eq_true rfl) rfl ?_
        refine v_goto (tgt := 32) dX6_closes_54 rfl ?_
        refine V.sub (ls' := [some (.ref 49), none, none, some (.int y3), some (.int v8), some (.int (y5 + (1 : Int32)))]) (And.intro rfl (And.intro rfl (And.intro rfl (And.intro rfl trivial)))) ?_
        exact ih _ _ h
set_option maxRecDepth 100000 in
set_option maxHeartbeats 4000000 in
theorem sX6_closes {g : Wo} {M : Mem} {x1 : Int32} {x2 : Int32} {r : Int32 × Mem} (h : fX6_closes x1 x2 M = some r) : Sp g kX6_closes 3 [.ref 49, .int x1, .int x2] M (some (.int r.1)) r.2 := by
  rw [fX6_closes] at h
  refine Sp_intro (by decide) [some (.ref 49), some (.int x1), some (.int x2), none, none, none] rfl (Nat.le_of_ble_eq_true rfl) ?_
  refine v_aload_n dX6_closes_0 rfl ?_
  refine v_iload_n dX6_closes_1 rfl ?_
  refine v_iload_n dX6_closes_2 rfl ?_
  obtain ⟨v1, e2, h⟩ := Option.bind_eq_some_iff.mp h
  refine v_callV (as := [.int x1, .int x2]) (st := []) (sX6_isWay e2) dX6_closes_3 mlX6_88 (CRn (by decide) (by decide)) sh_49 rfl rfl rfl (Nat.le_of_ble_eq_true rfl) ?_
  refine v_if_ne (tgt := 16) dX6_closes_6 rfl (fun c3 => ?_) (fun c3 => ?_)
  · replace h := (if_neg c3).symm.trans h
    refine v_iconst (v := 4) dX6_closes_16 rfl ?_
    refine v_iload_n dX6_closes_17 rfl ?_
    refine v_imul dX6_closes_18 ?_
    refine v_iload_n dX6_closes_19 rfl ?_
    refine v_iadd dX6_closes_20 ?_
    refine v_istore_n (ls1 := [some (.ref 49), some (.int x1), some (.int x2), some (.int (((4 : Int32) * x1) + x2)), none, none]) dX6_closes_21 (Nat.le_of_ble_eq_true rfl) rfl ?_
    refine v_aload_n dX6_closes_22 rfl ?_
    refine v_iload_n dX6_closes_23 rfl ?_
    obtain ⟨v4, e5, h⟩ := Option.bind_eq_some_iff.mp h
    refine v_callV (as := [.int (((4 : Int32) * x1) + x2)]) (st := []) (sX6_onward e5) dX6_closes_24 mlX6_112 (CRn (by decide) (by decide)) sh_49 rfl rfl rfl (Nat.le_of_ble_eq_true rfl) ?_
    refine v_istore (ls1 := [some (.ref 49), some (.int x1), some (.int x2), some (.int (((4 : Int32) * x1) + x2)), some (.int v4), none]) dX6_closes_27 (Nat.le_of_ble_eq_true rfl) rfl ?_
    refine v_iconst (v := 1) dX6_closes_29 rfl ?_
    refine v_istore (ls1 := [some (.ref 49), some (.int x1), some (.int x2), some (.int (((4 : Int32) * x1) + x2)), some (.int v4), some (.int (1 : Int32))]) dX6_closes_30 (Nat.le_of_ble_eq_true rfl) rfl ?_
    refine V.sub (ls' := [some (.ref 49), none, none, some (.int (((4 : Int32) * x1) + x2)), some (.int v4), some (.int (1 : Int32))]) (And.intro rfl (And.intro rfl (And.intro rfl (And.intro rfl trivial)))) ?_
    refine tX6_closes_32 (fun u10 u11 h => ?_) FU _ _ h
    refine v_iload dX6_closes_57 rfl ?_
    refine v_if_ge (tgt := 71) dX6_closes_59 rfl (fun c12 => ?_) (fun c12 => ?_)
    · replace h := (if_pos c12).symm.trans h
      refine v_iload dX6_closes_71 rfl ?_
      replace h := Option.some.inj h; subst h
      exact v_iret rfl dX6_closes_73
    · replace h := (if_neg c12).symm.trans h
      refine v_aload_n dX6_closes_62 rfl ?_
      refine v_ldc (v := -1000000004) dX6_closes_63 w_880 ?_
      obtain ⟨w13, e14, h⟩ := Option.bind_eq_some_iff.mp h
      refine v_callV (as := [.int (-1000000004 : Int32)]) (st := []) (sX6_finds e14) dX6_closes_65 mlX6_69 (CRn (by decide) (by decide)) sh_49 rfl rfl rfl (Nat.le_of_ble_eq_true rfl) ?_
      refine v_goto (tgt := 73) dX6_closes_68 rfl ?_
      replace h := Option.some.inj h; subst h
      exact v_iret rfl dX6_closes_73
  · replace h := (if_pos c3).symm.trans h
    refine v_aload_n dX6_closes_9 rfl ?_
    refine v_ldc (v := -1000000001) dX6_closes_10 w_809 ?_
    obtain ⟨w15, e16, h⟩ := Option.bind_eq_some_iff.mp h
    refine v_callV (as := [.int (-1000000001 : Int32)]) (st := []) (sX6_finds e16) dX6_closes_12 mlX6_69 (CRn (by decide) (by decide)) sh_49 rfl rfl rfl (Nat.le_of_ble_eq_true rfl) ?_
    replace h := Option.some.inj h; subst h
    exact v_iret rfl dX6_closes_15
/-! ===== BentPlainModel.bumps(II)I ===== -/
def fX6_bumps_29 {ρ : Type} (kx : Int32 → Int32 → Option ρ) (M : Mem) : Nat → Int32 → Int32 → Option ρ
  | 0, _, _ => none
  | n + 1, y3, y4 => (if y3 < 0 then (kx y3 y4) else (if (64 : Int32) < y4 then (kx y3 y4) else ((fX6_onward y3 M).bind fun v8 => (fX6_bumps_29 kx M n v8 (y4 + (1 : Int32))))))
def fX6_bumps (x1 : Int32) (x2 : Int32) (M : Mem) : Option (Int32 × Mem) := ((fX6_isWay x1 x2 M).bind fun v1 => (if v1 = 0 then ((fX6_finds (-1000000001 : Int32) M).bind fun w15 => some (w15.1, w15.2)) else ((fX6_onward (((4 : Int32) * x1) + x2) M).bind fun v4 => (fX6_bumps_29 (fun u10 u11 => (if 0 ≤ u10 then ((fX6_finds (-1000000004 : Int32) M).bind fun w13 => some (w13.1, w13.2)) else some (u11, M))) M FU v4 (0 : Int32)))))
set_option maxRecDepth 100000 in
set_option maxHeartbeats 4000000 in
theorem tX6_bumps_29 {g : Wo} {ρ : Type} {kx : Int32 → Int32 → Option ρ} {M : Mem} {r : ρ} {rr : Option Value} {Mr : Mem} (hk : ∀ (z3 : Int32) (z4 : Int32), kx z3 z4 = some r → V g kX6_bumps (jm g 3 rr Mr) 52 [some (.ref 49), none, none, some (.int z3), some (.int z4)] [] M) : ∀ (n : Nat) (y3 : Int32) (y4 : Int32), fX6_bumps_29 kx M n y3 y4 = some r → V g kX6_bumps (jm g 3 rr Mr) 29 [some (.ref 49), none, none, some (.int y3), some (.int y4)] [] M := by
  intro n
  induction n with
  | zero =>
    intro y3 y4 h
    rw [fX6_bumps_29] at h
    cases h
  | succ n ih =>
    intro y3 y4 h
    rw [fX6_bumps_29] at h
    refine v_iload_n dX6_bumps_29 rfl ?_
    refine v_if_lt (tgt := 52) dX6_bumps_30 rfl (fun c6 => ?_) (fun c6 => ?_)
    · replace h := (if_pos c6).symm.trans h
      refine V.sub (ls' := [some (.ref 49), none, none, some (.int y3), some (.int y4)]) (And.intro rfl (And.intro rfl (And.intro rfl trivial))) ?_
      exact hk _ _ h
    · replace h := (if_neg c6).symm.trans h
      refine v_iload dX6_bumps_33 rfl ?_
      refine v_bipush (v := 64) dX6_bumps_35 rfl ?_
      refine v_icmp_gt (tgt := 52) dX6_bumps_37 rfl (fun c7 => ?_) (fun c7 => ?_)
      · replace h := (if_pos c7).symm.trans h
        refine V.sub (ls' := [some (.ref 49), none, none, some (.int y3), some (.int y4)]) (And.intro rfl (And.intro rfl (And.intro rfl trivial))) ?_
        exact hk _ _ h
      · replace h := (if_neg c7).symm.trans h
        refine v_aload_n dX6_bumps_40 rfl ?_
        refine v_iload_n dX6_bumps_41 rfl ?_
        obtain ⟨v8, e9, h⟩ := Option.bind_eq_some_iff.mp h
        refine v_callV (as := [.int y3]) (st := []) (sX6_onward e9) dX6_bumps_42 mlX6_112 (CRn (by decide) (by decide)) sh_49 rfl rfl rfl (Nat.le_of_ble_eq_true rfl) ?_
        refine v_istore_n (ls1 := [some (.ref 49), none, none, some (.int v8), some (.int y4)]) dX6_bumps_45 (Nat.le_of_ble_eq_true rfl) rfl ?_
        refine v_iinc (v := 1) (ls1 := [some (.ref 49), none, none, some (.int v8), some (.int (y4 + (1 : Int32)))]) dX6_bumps_46 rfl rfl (Nat.le_of_ble_eq_true rfl) rfl ?_
        refine v_goto (tgt := 29) dX6_bumps_49 rfl ?_
        refine V.sub (ls' := [some (.ref 49), none, none, some (.int v8), some (.int (y4 + (1 : Int32)))]) (And.intro rfl (And.intro rfl (And.intro rfl trivial))) ?_
        exact ih _ _ h
set_option maxRecDepth 100000 in
set_option maxHeartbeats 4000000 in
theorem sX6_bumps {g : Wo} {M : Mem} {x1 : Int32} {x2 : Int32} {r : Int32 × Mem} (h : fX6_bumps x1 x2 M = some r) : Sp g kX6_bumps 3 [.ref 49, .int x1, .int x2] M (some (.int r.1)) r.2 := by
  rw [fX6_bumps] at h
  refine Sp_intro (by decide) [some (.ref 49), some (.int x1), some (.int x2), none, none] rfl (Nat.le_of_ble_eq_true rfl) ?_
  refine v_aload_n dX6_bumps_0 rfl ?_
  refine v_iload_n dX6_bumps_1 rfl ?_
  refine v_iload_n dX6_bumps_2 rfl ?_
  obtain ⟨v1, e2, h⟩ := Option.bind_eq_some_iff.mp h
  refine v_callV (as := [.int x1, .int x2]) (st := []) (sX6_isWay e2) dX6_bumps_3 mlX6_88 (CRn (by decide) (by decide)) sh_49 rfl rfl rfl (Nat.le_of_ble_eq_true rfl) ?_
  refine v_if_ne (tgt := 16) dX6_bumps_6 rfl (fun c3 => ?_) (fun c3 => ?_)
  · replace h := (if_neg c3).symm.trans h
    refine v_aload_n dX6_bumps_16 rfl ?_
    refine v_iconst (v := 4) dX6_bumps_17 rfl ?_
    refine v_iload_n dX6_bumps_18 rfl ?_
    refine v_imul dX6_bumps_19 ?_
    refine v_iload_n dX6_bumps_20 rfl ?_
    refine v_iadd dX6_bumps_21 ?_
    obtain ⟨v4, e5, h⟩ := Option.bind_eq_some_iff.mp h
    refine v_callV (as := [.int (((4 : Int32) * x1) + x2)]) (st := []) (sX6_onward e5) dX6_bumps_22 mlX6_112 (CRn (by decide) (by decide)) sh_49 rfl rfl rfl (Nat.le_of_ble_eq_true rfl) ?_
    refine v_istore_n (ls1 := [some (.ref 49), some (.int x1), some (.int x2), some (.int v4), none]) dX6_bumps_25 (Nat.le_of_ble_eq_true rfl) rfl ?_
    refine v_iconst (v := 0) dX6_bumps_26 rfl ?_
    refine v_istore (ls1 := [some (.ref 49), some (.int x1), some (.int x2), some (.int v4), some (.int (0 : Int32))]) dX6_bumps_27 (Nat.le_of_ble_eq_true rfl) rfl ?_
    refine V.sub (ls' := [some (.ref 49), none, none, some (.int v4), some (.int (0 : Int32))]) (And.intro rfl (And.intro rfl (And.intro rfl trivial))) ?_
    refine tX6_bumps_29 (fun u10 u11 h => ?_) FU _ _ h
    refine v_iload_n dX6_bumps_52 rfl ?_
    refine v_if_ge (tgt := 61) dX6_bumps_53 rfl (fun c12 => ?_) (fun c12 => ?_)
    · replace h := (if_pos c12).symm.trans h
      refine v_aload_n dX6_bumps_61 rfl ?_
      refine v_ldc (v := -1000000004) dX6_bumps_62 w_880 ?_
      obtain ⟨w13, e14, h⟩ := Option.bind_eq_some_iff.mp h
      refine v_callV (as := [.int (-1000000004 : Int32)]) (st := []) (sX6_finds e14) dX6_bumps_64 mlX6_69 (CRn (by decide) (by decide)) sh_49 rfl rfl rfl (Nat.le_of_ble_eq_true rfl) ?_
      replace h := Option.some.inj h; subst h
      exact v_iret rfl dX6_bumps_67
    · replace h := (if_neg c12).symm.trans h
      refine v_iload dX6_bumps_56 rfl ?_
      refine v_goto (tgt := 67) dX6_bumps_58 rfl ?_
      replace h := Option.some.inj h; subst h
      exact v_iret rfl dX6_bumps_67
  · replace h := (if_pos c3).symm.trans h
    refine v_aload_n dX6_bumps_9 rfl ?_
    refine v_ldc (v := -1000000001) dX6_bumps_10 w_809 ?_
    obtain ⟨w15, e16, h⟩ := Option.bind_eq_some_iff.mp h
    refine v_callV (as := [.int (-1000000001 : Int32)]) (st := []) (sX6_finds e16) dX6_bumps_12 mlX6_69 (CRn (by decide) (by decide)) sh_49 rfl rfl rfl (Nat.le_of_ble_eq_true rfl) ?_
    replace h := Option.some.inj h; subst h
    exact v_iret rfl dX6_bumps_15
