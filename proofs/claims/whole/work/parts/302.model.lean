/-! ===== BentPlainModel.above(I)I ===== -/
def fX6_above (x0 : Int32) : Int32 := (if x0 = (3 : Int32) then (1 : Int32) else (if x0 = (5 : Int32) then (1 : Int32) else (if x0 = (4 : Int32) then (2 : Int32) else (0 : Int32))))
set_option maxRecDepth 100000 in
set_option maxHeartbeats 4000000 in
theorem sX6_above {g : Wo} {M : Mem} {x0 : Int32} {r : Int32} (h : fX6_above x0 = r) : Sp g kX6_above 0 [.int x0] M (some (.int r)) M := by
  rw [fX6_above] at h
  refine Sp_intro (by decide) [some (.int x0)] rfl (Nat.le_of_ble_eq_true rfl) ?_
  refine v_iload_n dX6_above_0 rfl ?_
  refine v_iconst (v := 3) dX6_above_1 rfl ?_
  refine v_icmp_eq (tgt := 10) dX6_above_2 rfl (fun c1 => ?_) (fun c1 => ?_)
  · replace h := (if_pos c1).symm.trans h
    refine v_iconst (v := 1) dX6_above_10 rfl ?_
    refine v_goto (tgt := 24) dX6_above_11 rfl ?_
    subst h
    exact v_iret rfl dX6_above_24
  · replace h := (if_neg c1).symm.trans h
    refine v_iload_n dX6_above_5 rfl ?_
    refine v_iconst (v := 5) dX6_above_6 rfl ?_
    refine v_icmp_ne (tgt := 14) dX6_above_7 rfl (fun c2 => ?_) (fun c2 => ?_)
    · replace h := (if_neg c2).symm.trans h
      refine v_iload_n dX6_above_14 rfl ?_
      refine v_iconst (v := 4) dX6_above_15 rfl ?_
      refine v_icmp_ne (tgt := 23) dX6_above_16 rfl (fun c3 => ?_) (fun c3 => ?_)
      · replace h := (if_neg c3).symm.trans h
        refine v_iconst (v := 0) dX6_above_23 rfl ?_
        subst h
        exact v_iret rfl dX6_above_24
      · replace h := (if_pos c3).symm.trans h
        refine v_iconst (v := 2) dX6_above_19 rfl ?_
        refine v_goto (tgt := 24) dX6_above_20 rfl ?_
        subst h
        exact v_iret rfl dX6_above_24
    · replace h := (if_pos c2).symm.trans h
      refine v_iconst (v := 1) dX6_above_10 rfl ?_
      refine v_goto (tgt := 24) dX6_above_11 rfl ?_
      subst h
      exact v_iret rfl dX6_above_24
/-! ===== BentPlainModel.as(II)I ===== -/
def fX6_as_29 {ρ : Type} (kx : Int32 → Option ρ) (y1 : Int32) (y2 : Int32) (M : Mem) : Nat → Int32 → Option ρ
  | 0, _ => none
  | n + 1, y3 => (if y3 = y2 then (kx y3) else (if y3 = 0 then (kx y3) else (fX6_as_29 kx y1 y2 M n (fX6_above y3))))
def fX6_as (x1 : Int32) (x2 : Int32) (M : Mem) : Option (Int32 × Mem) := ((fX6_isWalker x1 M).bind fun v1 => (if v1 = 0 then ((fX6_finds (-1000000001 : Int32) M).bind fun w4 => some (w4.1, w4.2)) else (if (fX6_isKind x2) = 0 then ((fX6_finds (-1000000001 : Int32) M).bind fun w17 => some (w17.1, w17.2)) else ((fX6_partOf x1 (0 : Int32) M).bind fun v7 => (fX6_as_29 (fun u11 => (if u11 = x2 then ((fX6_partOf x1 (3 : Int32) M).bind fun v15 => some (v15, M)) else ((fX6_finds (-1000000003 : Int32) M).bind fun w13 => some (w13.1, w13.2)))) x1 x2 M FU v7)))))
set_option maxRecDepth 100000 in
set_option maxHeartbeats 4000000 in
theorem tX6_as_29 {g : Wo} {ρ : Type} {kx : Int32 → Option ρ} {y1 : Int32} {y2 : Int32} {M : Mem} {r : ρ} {rr : Option Value} {Mr : Mem} (hk : ∀ (z3 : Int32), kx z3 = some r → V g kX6_as (jm g 2 rr Mr) 46 [some (.ref 49), some (.int y1), some (.int y2), some (.int z3)] [] M) : ∀ (n : Nat) (y3 : Int32), fX6_as_29 kx y1 y2 M n y3 = some r → V g kX6_as (jm g 2 rr Mr) 29 [some (.ref 49), some (.int y1), some (.int y2), some (.int y3)] [] M := by
  intro n
  induction n with
  | zero =>
    intro y3 h
    rw [fX6_as_29] at h
    cases h
  | succ n ih =>
    intro y3 h
    rw [fX6_as_29] at h
    refine v_iload_n dX6_as_29 rfl ?_
    refine v_iload_n dX6_as_30 rfl ?_
    refine v_icmp_eq (tgt := 46) dX6_as_31 rfl (fun c9 => ?_) (fun c9 => ?_)
    · replace h := (if_pos c9).symm.trans h
      refine V.sub (ls' := [some (.ref 49), some (.int y1), some (.int y2), some (.int y3)]) (And.intro rfl (And.intro rfl (And.intro rfl (And.intro rfl trivial)))) ?_
      exact hk _ h
    · replace h := (if_neg c9).symm.trans h
      refine v_iload_n dX6_as_34 rfl ?_
      refine v_if_eq (tgt := 46) dX6_as_35 rfl (fun c10 => ?_) (fun c10 => ?_)
      · replace h := (if_pos c10).symm.trans h
        refine V.sub (ls' := [some (.ref 49), some (.int y1), some (.int y2), some (.int y3)]) (And.intro rfl (And.intro rfl (And.intro rfl (And.intro rfl trivial)))) ?_
        exact hk _ h
      · replace h := (if_neg c10).symm.trans h
        refine v_iload_n dX6_as_38 rfl ?_
        refine v_callS (as := [.int y3]) (st := []) (sX6_above rfl) dX6_as_39 mlX6_130 (CRn (by decide) (by decide)) rfl rfl (Nat.le_of_ble_eq_true rfl) ?_
        refine v_istore_n (ls1 := [some (.ref 49), some (.int y1), some (.int y2), some (.int (fX6_above y3))]) dX6_as_42 (Nat.le_of_ble_eq_true rfl) rfl ?_
        refine v_goto (tgt := 29) dX6_as_43 rfl ?_
        refine V.sub (ls' := [some (.ref 49), some (.int y1), some (.int y2), some (.int (fX6_above y3))]) (And.intro rfl (And.intro rfl (And.intro rfl (And.intro rfl trivial)))) ?_
        exact ih _ h
set_option maxRecDepth 100000 in
set_option maxHeartbeats 4000000 in
theorem sX6_as {g : Wo} {M : Mem} {x1 : Int32} {x2 : Int32} {r : Int32 × Mem} (h : fX6_as x1 x2 M = some r) : Sp g kX6_as 2 [.ref 49, .int x1, .int x2] M (some (.int r.1)) r.2 := by
  rw [fX6_as] at h
  refine Sp_intro (by decide) [some (.ref 49), some (.int x1), some (.int x2), none] rfl (Nat.le_of_ble_eq_true rfl) ?_
  refine v_aload_n dX6_as_0 rfl ?_
  refine v_iload_n dX6_as_1 rfl ?_
  obtain ⟨v1, e2, h⟩ := Option.bind_eq_some_iff.mp h
  refine v_callV (as := [.int x1]) (st := []) (sX6_isWalker e2) dX6_as_2 mlX6_124 (CRn (by decide) (by decide)) sh_49 rfl rfl rfl (Nat.le_of_ble_eq_true rfl) ?_
  refine v_if_eq (tgt := 15) dX6_as_5 rfl (fun c3 => ?_) (fun c3 => ?_)
  · replace h := (if_pos c3).symm.trans h
    refine v_aload_n dX6_as_15 rfl ?_
    refine v_ldc (v := -1000000001) dX6_as_16 w_809 ?_
    obtain ⟨w4, e5, h⟩ := Option.bind_eq_some_iff.mp h
    refine v_callV (as := [.int (-1000000001 : Int32)]) (st := []) (sX6_finds e5) dX6_as_18 mlX6_69 (CRn (by decide) (by decide)) sh_49 rfl rfl rfl (Nat.le_of_ble_eq_true rfl) ?_
    replace h := Option.some.inj h; subst h
    exact v_iret rfl dX6_as_21
  · replace h := (if_neg c3).symm.trans h
    refine v_iload_n dX6_as_8 rfl ?_
    refine v_callS (as := [.int x2]) (st := []) (sX6_isKind rfl) dX6_as_9 mlX6_102 (CRn (by decide) (by decide)) rfl rfl (Nat.le_of_ble_eq_true rfl) ?_
    refine v_if_ne (tgt := 22) dX6_as_12 rfl (fun c6 => ?_) (fun c6 => ?_)
    · replace h := (if_neg c6).symm.trans h
      refine v_aload_n dX6_as_22 rfl ?_
      refine v_iload_n dX6_as_23 rfl ?_
      refine v_iconst (v := 0) dX6_as_24 rfl ?_
      obtain ⟨v7, e8, h⟩ := Option.bind_eq_some_iff.mp h
      refine v_callV (as := [.int x1, .int (0 : Int32)]) (st := []) (sX6_partOf e8) dX6_as_25 mlX6_64 (CRn (by decide) (by decide)) sh_49 rfl rfl rfl (Nat.le_of_ble_eq_true rfl) ?_
      refine v_istore_n (ls1 := [some (.ref 49), some (.int x1), some (.int x2), some (.int v7)]) dX6_as_28 (Nat.le_of_ble_eq_true rfl) rfl ?_
      refine V.sub (ls' := [some (.ref 49), some (.int x1), some (.int x2), some (.int v7)]) (And.intro rfl (And.intro rfl (And.intro rfl (And.intro rfl trivial)))) ?_
      refine tX6_as_29 (fun u11 h => ?_) FU _ h
      refine v_iload_n dX6_as_46 rfl ?_
      refine v_iload_n dX6_as_47 rfl ?_
      refine v_icmp_ne (tgt := 60) dX6_as_48 rfl (fun c12 => ?_) (fun c12 => ?_)
      · replace h := (if_neg c12).symm.trans h
        refine v_aload_n dX6_as_60 rfl ?_
        refine v_ldc (v := -1000000003) dX6_as_61 w_927 ?_
        obtain ⟨w13, e14, h⟩ := Option.bind_eq_some_iff.mp h
        refine v_callV (as := [.int (-1000000003 : Int32)]) (st := []) (sX6_finds e14) dX6_as_63 mlX6_69 (CRn (by decide) (by decide)) sh_49 rfl rfl rfl (Nat.le_of_ble_eq_true rfl) ?_
        replace h := Option.some.inj h; subst h
        exact v_iret rfl dX6_as_66
      · replace h := (if_pos c12).symm.trans h
        refine v_aload_n dX6_as_51 rfl ?_
        refine v_iload_n dX6_as_52 rfl ?_
        refine v_iconst (v := 3) dX6_as_53 rfl ?_
        obtain ⟨v15, e16, h⟩ := Option.bind_eq_some_iff.mp h
        refine v_callV (as := [.int x1, .int (3 : Int32)]) (st := []) (sX6_partOf e16) dX6_as_54 mlX6_64 (CRn (by decide) (by decide)) sh_49 rfl rfl rfl (Nat.le_of_ble_eq_true rfl) ?_
        refine v_goto (tgt := 66) dX6_as_57 rfl ?_
        replace h := Option.some.inj h; subst h
        exact v_iret rfl dX6_as_66
    · replace h := (if_pos c6).symm.trans h
      refine v_aload_n dX6_as_15 rfl ?_
      refine v_ldc (v := -1000000001) dX6_as_16 w_809 ?_
      obtain ⟨w17, e18, h⟩ := Option.bind_eq_some_iff.mp h
      refine v_callV (as := [.int (-1000000001 : Int32)]) (st := []) (sX6_finds e18) dX6_as_18 mlX6_69 (CRn (by decide) (by decide)) sh_49 rfl rfl rfl (Nat.le_of_ble_eq_true rfl) ?_
      replace h := Option.some.inj h; subst h
      exact v_iret rfl dX6_as_21
/-! ===== BentPlainModel.onward(I)I ===== -/
def fX6_onward (x1 : Int32) (M : Mem) : Option Int32 := ((ldI M 50 112 ((18 : Int32) + x1)).bind fun v1 => (if 0 ≤ (v1 - (1 : Int32)) then some ((((v1 - (1 : Int32)) / (4 : Int32)) * (4 : Int32)) + (((v1 - (1 : Int32)) + (2 : Int32)) - ((v1 - (1 : Int32)) + (2 : Int32)) / (4 : Int32) * (4 : Int32))) else some (-1 : Int32)))
set_option maxRecDepth 100000 in
set_option maxHeartbeats 4000000 in
theorem sX6_onward {g : Wo} {M : Mem} {x1 : Int32} {r : Int32} (h : fX6_onward x1 M = some r) : Sp g kX6_onward 0 [.ref 49, .int x1] M (some (.int r)) M := by
  rw [fX6_onward] at h
  refine Sp_intro (by decide) [some (.ref 49), some (.int x1), none] rfl (Nat.le_of_ble_eq_true rfl) ?_
  refine v_aload_n dX6_onward_0 rfl ?_
  refine v_getr dX6_onward_1 flX6_7 sh_49 rfl ?_
  refine v_bipush (v := 18) dX6_onward_4 rfl ?_
  refine v_iload_n dX6_onward_6 rfl ?_
  refine v_iadd dX6_onward_7 ?_
  obtain ⟨v1, e2, h⟩ := Option.bind_eq_some_iff.mp h
  refine v_ild e2 dX6_onward_8 sh_50 ?_
  refine v_iconst (v := 1) dX6_onward_9 rfl ?_
  refine v_isub dX6_onward_10 ?_
  refine v_istore_n (ls1 := [some (.ref 49), some (.int x1), some (.int (v1 - (1 : Int32)))]) dX6_onward_11 (Nat.le_of_ble_eq_true rfl) rfl ?_
  refine v_iload_n dX6_onward_12 rfl ?_
  refine v_if_ge (tgt := 20) dX6_onward_13 rfl (fun c3 => ?_) (fun c3 => ?_)
  · replace h := (if_pos c3).symm.trans h
    refine v_iload_n dX6_onward_20 rfl ?_
    refine v_iconst (v := 4) dX6_onward_21 rfl ?_
    refine v_idiv dX6_onward_22 (by decide) ?_
    refine v_iconst (v := 4) dX6_onward_23 rfl ?_
    refine v_imul dX6_onward_24 ?_
    refine v_iload_n dX6_onward_25 rfl ?_
    refine v_iconst (v := 2) dX6_onward_26 rfl ?_
    refine v_iadd dX6_onward_27 ?_
    refine v_iconst (v := 4) dX6_onward_28 rfl ?_
    refine v_irem dX6_onward_29 (by decide) ?_
    refine v_iadd dX6_onward_30 ?_
    replace h := Option.some.inj h; subst h
    exact v_iret rfl dX6_onward_31
  · replace h := (if_neg c3).symm.trans h
    refine v_iconst (v := -1) dX6_onward_16 rfl ?_
    refine v_goto (tgt := 31) dX6_onward_17 rfl ?_
    replace h := Option.some.inj h; subst h
    exact v_iret rfl dX6_onward_31
/-! ===== BentPlainModel.atBump(I)I ===== -/
def fX6_atBump (x0 : Int32) : Int32 := (if x0 = (1 : Int32) then (3 : Int32) else (if x0 = (2 : Int32) then (2 : Int32) else (if x0 = (3 : Int32) then (3 : Int32) else (if x0 = (4 : Int32) then (5 : Int32) else (if x0 = (5 : Int32) then (6 : Int32) else (2 : Int32))))))
set_option maxRecDepth 100000 in
set_option maxHeartbeats 4000000 in
theorem sX6_atBump {g : Wo} {M : Mem} {x0 : Int32} {r : Int32} (h : fX6_atBump x0 = r) : Sp g kX6_atBump 0 [.int x0] M (some (.int r)) M := by
  rw [fX6_atBump] at h
  refine Sp_intro (by decide) [some (.int x0)] rfl (Nat.le_of_ble_eq_true rfl) ?_
  refine v_iload_n dX6_atBump_0 rfl ?_
  by_cases c1 : x0 = (1 : Int32)
  · replace h := (if_pos c1).symm.trans h
    refine v_tabIn (off := 35) (tgt := 36) dX6_atBump_1 (by rw [c1]; decide) (by rw [c1]; decide) (by rw [c1]; decide) rfl ?_
    refine v_iconst (v := 3) dX6_atBump_36 rfl ?_
    subst h
    exact v_iret rfl dX6_atBump_37
  · replace h := (if_neg c1).symm.trans h
    by_cases c2 : x0 = (2 : Int32)
    · replace h := (if_pos c2).symm.trans h
      refine v_tabIn (off := 42) (tgt := 43) dX6_atBump_1 (by rw [c2]; decide) (by rw [c2]; decide) (by rw [c2]; decide) rfl ?_
      refine v_iconst (v := 2) dX6_atBump_43 rfl ?_
      subst h
      exact v_iret rfl dX6_atBump_44
    · replace h := (if_neg c2).symm.trans h
      by_cases c3 : x0 = (3 : Int32)
      · replace h := (if_pos c3).symm.trans h
        refine v_tabIn (off := 35) (tgt := 36) dX6_atBump_1 (by rw [c3]; decide) (by rw [c3]; decide) (by rw [c3]; decide) rfl ?_
        refine v_iconst (v := 3) dX6_atBump_36 rfl ?_
        subst h
        exact v_iret rfl dX6_atBump_37
      · replace h := (if_neg c3).symm.trans h
        by_cases c4 : x0 = (4 : Int32)
        · replace h := (if_pos c4).symm.trans h
          refine v_tabIn (off := 37) (tgt := 38) dX6_atBump_1 (by rw [c4]; decide) (by rw [c4]; decide) (by rw [c4]; decide) rfl ?_
          refine v_iconst (v := 5) dX6_atBump_38 rfl ?_
          subst h
          exact v_iret rfl dX6_atBump_39
        · replace h := (if_neg c4).symm.trans h
          by_cases c5 : x0 = (5 : Int32)
          · replace h := (if_pos c5).symm.trans h
            refine v_tabIn (off := 39) (tgt := 40) dX6_atBump_1 (by rw [c5]; decide) (by rw [c5]; decide) (by rw [c5]; decide) rfl ?_
            refine v_bipush (v := 6) dX6_atBump_40 rfl ?_
            subst h
            exact v_iret rfl dX6_atBump_42
          · replace h := (if_neg c5).symm.trans h
            refine v_tabOut (tgt := 43) dX6_atBump_1 ?_ rfl ?_
            · have o0 := i32ne c1
              have o1 := i32ne c2
              have o2 := i32ne c3
              have o3 := i32ne c4
              have o4 := i32ne c5
              simp only [i32l_1, i32l_2, i32l_3, i32l_4, i32l_5] at o0 o1 o2 o3 o4
              omega
            · refine v_iconst (v := 2) dX6_atBump_43 rfl ?_
              subst h
              exact v_iret rfl dX6_atBump_44
/-! ===== BentPlainModel.quarters(III)I ===== -/
def fX6_quarters (x0 : Int32) (x1 : Int32) (x2 : Int32) : Int32 := (if x0 = (2 : Int32) then (if x1 < (5 : Int32) then (0 : Int32) else (1 : Int32)) else (if x0 = (3 : Int32) then (if (x2 - x2 / (3 : Int32) * (3 : Int32)) = 0 then (3 : Int32) else (0 : Int32)) else (if x0 = (4 : Int32) then (if x1 < (5 : Int32) then (0 : Int32) else (1 : Int32)) else (if x0 = (5 : Int32) then (x2 - x2 / (2 : Int32) * (2 : Int32)) else (0 : Int32)))))
set_option maxRecDepth 100000 in
set_option maxHeartbeats 4000000 in
theorem sX6_quarters {g : Wo} {M : Mem} {x0 : Int32} {x1 : Int32} {x2 : Int32} {r : Int32} (h : fX6_quarters x0 x1 x2 = r) : Sp g kX6_quarters 0 [.int x0, .int x1, .int x2] M (some (.int r)) M := by
  rw [fX6_quarters] at h
  refine Sp_intro (by decide) [some (.int x0), some (.int x1), some (.int x2)] rfl (Nat.le_of_ble_eq_true rfl) ?_
  refine v_iload_n dX6_quarters_0 rfl ?_
  by_cases c1 : x0 = (2 : Int32)
  · replace h := (if_pos c1).symm.trans h
    refine v_tabIn (off := 31) (tgt := 32) dX6_quarters_1 (by rw [c1]; decide) (by rw [c1]; decide) (by rw [c1]; decide) rfl ?_
    refine v_iload_n dX6_quarters_32 rfl ?_
    refine v_iconst (v := 5) dX6_quarters_33 rfl ?_
    refine v_icmp_lt (tgt := 41) dX6_quarters_34 rfl (fun c2 => ?_) (fun c2 => ?_)
    · replace h := (if_pos c2).symm.trans h
      refine v_iconst (v := 0) dX6_quarters_41 rfl ?_
      subst h
      exact v_iret rfl dX6_quarters_42
    · replace h := (if_neg c2).symm.trans h
      refine v_iconst (v := 1) dX6_quarters_37 rfl ?_
      refine v_goto (tgt := 42) dX6_quarters_38 rfl ?_
      subst h
      exact v_iret rfl dX6_quarters_42
  · replace h := (if_neg c1).symm.trans h
    by_cases c3 : x0 = (3 : Int32)
    · replace h := (if_pos c3).symm.trans h
      refine v_tabIn (off := 42) (tgt := 43) dX6_quarters_1 (by rw [c3]; decide) (by rw [c3]; decide) (by rw [c3]; decide) rfl ?_
      refine v_iload_n dX6_quarters_43 rfl ?_
      refine v_iconst (v := 3) dX6_quarters_44 rfl ?_
      refine v_irem dX6_quarters_45 (by decide) ?_
      refine v_if_ne (tgt := 53) dX6_quarters_46 rfl (fun c4 => ?_) (fun c4 => ?_)
      · replace h := (if_neg c4).symm.trans h
        refine v_iconst (v := 0) dX6_quarters_53 rfl ?_
        subst h
        exact v_iret rfl dX6_quarters_54
      · replace h := (if_pos c4).symm.trans h
        refine v_iconst (v := 3) dX6_quarters_49 rfl ?_
        refine v_goto (tgt := 54) dX6_quarters_50 rfl ?_
        subst h
        exact v_iret rfl dX6_quarters_54
    · replace h := (if_neg c3).symm.trans h
      by_cases c5 : x0 = (4 : Int32)
      · replace h := (if_pos c5).symm.trans h
        refine v_tabIn (off := 31) (tgt := 32) dX6_quarters_1 (by rw [c5]; decide) (by rw [c5]; decide) (by rw [c5]; decide) rfl ?_
        refine v_iload_n dX6_quarters_32 rfl ?_
        refine v_iconst (v := 5) dX6_quarters_33 rfl ?_
        refine v_icmp_lt (tgt := 41) dX6_quarters_34 rfl (fun c6 => ?_) (fun c6 => ?_)
        · replace h := (if_pos c6).symm.trans h
          refine v_iconst (v := 0) dX6_quarters_41 rfl ?_
          subst h
          exact v_iret rfl dX6_quarters_42
        · replace h := (if_neg c6).symm.trans h
          refine v_iconst (v := 1) dX6_quarters_37 rfl ?_
          refine v_goto (tgt := 42) dX6_quarters_38 rfl ?_
          subst h
          exact v_iret rfl dX6_quarters_42
      · replace h := (if_neg c5).symm.trans h
        by_cases c7 : x0 = (5 : Int32)
        · replace h := (if_pos c7).symm.trans h
          refine v_tabIn (off := 54) (tgt := 55) dX6_quarters_1 (by rw [c7]; decide) (by rw [c7]; decide) (by rw [c7]; decide) rfl ?_
          refine v_iload_n dX6_quarters_55 rfl ?_
          refine v_iconst (v := 2) dX6_quarters_56 rfl ?_
          refine v_irem dX6_quarters_57 (by decide) ?_
          subst h
          exact v_iret rfl dX6_quarters_58
        · replace h := (if_neg c7).symm.trans h
          refine v_tabOut (tgt := 59) dX6_quarters_1 ?_ rfl ?_
          · have o0 := i32ne c1
            have o1 := i32ne c3
            have o2 := i32ne c5
            have o3 := i32ne c7
            simp only [i32l_2, i32l_3, i32l_4, i32l_5] at o0 o1 o2 o3
            omega
          · refine v_iconst (v := 0) dX6_quarters_59 rfl ?_
            subst h
            exact v_iret rfl dX6_quarters_60
/-! ===== BentPlainModel.goes(I)V ===== -/
def fX6_goes (x1 : Int32) (M : Mem) : Option Mem := ((fX6_partOf x1 (0 : Int32) M).bind fun v1 => ((fX6_wayOf x1 M).bind fun v3 => ((fX6_onward v3 M).bind fun v5 => ((if 0 ≤ v5 then some (v5 - v5 / (4 : Int32) * (4 : Int32)) else ((fX6_partOf x1 (2 : Int32) M).bind fun v11 => some (v11 + (fX6_atBump v1)))).bind fun t9 => ((if 0 ≤ v5 then ((ldI M 50 112 ((2 : Int32) + (v5 / (4 : Int32)))).bind fun v17 => ((stI M 50 112 (fX6_spot x1 (1 : Int32)) (v5 / (4 : Int32))).bind fun M19 => ((ldI M19 50 112 (fX6_spot x1 (3 : Int32))).bind fun v21 => ((stI M19 50 112 (fX6_spot x1 (3 : Int32)) (v21 + (fX6_pays v1 v17))).bind fun M23 => ((fX6_partOf x1 (3 : Int32) M23).bind fun v25 => some ((t9 + (fX6_quarters v1 v17 v25)), M23)))))) else ((ldI M 50 112 (fX6_spot x1 (4 : Int32))).bind fun v27 => ((stI M 50 112 (fX6_spot x1 (4 : Int32)) (v27 + (1 : Int32))).bind fun M29 => some (t9, M29)))).bind fun t15 => ((stI t15.2 50 112 (fX6_spot x1 (2 : Int32)) (t15.1 - t15.1 / (4 : Int32) * (4 : Int32))).bind fun M31 => some M31))))))
set_option maxRecDepth 100000 in
set_option maxHeartbeats 4000000 in
theorem sX6_goes {g : Wo} {M : Mem} {x1 : Int32} {r : Mem} (h : fX6_goes x1 M = some r) : Sp g kX6_goes 3 [.ref 49, .int x1] M none r := by
  rw [fX6_goes] at h
  refine Sp_intro (by decide) [some (.ref 49), some (.int x1), none, none, none, none] rfl (Nat.le_of_ble_eq_true rfl) ?_
  refine v_aload_n dX6_goes_0 rfl ?_
  refine v_iload_n dX6_goes_1 rfl ?_
  refine v_iconst (v := 0) dX6_goes_2 rfl ?_
  obtain ⟨v1, e2, h⟩ := Option.bind_eq_some_iff.mp h
  refine v_callV (as := [.int x1, .int (0 : Int32)]) (st := []) (sX6_partOf e2) dX6_goes_3 mlX6_64 (CRn (by decide) (by decide)) sh_49 rfl rfl rfl (Nat.le_of_ble_eq_true rfl) ?_
  refine v_istore_n (ls1 := [some (.ref 49), some (.int x1), some (.int v1), none, none, none]) dX6_goes_6 (Nat.le_of_ble_eq_true rfl) rfl ?_
  refine v_aload_n dX6_goes_7 rfl ?_
  refine v_aload_n dX6_goes_8 rfl ?_
  refine v_iload_n dX6_goes_9 rfl ?_
  obtain ⟨v3, e4, h⟩ := Option.bind_eq_some_iff.mp h
  refine v_callV (as := [.int x1]) (st := [.ref 49]) (sX6_wayOf e4) dX6_goes_10 mlX6_109 (CRn (by decide) (by decide)) sh_49 rfl rfl rfl (Nat.le_of_ble_eq_true rfl) ?_
  obtain ⟨v5, e6, h⟩ := Option.bind_eq_some_iff.mp h
  refine v_callV (as := [.int v3]) (st := []) (sX6_onward e6) dX6_goes_13 mlX6_112 (CRn (by decide) (by decide)) sh_49 rfl rfl rfl (Nat.le_of_ble_eq_true rfl) ?_
  refine v_istore_n (ls1 := [some (.ref 49), some (.int x1), some (.int v1), some (.int v5), none, none]) dX6_goes_16 (Nat.le_of_ble_eq_true rfl) rfl ?_
  refine v_iload_n dX6_goes_17 rfl ?_
  obtain ⟨t9, e10, h⟩ := Option.bind_eq_some_iff.mp h
  have hJ : V g kX6_goes (jm g 3 none r) 38 [some (.ref 49), some (.int x1), some (.int v1), some (.int v5), none, none] [.int t9] M := by
    refine v_istore (ls1 := [some (.ref 49), some (.int x1), some (.int v1), some (.int v5), some (.int t9), none]) dX6_goes_38 (Nat.le_of_ble_eq_true rfl) rfl ?_
    refine v_iload_n dX6_goes_40 rfl ?_
    obtain ⟨t15, e16, h⟩ := Option.bind_eq_some_iff.mp h
    have hJ : V g kX6_goes (jm g 3 none r) 122 [some (.ref 49), some (.int x1), none, none, some (.int t15.1), none] [] t15.2 := by
      refine v_aload_n dX6_goes_122 rfl ?_
      refine v_getr dX6_goes_123 flX6_7 sh_49 rfl ?_
      refine v_iload_n dX6_goes_126 rfl ?_
      refine v_iconst (v := 2) dX6_goes_127 rfl ?_
      refine v_callS (as := [.int x1, .int (2 : Int32)]) (st := [.ref 50]) (sX6_spot rfl) dX6_goes_128 mlX6_60 (CRn (by decide) (by decide)) rfl rfl (Nat.le_of_ble_eq_true rfl) ?_
      refine v_iload dX6_goes_131 rfl ?_
      refine v_iconst (v := 4) dX6_goes_133 rfl ?_
      refine v_irem dX6_goes_134 (by decide) ?_
      obtain ⟨M31, e32, h⟩ := Option.bind_eq_some_iff.mp h
      refine v_ist e32 dX6_goes_135 sh_50 ?_
      replace h := Option.some.inj h; subst h
      exact v_vret rfl dX6_goes_136
    clear h
    have h := e16
    clear e16
    refine v_if_ge (tgt := 61) dX6_goes_41 rfl (fun c14 => ?_) (fun c14 => ?_)
    · replace h := (if_pos c14).symm.trans h
      refine v_aload_n dX6_goes_61 rfl ?_
      refine v_getr dX6_goes_62 flX6_7 sh_49 rfl ?_
      refine v_iconst (v := 2) dX6_goes_65 rfl ?_
      refine v_iload_n dX6_goes_66 rfl ?_
      refine v_iconst (v := 4) dX6_goes_67 rfl ?_
      refine v_idiv dX6_goes_68 (by decide) ?_
      refine v_iadd dX6_goes_69 ?_
      obtain ⟨v17, e18, h⟩ := Option.bind_eq_some_iff.mp h
      refine v_ild e18 dX6_goes_70 sh_50 ?_
      refine v_istore (ls1 := [some (.ref 49), some (.int x1), some (.int v1), some (.int v5), some (.int t9), some (.int v17)]) dX6_goes_71 (Nat.le_of_ble_eq_true rfl) rfl ?_
      refine v_aload_n dX6_goes_73 rfl ?_
      refine v_getr dX6_goes_74 flX6_7 sh_49 rfl ?_
      refine v_iload_n dX6_goes_77 rfl ?_
      refine v_iconst (v := 1) dX6_goes_78 rfl ?_
      refine v_callS (as := [.int x1, .int (1 : Int32)]) (st := [.ref 50]) (sX6_spot rfl) dX6_goes_79 mlX6_60 (CRn (by decide) (by decide)) rfl rfl (Nat.le_of_ble_eq_true rfl) ?_
      refine v_iload_n dX6_goes_82 rfl ?_
      refine v_iconst (v := 4) dX6_goes_83 rfl ?_
      refine v_idiv dX6_goes_84 (by decide) ?_
      obtain ⟨M19, e20, h⟩ := Option.bind_eq_some_iff.mp h
      refine v_ist e20 dX6_goes_85 sh_50 ?_
      refine v_aload_n dX6_goes_86 rfl ?_
      refine v_getr dX6_goes_87 flX6_7 sh_49 rfl ?_
      refine v_iload_n dX6_goes_90 rfl ?_
      refine v_iconst (v := 3) dX6_goes_91 rfl ?_
      refine v_callS (as := [.int x1, .int (3 : Int32)]) (st := [.ref 50]) (sX6_spot rfl) dX6_goes_92 mlX6_60 (CRn (by decide) (by decide)) rfl rfl (Nat.le_of_ble_eq_true rfl) ?_
      refine v_dup2 dX6_goes_95 rfl rfl ?_
      obtain ⟨v21, e22, h⟩ := Option.bind_eq_some_iff.mp h
      refine v_ild e22 dX6_goes_96 sh_50 ?_
      refine v_iload_n dX6_goes_97 rfl ?_
      refine v_iload dX6_goes_98 rfl ?_
      refine v_callS (as := [.int v1, .int v17]) (st := [.int v21, .int (fX6_spot x1 (3 : Int32)), .ref 50]) (sX6_pays rfl) dX6_goes_100 mlX6_118 (CRn (by decide) (by decide)) rfl rfl (Nat.le_of_ble_eq_true rfl) ?_
      refine v_iadd dX6_goes_103 ?_
      obtain ⟨M23, e24, h⟩ := Option.bind_eq_some_iff.mp h
      refine v_ist e24 dX6_goes_104 sh_50 ?_
      refine v_iload dX6_goes_105 rfl ?_
      refine v_iload_n dX6_goes_107 rfl ?_
      refine v_iload dX6_goes_108 rfl ?_
      refine v_aload_n dX6_goes_110 rfl ?_
      refine v_iload_n dX6_goes_111 rfl ?_
      refine v_iconst (v := 3) dX6_goes_112 rfl ?_
      obtain ⟨v25, e26, h⟩ := Option.bind_eq_some_iff.mp h
      refine v_callV (as := [.int x1, .int (3 : Int32)]) (st := [.int v17, .int v1, .int t9]) (sX6_partOf e26) dX6_goes_113 mlX6_64 (CRn (by decide) (by decide)) sh_49 rfl rfl rfl (Nat.le_of_ble_eq_true rfl) ?_
      refine v_callS (as := [.int v1, .int v17, .int v25]) (st := [.int t9]) (sX6_quarters rfl) dX6_goes_116 mlX6_121 (CRn (by decide) (by decide)) rfl rfl (Nat.le_of_ble_eq_true rfl) ?_
      refine v_iadd dX6_goes_119 ?_
      refine v_istore (ls1 := [some (.ref 49), some (.int x1), some (.int v1), some (.int v5), some (.int (t9 + (fX6_quarters v1 v17 v25))), some (.int v17)]) dX6_goes_120 (Nat.le_of_ble_eq_true rfl) rfl ?_
      replace h := Option.some.inj h; subst h
      refine V.sub (ls' := [some (.ref 49), some (.int x1), none, none, some (.int (t9 + (fX6_quarters v1 v17 v25))), none]) (And.intro rfl (And.intro rfl (And.intro rfl trivial))) ?_
      exact hJ
    · replace h := (if_neg c14).symm.trans h
      refine v_aload_n dX6_goes_44 rfl ?_
      refine v_getr dX6_goes_45 flX6_7 sh_49 rfl ?_
      refine v_iload_n dX6_goes_48 rfl ?_
      refine v_iconst (v := 4) dX6_goes_49 rfl ?_
      refine v_callS (as := [.int x1, .int (4 : Int32)]) (st := [.ref 50]) (sX6_spot rfl) dX6_goes_50 mlX6_60 (CRn (by decide) (by decide)) rfl rfl (Nat.le_of_ble_eq_true rfl) ?_
      refine v_dup2 dX6_goes_53 rfl rfl ?_
      obtain ⟨v27, e28, h⟩ := Option.bind_eq_some_iff.mp h
      refine v_ild e28 dX6_goes_54 sh_50 ?_
      refine v_iconst (v := 1) dX6_goes_55 rfl ?_
      refine v_iadd dX6_goes_56 ?_
      obtain ⟨M29, e30, h⟩ := Option.bind_eq_some_iff.mp h
      refine v_ist e30 dX6_goes_57 sh_50 ?_
      refine v_goto (tgt := 122) dX6_goes_58 rfl ?_
      replace h := Option.some.inj h; subst h
      refine V.sub (ls' := [some (.ref 49), some (.int x1), none, none, some (.int t9), none]) (And.intro rfl (And.intro rfl (And.intro rfl trivial))) ?_
      exact hJ
  clear h
  have h := e10
  clear e10
  refine v_if_ge (tgt := 35) dX6_goes_18 rfl (fun c8 => ?_) (fun c8 => ?_)
  · replace h := (if_pos c8).symm.trans h
    refine v_iload_n dX6_goes_35 rfl ?_
    refine v_iconst (v := 4) dX6_goes_36 rfl ?_
    refine v_irem dX6_goes_37 (by decide) ?_
    replace h := Option.some.inj h; subst h
    refine V.sub (ls' := [some (.ref 49), some (.int x1), some (.int v1), some (.int v5), none, none]) (And.intro rfl (And.intro rfl (And.intro rfl (And.intro rfl trivial)))) ?_
    exact hJ
  · replace h := (if_neg c8).symm.trans h
    refine v_aload_n dX6_goes_21 rfl ?_
    refine v_iload_n dX6_goes_22 rfl ?_
    refine v_iconst (v := 2) dX6_goes_23 rfl ?_
    obtain ⟨v11, e12, h⟩ := Option.bind_eq_some_iff.mp h
    refine v_callV (as := [.int x1, .int (2 : Int32)]) (st := []) (sX6_partOf e12) dX6_goes_24 mlX6_64 (CRn (by decide) (by decide)) sh_49 rfl rfl rfl (Nat.le_of_ble_eq_true rfl) ?_
    refine v_iload_n dX6_goes_27 rfl ?_
    refine v_callS (as := [.int v1]) (st := [.int v11]) (sX6_atBump rfl) dX6_goes_28 mlX6_115 (CRn (by decide) (by decide)) rfl rfl (Nat.le_of_ble_eq_true rfl) ?_
    refine v_iadd dX6_goes_31 ?_
    refine v_goto (tgt := 38) dX6_goes_32 rfl ?_
    replace h := Option.some.inj h; subst h
    refine V.sub (ls' := [some (.ref 49), some (.int x1), some (.int v1), some (.int v5), none, none]) (And.intro rfl (And.intro rfl (And.intro rfl (And.intro rfl trivial)))) ?_
    exact hJ
/-! ===== BentPlainModel.step(I)I ===== -/
def fX6_step (x1 : Int32) (M : Mem) : Option (Int32 × Mem) := ((fX6_isWalker x1 M).bind fun v1 => (if v1 = 0 then ((fX6_finds (-1000000001 : Int32) M).bind fun w8 => some (w8.1, w8.2)) else ((fX6_goes x1 M).bind fun w4 => ((fX6_partOf x1 (1 : Int32) w4).bind fun v6 => some (v6, w4)))))
set_option maxRecDepth 100000 in
set_option maxHeartbeats 4000000 in
theorem sX6_step {g : Wo} {M : Mem} {x1 : Int32} {r : Int32 × Mem} (h : fX6_step x1 M = some r) : Sp g kX6_step 4 [.ref 49, .int x1] M (some (.int r.1)) r.2 := by
  rw [fX6_step] at h
  refine Sp_intro (by decide) [some (.ref 49), some (.int x1)] rfl (Nat.le_of_ble_eq_true rfl) ?_
  refine v_aload_n dX6_step_0 rfl ?_
  refine v_iload_n dX6_step_1 rfl ?_
  obtain ⟨v1, e2, h⟩ := Option.bind_eq_some_iff.mp h
  refine v_callV (as := [.int x1]) (st := []) (sX6_isWalker e2) dX6_step_2 mlX6_124 (CRn (by decide) (by decide)) sh_49 rfl rfl rfl (Nat.le_of_ble_eq_true rfl) ?_
  refine v_if_ne (tgt := 15) dX6_step_5 rfl (fun c3 => ?_) (fun c3 => ?_)
  · replace h := (if_neg c3).symm.trans h
    refine v_aload_n dX6_step_15 rfl ?_
    refine v_iload_n dX6_step_16 rfl ?_
    obtain ⟨w4, e5, h⟩ := Option.bind_eq_some_iff.mp h
    refine v_callV (as := [.int x1]) (st := []) (sX6_goes e5) dX6_step_17 mlX6_134 (CRn (by decide) (by decide)) sh_49 rfl rfl rfl (Nat.le_of_ble_eq_true rfl) ?_
    refine v_aload_n dX6_step_20 rfl ?_
    refine v_iload_n dX6_step_21 rfl ?_
    refine v_iconst (v := 1) dX6_step_22 rfl ?_
    obtain ⟨v6, e7, h⟩ := Option.bind_eq_some_iff.mp h
    refine v_callV (as := [.int x1, .int (1 : Int32)]) (st := []) (sX6_partOf e7) dX6_step_23 mlX6_64 (CRn (by decide) (by decide)) sh_49 rfl rfl rfl (Nat.le_of_ble_eq_true rfl) ?_
    replace h := Option.some.inj h; subst h
    exact v_iret rfl dX6_step_26
  · replace h := (if_pos c3).symm.trans h
    refine v_aload_n dX6_step_8 rfl ?_
    refine v_ldc (v := -1000000001) dX6_step_9 w_809 ?_
    obtain ⟨w8, e9, h⟩ := Option.bind_eq_some_iff.mp h
    refine v_callV (as := [.int (-1000000001 : Int32)]) (st := []) (sX6_finds e9) dX6_step_11 mlX6_69 (CRn (by decide) (by decide)) sh_49 rfl rfl rfl (Nat.le_of_ble_eq_true rfl) ?_
    replace h := Option.some.inj h; subst h
    exact v_iret rfl dX6_step_14
/-! ===== BentPlainModel.all()V ===== -/
def fX6_all_2 {ρ : Type} (kx : Mem → Option ρ) : Nat → Int32 → Mem → Option ρ
  | 0, _, _ => none
  | n + 1, y1, M => ((ldI M 50 112 (1 : Int32)).bind fun v1 => (if v1 ≤ y1 then (kx M) else ((fX6_goes y1 M).bind fun w4 => (fX6_all_2 kx n (y1 + (1 : Int32)) w4))))
def fX6_all (M : Mem) : Option Mem := (fX6_all_2 (fun M6 => some M6) FU (0 : Int32) M)
set_option maxRecDepth 100000 in
set_option maxHeartbeats 4000000 in
theorem tX6_all_2 {g : Wo} {ρ : Type} {kx : Mem → Option ρ} {r : ρ} {rr : Option Value} {Mr : Mem} (hk : ∀ (Mx : Mem), kx Mx = some r → V g kX6_all (jm g 4 rr Mr) 23 [none, none] [] Mx) : ∀ (n : Nat) (y1 : Int32) (M : Mem), fX6_all_2 kx n y1 M = some r → V g kX6_all (jm g 4 rr Mr) 2 [some (.ref 49), some (.int y1)] [] M := by
  intro n
  induction n with
  | zero =>
    intro y1 M h
    rw [fX6_all_2] at h
    cases h
  | succ n ih =>
    intro y1 M h
    rw [fX6_all_2] at h
    refine v_iload_n dX6_all_2 rfl ?_
    refine v_aload_n dX6_all_3 rfl ?_
    refine v_getr dX6_all_4 flX6_7 sh_49 rfl ?_
    refine v_iconst (v := 1) dX6_all_7 rfl ?_
    obtain ⟨v1, e2, h⟩ := Option.bind_eq_some_iff.mp h
    refine v_ild e2 dX6_all_8 sh_50 ?_
    refine v_icmp_ge (tgt := 23) dX6_all_9 rfl (fun c3 => ?_) (fun c3 => ?_)
    · replace h := (if_pos c3).symm.trans h
      refine V.sub (ls' := [none, none]) trivial ?_
      exact hk _ h
    · replace h := (if_neg c3).symm.trans h
      refine v_aload_n dX6_all_12 rfl ?_
      refine v_iload_n dX6_all_13 rfl ?_
      obtain ⟨w4, e5, h⟩ := Option.bind_eq_some_iff.mp h
      refine v_callV (as := [.int y1]) (st := []) (sX6_goes e5) dX6_all_14 mlX6_134 (CRn (by decide) (by decide)) sh_49 rfl rfl rfl (Nat.le_of_ble_eq_true rfl) ?_
      refine v_iinc (v := 1) (ls1 := [some (.ref 49), some (.int (y1 + (1 : Int32)))]) dX6_all_17 rfl rfl (Nat.le_of_ble_eq_true rfl) rfl ?_
      refine v_goto (tgt := 2) dX6_all_20 rfl ?_
      refine V.sub (ls' := [some (.ref 49), some (.int (y1 + (1 : Int32)))]) (And.intro rfl (And.intro rfl trivial)) ?_
      exact ih _ _ h
set_option maxRecDepth 100000 in
set_option maxHeartbeats 4000000 in
theorem sX6_all {g : Wo} {M : Mem} {r : Mem} (h : fX6_all M = some r) : Sp g kX6_all 4 [.ref 49] M none r := by
  rw [fX6_all] at h
  refine Sp_intro (by decide) [some (.ref 49), none] rfl (Nat.le_of_ble_eq_true rfl) ?_
  refine v_iconst (v := 0) dX6_all_0 rfl ?_
  refine v_istore_n (ls1 := [some (.ref 49), some (.int (0 : Int32))]) dX6_all_1 (Nat.le_of_ble_eq_true rfl) rfl ?_
  refine V.sub (ls' := [some (.ref 49), some (.int (0 : Int32))]) (And.intro rfl (And.intro rfl trivial)) ?_
  refine tX6_all_2 (fun M6 h => ?_) FU _ _ h
  replace h := Option.some.inj h; subst h
  exact v_vret rfl dX6_all_23
/-! ===== BentPlainModel.allMiles()I ===== -/
def fX6_allMiles_4 {ρ : Type} (kx : Int32 → Option ρ) (M : Mem) : Nat → Int32 → Int32 → Option ρ
  | 0, _, _ => none
  | n + 1, y1, y2 => ((ldI M 50 112 (1 : Int32)).bind fun v1 => (if v1 ≤ y2 then (kx y1) else ((fX6_partOf y2 (3 : Int32) M).bind fun v4 => (fX6_allMiles_4 kx M n (y1 + v4) (y2 + (1 : Int32))))))
def fX6_allMiles (M : Mem) : Option Int32 := (fX6_allMiles_4 (fun u6 => some u6) M FU (0 : Int32) (0 : Int32))
set_option maxRecDepth 100000 in
set_option maxHeartbeats 4000000 in
theorem tX6_allMiles_4 {g : Wo} {ρ : Type} {kx : Int32 → Option ρ} {M : Mem} {r : ρ} {rr : Option Value} {Mr : Mem} (hk : ∀ (z1 : Int32), kx z1 = some r → V g kX6_allMiles (jm g 2 rr Mr) 29 [none, some (.int z1), none] [] M) : ∀ (n : Nat) (y1 : Int32) (y2 : Int32), fX6_allMiles_4 kx M n y1 y2 = some r → V g kX6_allMiles (jm g 2 rr Mr) 4 [some (.ref 49), some (.int y1), some (.int y2)] [] M := by
  intro n
  induction n with
  | zero =>
    intro y1 y2 h
    rw [fX6_allMiles_4] at h
    cases h
  | succ n ih =>
    intro y1 y2 h
    rw [fX6_allMiles_4] at h
    refine v_iload_n dX6_allMiles_4 rfl ?_
    refine v_aload_n dX6_allMiles_5 rfl ?_
    refine v_getr dX6_allMiles_6 flX6_7 sh_49 rfl ?_
    refine v_iconst (v := 1) dX6_allMiles_9 rfl ?_
    obtain ⟨v1, e2, h⟩ := Option.bind_eq_some_iff.mp h
    refine v_ild e2 dX6_allMiles_10 sh_50 ?_
    refine v_icmp_ge (tgt := 29) dX6_allMiles_11 rfl (fun c3 => ?_) (fun c3 => ?_)
    · replace h := (if_pos c3).symm.trans h
      refine V.sub (ls' := [none, some (.int y1), none]) (And.intro rfl trivial) ?_
      exact hk _ h
    · replace h := (if_neg c3).symm.trans h
      refine v_iload_n dX6_allMiles_14 rfl ?_
      refine v_aload_n dX6_allMiles_15 rfl ?_
      refine v_iload_n dX6_allMiles_16 rfl ?_
      refine v_iconst (v := 3) dX6_allMiles_17 rfl ?_
      obtain ⟨v4, e5, h⟩ := Option.bind_eq_some_iff.mp h
      refine v_callV (as := [.int y2, .int (3 : Int32)]) (st := [.int y1]) (sX6_partOf e5) dX6_allMiles_18 mlX6_64 (CRn (by decide) (by decide)) sh_49 rfl rfl rfl (Nat.le_of_ble_eq_true rfl) ?_
      refine v_iadd dX6_allMiles_21 ?_
      refine v_istore_n (ls1 := [some (.ref 49), some (.int (y1 + v4)), some (.int y2)]) dX6_allMiles_22 (Nat.le_of_ble_eq_true rfl) rfl ?_
      refine v_iinc (v := 1) (ls1 := [some (.ref 49), some (.int (y1 + v4)), some (.int (y2 + (1 : Int32)))]) dX6_allMiles_23 rfl rfl (Nat.le_of_ble_eq_true rfl) rfl ?_
      refine v_goto (tgt := 4) dX6_allMiles_26 rfl ?_
      refine V.sub (ls' := [some (.ref 49), some (.int (y1 + v4)), some (.int (y2 + (1 : Int32)))]) (And.intro rfl (And.intro rfl (And.intro rfl trivial))) ?_
      exact ih _ _ h
set_option maxRecDepth 100000 in
set_option maxHeartbeats 4000000 in
theorem sX6_allMiles {g : Wo} {M : Mem} {r : Int32} (h : fX6_allMiles M = some r) : Sp g kX6_allMiles 2 [.ref 49] M (some (.int r)) M := by
  rw [fX6_allMiles] at h
  refine Sp_intro (by decide) [some (.ref 49), none, none] rfl (Nat.le_of_ble_eq_true rfl) ?_
  refine v_iconst (v := 0) dX6_allMiles_0 rfl ?_
  refine v_istore_n (ls1 := [some (.ref 49), some (.int (0 : Int32)), none]) dX6_allMiles_1 (Nat.le_of_ble_eq_true rfl) rfl ?_
  refine v_iconst (v := 0) dX6_allMiles_2 rfl ?_
  refine v_istore_n (ls1 := [some (.ref 49), some (.int (0 : Int32)), some (.int (0 : Int32))]) dX6_allMiles_3 (Nat.le_of_ble_eq_true rfl) rfl ?_
  refine V.sub (ls' := [some (.ref 49), some (.int (0 : Int32)), some (.int (0 : Int32))]) (And.intro rfl (And.intro rfl (And.intro rfl trivial))) ?_
  refine tX6_allMiles_4 (fun u6 h => ?_) FU _ _ h
  refine v_iload_n dX6_allMiles_29 rfl ?_
  replace h := Option.some.inj h; subst h
  exact v_iret rfl dX6_allMiles_30
/-! ===== BentPlainModel.steps(I)I ===== -/
def fX6_steps_21 {ρ : Type} (kx : Mem → Option ρ) (y1 : Int32) : Nat → Int32 → Mem → Option ρ
  | 0, _, _ => none
  | n + 1, y2, M => (if y1 ≤ y2 then (kx M) else ((fX6_all M).bind fun w3 => (fX6_steps_21 kx y1 n (y2 + (1 : Int32)) w3)))
def fX6_steps (x1 : Int32) (M : Mem) : Option (Int32 × Mem) := (if (fX6_in ((x1).toInt64) (1 : Int64) (100 : Int64)) = 0 then ((fX6_finds (-1000000001 : Int32) M).bind fun w8 => some (w8.1, w8.2)) else (fX6_steps_21 (fun M5 => ((fX6_allMiles M5).bind fun v6 => some (v6, M5))) x1 FU (0 : Int32) M))
set_option maxRecDepth 100000 in
set_option maxHeartbeats 4000000 in
theorem tX6_steps_21 {g : Wo} {ρ : Type} {kx : Mem → Option ρ} {y1 : Int32} {r : ρ} {rr : Option Value} {Mr : Mem} (hk : ∀ (Mx : Mem), kx Mx = some r → V g kX6_steps (jm g 5 rr Mr) 36 [some (.ref 49), none, none] [] Mx) : ∀ (n : Nat) (y2 : Int32) (M : Mem), fX6_steps_21 kx y1 n y2 M = some r → V g kX6_steps (jm g 5 rr Mr) 21 [some (.ref 49), some (.int y1), some (.int y2)] [] M := by
  intro n
  induction n with
  | zero =>
    intro y2 M h
    rw [fX6_steps_21] at h
    cases h
  | succ n ih =>
    intro y2 M h
    rw [fX6_steps_21] at h
    refine v_iload_n dX6_steps_21 rfl ?_
    refine v_iload_n dX6_steps_22 rfl ?_
    refine v_icmp_ge (tgt := 36) dX6_steps_23 rfl (fun c2 => ?_) (fun c2 => ?_)
    · replace h := (if_pos c2).symm.trans h
      refine V.sub (ls' := [some (.ref 49), none, none]) (And.intro rfl trivial) ?_
      exact hk _ h
    · replace h := (if_neg c2).symm.trans h
      refine v_aload_n dX6_steps_26 rfl ?_
      obtain ⟨w3, e4, h⟩ := Option.bind_eq_some_iff.mp h
      refine v_callV (as := []) (st := []) (sX6_all e4) dX6_steps_27 mlX6_139 (CRn (by decide) (by decide)) sh_49 rfl rfl rfl (Nat.le_of_ble_eq_true rfl) ?_
      refine v_iinc (v := 1) (ls1 := [some (.ref 49), some (.int y1), some (.int (y2 + (1 : Int32)))]) dX6_steps_30 rfl rfl (Nat.le_of_ble_eq_true rfl) rfl ?_
      refine v_goto (tgt := 21) dX6_steps_33 rfl ?_
      refine V.sub (ls' := [some (.ref 49), some (.int y1), some (.int (y2 + (1 : Int32)))]) (And.intro rfl (And.intro rfl (And.intro rfl trivial))) ?_
      exact ih _ _ h
set_option maxRecDepth 100000 in
set_option maxHeartbeats 4000000 in
theorem sX6_steps {g : Wo} {M : Mem} {x1 : Int32} {r : Int32 × Mem} (h : fX6_steps x1 M = some r) : Sp g kX6_steps 5 [.ref 49, .int x1] M (some (.int r.1)) r.2 := by
  rw [fX6_steps] at h
  refine Sp_intro (by decide) [some (.ref 49), some (.int x1), none] rfl (Nat.le_of_ble_eq_true rfl) ?_
  refine v_iload_n dX6_steps_0 rfl ?_
  refine v_i2l dX6_steps_1 ?_
  refine v_lconst (v := 1) dX6_steps_2 rfl ?_
  refine v_ldc2 (v := 100) dX6_steps_3 w_950 ?_
  refine v_callS (as := [.long ((x1).toInt64), .long (1 : Int64), .long (100 : Int64)]) (st := []) (sX6_in rfl) dX6_steps_6 mlX6_45 (CRn (by decide) (by decide)) rfl rfl (Nat.le_of_ble_eq_true rfl) ?_
  refine v_if_ne (tgt := 19) dX6_steps_9 rfl (fun c1 => ?_) (fun c1 => ?_)
  · replace h := (if_neg c1).symm.trans h
    refine v_iconst (v := 0) dX6_steps_19 rfl ?_
    refine v_istore_n (ls1 := [some (.ref 49), some (.int x1), some (.int (0 : Int32))]) dX6_steps_20 (Nat.le_of_ble_eq_true rfl) rfl ?_
    refine V.sub (ls' := [some (.ref 49), some (.int x1), some (.int (0 : Int32))]) (And.intro rfl (And.intro rfl (And.intro rfl trivial))) ?_
    refine tX6_steps_21 (fun M5 h => ?_) FU _ _ h
    refine v_aload_n dX6_steps_36 rfl ?_
    obtain ⟨v6, e7, h⟩ := Option.bind_eq_some_iff.mp h
    refine v_callV (as := []) (st := []) (sX6_allMiles e7) dX6_steps_37 mlX6_142 (CRn (by decide) (by decide)) sh_49 rfl rfl rfl (Nat.le_of_ble_eq_true rfl) ?_
    replace h := Option.some.inj h; subst h
    exact v_iret rfl dX6_steps_40
  · replace h := (if_pos c1).symm.trans h
    refine v_aload_n dX6_steps_12 rfl ?_
    refine v_ldc (v := -1000000001) dX6_steps_13 w_809 ?_
    obtain ⟨w8, e9, h⟩ := Option.bind_eq_some_iff.mp h
    refine v_callV (as := [.int (-1000000001 : Int32)]) (st := []) (sX6_finds e9) dX6_steps_15 mlX6_69 (CRn (by decide) (by decide)) sh_49 rfl rfl rfl (Nat.le_of_ble_eq_true rfl) ?_
    replace h := Option.some.inj h; subst h
    exact v_iret rfl dX6_steps_18
/-! ===== BentPlainModel.laysAside()V ===== -/
def fX6_laysAside_2 {ρ : Type} (kx : Mem → Option ρ) : Nat → Int32 → Mem → Option ρ
  | 0, _, _ => none
  | n + 1, y1, M => (if (112 : Int32) ≤ y1 then (kx M) else ((ldI M 50 112 y1).bind fun v2 => ((stI M 53 112 y1 v2).bind fun M4 => (fX6_laysAside_2 kx n (y1 + (1 : Int32)) M4))))
def fX6_laysAside (M : Mem) : Option Mem := (fX6_laysAside_2 (fun M6 => some M6) FU (0 : Int32) M)
set_option maxRecDepth 100000 in
set_option maxHeartbeats 4000000 in
theorem tX6_laysAside_2 {g : Wo} {ρ : Type} {kx : Mem → Option ρ} {r : ρ} {rr : Option Value} {Mr : Mem} (hk : ∀ (Mx : Mem), kx Mx = some r → V g kX6_laysAside (jm g 0 rr Mr) 26 [none, none] [] Mx) : ∀ (n : Nat) (y1 : Int32) (M : Mem), fX6_laysAside_2 kx n y1 M = some r → V g kX6_laysAside (jm g 0 rr Mr) 2 [some (.ref 49), some (.int y1)] [] M := by
  intro n
  induction n with
  | zero =>
    intro y1 M h
    rw [fX6_laysAside_2] at h
    cases h
  | succ n ih =>
    intro y1 M h
    rw [fX6_laysAside_2] at h
    refine v_iload_n dX6_laysAside_2 rfl ?_
    refine v_bipush (v := 112) dX6_laysAside_3 rfl ?_
    refine v_icmp_ge (tgt := 26) dX6_laysAside_5 rfl (fun c1 => ?_) (fun c1 => ?_)
    · replace h := (if_pos c1).symm.trans h
      refine V.sub (ls' := [none, none]) trivial ?_
      exact hk _ h
    · replace h := (if_neg c1).symm.trans h
      refine v_aload_n dX6_laysAside_8 rfl ?_
      refine v_getr dX6_laysAside_9 flX6_19 sh_49 rfl ?_
      refine v_iload_n dX6_laysAside_12 rfl ?_
      refine v_aload_n dX6_laysAside_13 rfl ?_
      refine v_getr dX6_laysAside_14 flX6_7 sh_49 rfl ?_
      refine v_iload_n dX6_laysAside_17 rfl ?_
      obtain ⟨v2, e3, h⟩ := Option.bind_eq_some_iff.mp h
      refine v_ild e3 dX6_laysAside_18 sh_50 ?_
      obtain ⟨M4, e5, h⟩ := Option.bind_eq_some_iff.mp h
      refine v_ist e5 dX6_laysAside_19 sh_53 ?_
      refine v_iinc (v := 1) (ls1 := [some (.ref 49), some (.int (y1 + (1 : Int32)))]) dX6_laysAside_20 rfl rfl (Nat.le_of_ble_eq_true rfl) rfl ?_
      refine v_goto (tgt := 2) dX6_laysAside_23 rfl ?_
      refine V.sub (ls' := [some (.ref 49), some (.int (y1 + (1 : Int32)))]) (And.intro rfl (And.intro rfl trivial)) ?_
      exact ih _ _ h
set_option maxRecDepth 100000 in
set_option maxHeartbeats 4000000 in
theorem sX6_laysAside {g : Wo} {M : Mem} {r : Mem} (h : fX6_laysAside M = some r) : Sp g kX6_laysAside 0 [.ref 49] M none r := by
  rw [fX6_laysAside] at h
  refine Sp_intro (by decide) [some (.ref 49), none] rfl (Nat.le_of_ble_eq_true rfl) ?_
  refine v_iconst (v := 0) dX6_laysAside_0 rfl ?_
  refine v_istore_n (ls1 := [some (.ref 49), some (.int (0 : Int32))]) dX6_laysAside_1 (Nat.le_of_ble_eq_true rfl) rfl ?_
  refine V.sub (ls' := [some (.ref 49), some (.int (0 : Int32))]) (And.intro rfl (And.intro rfl trivial)) ?_
  refine tX6_laysAside_2 (fun M6 h => ?_) FU _ _ h
  replace h := Option.some.inj h; subst h
  exact v_vret rfl dX6_laysAside_26
/-! ===== BentPlainModel.takesBack(I)I ===== -/
def fX6_takesBack_2 {ρ : Type} (kx : Mem → Option ρ) (y1 : Int32) : Nat → Int32 → Mem → Option ρ
  | 0, _, _ => none
  | n + 1, y2, M => (if (112 : Int32) ≤ y2 then (kx M) else ((ldI M 53 112 y2).bind fun v2 => ((stI M 50 112 y2 v2).bind fun M4 => (fX6_takesBack_2 kx y1 n (y2 + (1 : Int32)) M4))))
def fX6_takesBack (x1 : Int32) (M : Mem) : Option (Int32 × Mem) := (fX6_takesBack_2 (fun M6 => some (x1, M6)) x1 FU (0 : Int32) M)
set_option maxRecDepth 100000 in
set_option maxHeartbeats 4000000 in
theorem tX6_takesBack_2 {g : Wo} {ρ : Type} {kx : Mem → Option ρ} {y1 : Int32} {r : ρ} {rr : Option Value} {Mr : Mem} (hk : ∀ (Mx : Mem), kx Mx = some r → V g kX6_takesBack (jm g 0 rr Mr) 26 [none, some (.int y1), none] [] Mx) : ∀ (n : Nat) (y2 : Int32) (M : Mem), fX6_takesBack_2 kx y1 n y2 M = some r → V g kX6_takesBack (jm g 0 rr Mr) 2 [some (.ref 49), some (.int y1), some (.int y2)] [] M := by
  intro n
  induction n with
  | zero =>
    intro y2 M h
    rw [fX6_takesBack_2] at h
    cases h
  | succ n ih =>
    intro y2 M h
    rw [fX6_takesBack_2] at h
    refine v_iload_n dX6_takesBack_2 rfl ?_
    refine v_bipush (v := 112) dX6_takesBack_3 rfl ?_
    refine v_icmp_ge (tgt := 26) dX6_takesBack_5 rfl (fun c1 => ?_) (fun c1 => ?_)
    · replace h := (if_pos c1).symm.trans h
      refine V.sub (ls' := [none, some (.int y1), none]) (And.intro rfl trivial) ?_
      exact hk _ h
    · replace h := (if_neg c1).symm.trans h
      refine v_aload_n dX6_takesBack_8 rfl ?_
      refine v_getr dX6_takesBack_9 flX6_7 sh_49 rfl ?_
      refine v_iload_n dX6_takesBack_12 rfl ?_
      refine v_aload_n dX6_takesBack_13 rfl ?_
      refine v_getr dX6_takesBack_14 flX6_19 sh_49 rfl ?_
      refine v_iload_n dX6_takesBack_17 rfl ?_
      obtain ⟨v2, e3, h⟩ := Option.bind_eq_some_iff.mp h
      refine v_ild e3 dX6_takesBack_18 sh_53 ?_
      obtain ⟨M4, e5, h⟩ := Option.bind_eq_some_iff.mp h
      refine v_ist e5 dX6_takesBack_19 sh_50 ?_
      refine v_iinc (v := 1) (ls1 := [some (.ref 49), some (.int y1), some (.int (y2 + (1 : Int32)))]) dX6_takesBack_20 rfl rfl (Nat.le_of_ble_eq_true rfl) rfl ?_
      refine v_goto (tgt := 2) dX6_takesBack_23 rfl ?_
      refine V.sub (ls' := [some (.ref 49), some (.int y1), some (.int (y2 + (1 : Int32)))]) (And.intro rfl (And.intro rfl (And.intro rfl trivial))) ?_
      exact ih _ _ h
set_option maxRecDepth 100000 in
set_option maxHeartbeats 4000000 in
theorem sX6_takesBack {g : Wo} {M : Mem} {x1 : Int32} {r : Int32 × Mem} (h : fX6_takesBack x1 M = some r) : Sp g kX6_takesBack 0 [.ref 49, .int x1] M (some (.int r.1)) r.2 := by
  rw [fX6_takesBack] at h
  refine Sp_intro (by decide) [some (.ref 49), some (.int x1), none] rfl (Nat.le_of_ble_eq_true rfl) ?_
  refine v_iconst (v := 0) dX6_takesBack_0 rfl ?_
  refine v_istore_n (ls1 := [some (.ref 49), some (.int x1), some (.int (0 : Int32))]) dX6_takesBack_1 (Nat.le_of_ble_eq_true rfl) rfl ?_
  refine V.sub (ls' := [some (.ref 49), some (.int x1), some (.int (0 : Int32))]) (And.intro rfl (And.intro rfl (And.intro rfl trivial))) ?_
  refine tX6_takesBack_2 (fun M6 h => ?_) FU _ _ h
  refine v_iload_n dX6_takesBack_26 rfl ?_
  replace h := Option.some.inj h; subst h
  exact v_iret rfl dX6_takesBack_27
