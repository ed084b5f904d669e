/-! ===== BentPlain.place(III)I ===== -/
def fX5_place (x1 : Int32) (x2 : Int32) (x3 : Int32) (M : Mem) : Option (Int32 × Mem) := (if (fX0_hasWalker x1 M) = 0 then ((fX5_tell (-1000000001 : Int32) M).bind fun w2 => some (w2.1, w2.2)) else (if (fX0_hasWay x2 x3 M) = 0 then ((fX5_tell (-1000000001 : Int32) M).bind fun w7 => some (w7.1, w7.2)) else ((ldW 1 x1).bind fun q5 => some ((M.1 q5 1), (setI M q5 1 (fX5_wayOf x2 x3))))))
set_option maxRecDepth 100000 in
set_option maxHeartbeats 4000000 in
theorem sX5_place {g : Wo} {M : Mem} {x1 : Int32} {x2 : Int32} {x3 : Int32} {r : Int32 × Mem} (h : fX5_place x1 x2 x3 M = some r) : Sp g kX5_place 2 [.ref 0, .int x1, .int x2, .int x3] M (some (.int r.1)) r.2 := by
  rw [fX5_place] at h
  refine Sp_intro (by decide) [some (.ref 0), some (.int x1), some (.int x2), some (.int x3), none, none] rfl (Nat.le_of_ble_eq_true rfl) ?_
  refine v_aload_n dX5_place_0 rfl ?_
  refine v_getr dX5_place_1 flX5_12 sh_0 rfl ?_
  refine v_iload_n dX5_place_4 rfl ?_
  refine v_callV (as := [.int x1]) (st := []) (sX0_hasWalker rfl) dX5_place_5 mlX5_126 (CRn (by decide) (by decide)) sh_1 rfl rfl rfl (Nat.le_of_ble_eq_true rfl) ?_
  refine v_if_eq (tgt := 23) dX5_place_8 rfl (fun c1 => ?_) (fun c1 => ?_)
  · replace h := (if_pos c1).symm.trans h
    refine v_aload_n dX5_place_23 rfl ?_
    refine v_ldc (v := -1000000001) dX5_place_24 w_175 ?_
    obtain ⟨w2, e3, h⟩ := Option.bind_eq_some_iff.mp h
    refine v_callV (as := [.int (-1000000001 : Int32)]) (st := []) (sX5_tell e3) dX5_place_26 mlX5_64 (CRn (by decide) (by decide)) sh_0 rfl rfl rfl (Nat.le_of_ble_eq_true rfl) ?_
    replace h := Option.some.inj h; subst h
    exact v_iret rfl dX5_place_29
  · replace h := (if_neg c1).symm.trans h
    refine v_aload_n dX5_place_11 rfl ?_
    refine v_getr dX5_place_12 flX5_12 sh_0 rfl ?_
    refine v_iload_n dX5_place_15 rfl ?_
    refine v_iload_n dX5_place_16 rfl ?_
    refine v_callV (as := [.int x2, .int x3]) (st := []) (sX0_hasWay rfl) dX5_place_17 mlX5_92 (CRn (by decide) (by decide)) sh_1 rfl rfl rfl (Nat.le_of_ble_eq_true rfl) ?_
    refine v_if_ne (tgt := 30) dX5_place_20 rfl (fun c4 => ?_) (fun c4 => ?_)
    · replace h := (if_neg c4).symm.trans h
      refine v_aload_n dX5_place_30 rfl ?_
      refine v_getr dX5_place_31 flX5_12 sh_0 rfl ?_
      refine v_getr dX5_place_34 flX5_129 sh_1 rfl ?_
      refine v_iload_n dX5_place_37 rfl ?_
      obtain ⟨q5, e6, h⟩ := Option.bind_eq_some_iff.mp h
      refine v_wld (r := 1) e6 dX5_place_38 isG_1 ?_
      refine v_astore (ls1 := [some (.ref 0), some (.int x1), some (.int x2), some (.int x3), some (.ref q5), none]) dX5_place_39 (Nat.le_of_ble_eq_true rfl) rfl ?_
      refine v_aload dX5_place_41 rfl ?_
      refine v_geti dX5_place_43 flX5_136 (ldW_is isG_1 e6) rfl ?_
      refine v_istore (ls1 := [some (.ref 0), some (.int x1), some (.int x2), some (.int x3), some (.ref q5), some (.int (M.1 q5 1))]) dX5_place_46 (Nat.le_of_ble_eq_true rfl) rfl ?_
      refine v_aload dX5_place_48 rfl ?_
      refine v_iload_n dX5_place_50 rfl ?_
      refine v_iload_n dX5_place_51 rfl ?_
      refine v_callS (as := [.int x2, .int x3]) (st := [.ref q5]) (sX5_wayOf rfl) dX5_place_52 mlX5_96 (CRn (by decide) (by decide)) rfl rfl (Nat.le_of_ble_eq_true rfl) ?_
      refine v_puti dX5_place_55 fpX5_136 (ldW_is isG_1 e6) rfl ?_
      refine v_iload dX5_place_58 rfl ?_
      replace h := Option.some.inj h; subst h
      exact v_iret rfl dX5_place_60
    · replace h := (if_pos c4).symm.trans h
      refine v_aload_n dX5_place_23 rfl ?_
      refine v_ldc (v := -1000000001) dX5_place_24 w_175 ?_
      obtain ⟨w7, e8, h⟩ := Option.bind_eq_some_iff.mp h
      refine v_callV (as := [.int (-1000000001 : Int32)]) (st := []) (sX5_tell e8) dX5_place_26 mlX5_64 (CRn (by decide) (by decide)) sh_0 rfl rfl rfl (Nat.le_of_ble_eq_true rfl) ?_
      replace h := Option.some.inj h; subst h
      exact v_iret rfl dX5_place_29
/-! ===== BentPlain.turn(II)I ===== -/
def fX5_turn (x1 : Int32) (x2 : Int32) (M : Mem) : Option (Int32 × Mem) := (if (fX0_hasWalker x1 M) = 0 then ((fX5_tell (-1000000001 : Int32) M).bind fun w2 => some (w2.1, w2.2)) else (if (fX5_isKind x2) = 0 then ((fX5_tell (-1000000001 : Int32) M).bind fun w7 => some (w7.1, w7.2)) else ((ldW 1 x1).bind fun q5 => some ((M.1 q5 0), (setI M q5 0 x2)))))
set_option maxRecDepth 100000 in
set_option maxHeartbeats 4000000 in
theorem sX5_turn {g : Wo} {M : Mem} {x1 : Int32} {x2 : Int32} {r : Int32 × Mem} (h : fX5_turn x1 x2 M = some r) : Sp g kX5_turn 1 [.ref 0, .int x1, .int x2] M (some (.int r.1)) r.2 := by
  rw [fX5_turn] at h
  refine Sp_intro (by decide) [some (.ref 0), some (.int x1), some (.int x2), none, none] rfl (Nat.le_of_ble_eq_true rfl) ?_
  refine v_aload_n dX5_turn_0 rfl ?_
  refine v_getr dX5_turn_1 flX5_12 sh_0 rfl ?_
  refine v_iload_n dX5_turn_4 rfl ?_
  refine v_callV (as := [.int x1]) (st := []) (sX0_hasWalker rfl) dX5_turn_5 mlX5_126 (CRn (by decide) (by decide)) sh_1 rfl rfl rfl (Nat.le_of_ble_eq_true rfl) ?_
  refine v_if_eq (tgt := 18) dX5_turn_8 rfl (fun c1 => ?_) (fun c1 => ?_)
  · replace h := (if_pos c1).symm.trans h
    refine v_aload_n dX5_turn_18 rfl ?_
    refine v_ldc (v := -1000000001) dX5_turn_19 w_175 ?_
    obtain ⟨w2, e3, h⟩ := Option.bind_eq_some_iff.mp h
    refine v_callV (as := [.int (-1000000001 : Int32)]) (st := []) (sX5_tell e3) dX5_turn_21 mlX5_64 (CRn (by decide) (by decide)) sh_0 rfl rfl rfl (Nat.le_of_ble_eq_true rfl) ?_
    replace h := Option.some.inj h; subst h
    exact v_iret rfl dX5_turn_24
  · replace h := (if_neg c1).symm.trans h
    refine v_iload_n dX5_turn_11 rfl ?_
    refine v_callS (as := [.int x2]) (st := []) (sX5_isKind rfl) dX5_turn_12 mlX5_117 (CRn (by decide) (by decide)) rfl rfl (Nat.le_of_ble_eq_true rfl) ?_
    refine v_if_ne (tgt := 25) dX5_turn_15 rfl (fun c4 => ?_) (fun c4 => ?_)
    · replace h := (if_neg c4).symm.trans h
      refine v_aload_n dX5_turn_25 rfl ?_
      refine v_getr dX5_turn_26 flX5_12 sh_0 rfl ?_
      refine v_getr dX5_turn_29 flX5_129 sh_1 rfl ?_
      refine v_iload_n dX5_turn_32 rfl ?_
      obtain ⟨q5, e6, h⟩ := Option.bind_eq_some_iff.mp h
      refine v_wld (r := 1) e6 dX5_turn_33 isG_1 ?_
      refine v_astore_n (ls1 := [some (.ref 0), some (.int x1), some (.int x2), some (.ref q5), none]) dX5_turn_34 (Nat.le_of_ble_eq_true rfl) rfl ?_
      refine v_aload_n dX5_turn_35 rfl ?_
      refine v_geti dX5_turn_36 flX5_133 (ldW_is isG_1 e6) rfl ?_
      refine v_istore (ls1 := [some (.ref 0), some (.int x1), some (.int x2), some (.ref q5), some (.int (M.1 q5 0))]) dX5_turn_39 (Nat.le_of_ble_eq_true rfl) rfl ?_
      refine v_aload_n dX5_turn_41 rfl ?_
      refine v_iload_n dX5_turn_42 rfl ?_
      refine v_puti dX5_turn_43 fpX5_133 (ldW_is isG_1 e6) rfl ?_
      refine v_iload dX5_turn_46 rfl ?_
      replace h := Option.some.inj h; subst h
      exact v_iret rfl dX5_turn_48
    · replace h := (if_pos c4).symm.trans h
      refine v_aload_n dX5_turn_18 rfl ?_
      refine v_ldc (v := -1000000001) dX5_turn_19 w_175 ?_
      obtain ⟨w7, e8, h⟩ := Option.bind_eq_some_iff.mp h
      refine v_callV (as := [.int (-1000000001 : Int32)]) (st := []) (sX5_tell e8) dX5_turn_21 mlX5_64 (CRn (by decide) (by decide)) sh_0 rfl rfl rfl (Nat.le_of_ble_eq_true rfl) ?_
      replace h := Option.some.inj h; subst h
      exact v_iret rfl dX5_turn_24
/-! ===== BentPlain$Walker.isUnder(II)Z ===== -/
def fX4_isUnder_4 (kx : Option Int32) (y1 : Int32) : Nat → Int32 → Int32 → Option Int32
  | 0, _, _ => none
  | n + 1, y2, y3 => (if (6 : Int32) ≤ y3 then kx else (if y2 = y1 then some (1 : Int32) else (fX4_isUnder_4 kx y1 n (fX4_above y2) (y3 + (1 : Int32)))))
def fX4_isUnder (x0 : Int32) (x1 : Int32) : Option Int32 := (fX4_isUnder_4 (some (0 : Int32)) x1 FU x0 (0 : Int32))
set_option maxRecDepth 100000 in
set_option maxHeartbeats 4000000 in
theorem tX4_isUnder_4 {g : Wo} {kx : Option Int32} {y1 : Int32} {M : Mem} {r : Int32} (hk : kx = some r → V g kX4_isUnder (jm g 1 (some (.int r)) M) 28 [none, none, none, none] [] M) : ∀ (n : Nat) (y2 : Int32) (y3 : Int32), fX4_isUnder_4 kx y1 n y2 y3 = some r → V g kX4_isUnder (jm g 1 (some (.int r)) M) 4 [none, some (.int y1), some (.int y2), some (.int y3)] [] M := by
  intro n
  induction n with
  | zero =>
    intro y2 y3 h
    rw [fX4_isUnder_4] at h
    cases h
  | succ n ih =>
    intro y2 y3 h
    rw [fX4_isUnder_4] at h
    refine v_iload_n dX4_isUnder_4 rfl ?_
    refine v_bipush (v := 6) dX4_isUnder_5 rfl ?_
    refine v_icmp_ge (tgt := 28) dX4_isUnder_7 rfl (fun c1 => ?_) (fun c1 => ?_)
    · replace h := (if_pos c1).symm.trans h
      refine V.sub (ls' := [none, none, none, none]) trivial ?_
      exact hk h
    · replace h := (if_neg c1).symm.trans h
      refine v_iload_n dX4_isUnder_10 rfl ?_
      refine v_iload_n dX4_isUnder_11 rfl ?_
      refine v_icmp_ne (tgt := 17) dX4_isUnder_12 rfl (fun c2 => ?_) (fun c2 => ?_)
      · replace h := (if_neg c2).symm.trans h
        refine v_iload_n dX4_isUnder_17 rfl ?_
        refine v_callS (as := [.int y2]) (st := []) (sX4_above rfl) dX4_isUnder_18 mlX4_54 (CRn (by decide) (by decide)) rfl rfl (Nat.le_of_ble_eq_true rfl) ?_
        refine v_istore_n (ls1 := [none, some (.int y1), some (.int (fX4_above y2)), some (.int y3)]) dX4_isUnder_21 (Nat.le_of_ble_eq_true rfl) rfl ?_
        refine v_iinc (v := 1) (ls1 := [none, some (.int y1), some (.int (fX4_above y2)), some (.int (y3 + (1 : Int32)))]) dX4_isUnder_22 rfl rfl (Nat.le_of_ble_eq_true rfl) rfl ?_
        refine v_goto (tgt := 4) dX4_isUnder_25 rfl ?_
        refine V.sub (ls' := [none, some (.int y1), some (.int (fX4_above y2)), some (.int (y3 + (1 : Int32)))]) (And.intro rfl (And.intro rfl (And.intro rfl trivial))) ?_
        exact ih _ _ h
      · replace h := (if_pos c2).symm.trans h
        refine v_iconst (v := 1) dX4_isUnder_15 rfl ?_
        replace h := Option.some.inj h; subst h
        exact v_zret rfl (z_nar z_1) dX4_isUnder_16
set_option maxRecDepth 100000 in
set_option maxHeartbeats 4000000 in
theorem sX4_isUnder {g : Wo} {M : Mem} {x0 : Int32} {x1 : Int32} {r : Int32} (h : fX4_isUnder x0 x1 = some r) : Sp g kX4_isUnder 1 [.int x0, .int x1] M (some (.int r)) M := by
  rw [fX4_isUnder] at h
  refine Sp_intro (by decide) [some (.int x0), some (.int x1), none, none] rfl (Nat.le_of_ble_eq_true rfl) ?_
  refine v_iload_n dX4_isUnder_0 rfl ?_
  refine v_istore_n (ls1 := [some (.int x0), some (.int x1), some (.int x0), none]) dX4_isUnder_1 (Nat.le_of_ble_eq_true rfl) rfl ?_
  refine v_iconst (v := 0) dX4_isUnder_2 rfl ?_
  refine v_istore_n (ls1 := [some (.int x0), some (.int x1), some (.int x0), some (.int (0 : Int32))]) dX4_isUnder_3 (Nat.le_of_ble_eq_true rfl) rfl ?_
  refine V.sub (ls' := [none, some (.int x1), some (.int x0), some (.int (0 : Int32))]) (And.intro rfl (And.intro rfl (And.intro rfl trivial))) ?_
  refine tX4_isUnder_4 (fun h => ?_) FU _ _ h
  refine v_iconst (v := 0) dX4_isUnder_28 rfl ?_
  replace h := Option.some.inj h; subst h
  exact v_zret rfl (z_nar z_0) dX4_isUnder_29
/-! ===== BentPlain.as(II)I ===== -/
def fX5_as (x1 : Int32) (x2 : Int32) (M : Mem) : Option (Int32 × Mem) := (if (fX0_hasWalker x1 M) = 0 then ((fX5_tell (-1000000001 : Int32) M).bind fun w2 => some (w2.1, w2.2)) else (if (fX5_isKind x2) = 0 then ((fX5_tell (-1000000001 : Int32) M).bind fun w12 => some (w12.1, w12.2)) else ((ldW 1 x1).bind fun q5 => ((fX4_isUnder (M.1 q5 0) x2).bind fun v7 => (if v7 = 0 then ((fX5_tell (-1000000003 : Int32) M).bind fun w10 => some (w10.1, w10.2)) else some ((M.1 q5 2), M))))))
set_option maxRecDepth 100000 in
set_option maxHeartbeats 4000000 in
theorem sX5_as {g : Wo} {M : Mem} {x1 : Int32} {x2 : Int32} {r : Int32 × Mem} (h : fX5_as x1 x2 M = some r) : Sp g kX5_as 2 [.ref 0, .int x1, .int x2] M (some (.int r.1)) r.2 := by
  rw [fX5_as] at h
  refine Sp_intro (by decide) [some (.ref 0), some (.int x1), some (.int x2), none] rfl (Nat.le_of_ble_eq_true rfl) ?_
  refine v_aload_n dX5_as_0 rfl ?_
  refine v_getr dX5_as_1 flX5_12 sh_0 rfl ?_
  refine v_iload_n dX5_as_4 rfl ?_
  refine v_callV (as := [.int x1]) (st := []) (sX0_hasWalker rfl) dX5_as_5 mlX5_126 (CRn (by decide) (by decide)) sh_1 rfl rfl rfl (Nat.le_of_ble_eq_true rfl) ?_
  refine v_if_eq (tgt := 18) dX5_as_8 rfl (fun c1 => ?_) (fun c1 => ?_)
  · replace h := (if_pos c1).symm.trans h
    refine v_aload_n dX5_as_18 rfl ?_
    refine v_ldc (v := -1000000001) dX5_as_19 w_175 ?_
    obtain ⟨w2, e3, h⟩ := Option.bind_eq_some_iff.mp h
    refine v_callV (as := [.int (-1000000001 : Int32)]) (st := []) (sX5_tell e3) dX5_as_21 mlX5_64 (CRn (by decide) (by decide)) sh_0 rfl rfl rfl (Nat.le_of_ble_eq_true rfl) ?_
    replace h := Option.some.inj h; subst h
    exact v_iret rfl dX5_as_24
  · replace h := (if_neg c1).symm.trans h
    refine v_iload_n dX5_as_11 rfl ?_
    refine v_callS (as := [.int x2]) (st := []) (sX5_isKind rfl) dX5_as_12 mlX5_117 (CRn (by decide) (by decide)) rfl rfl (Nat.le_of_ble_eq_true rfl) ?_
    refine v_if_ne (tgt := 25) dX5_as_15 rfl (fun c4 => ?_) (fun c4 => ?_)
    · replace h := (if_neg c4).symm.trans h
      refine v_aload_n dX5_as_25 rfl ?_
      refine v_getr dX5_as_26 flX5_12 sh_0 rfl ?_
      refine v_getr dX5_as_29 flX5_129 sh_1 rfl ?_
      refine v_iload_n dX5_as_32 rfl ?_
      obtain ⟨q5, e6, h⟩ := Option.bind_eq_some_iff.mp h
      refine v_wld (r := 1) e6 dX5_as_33 isG_1 ?_
      refine v_astore_n (ls1 := [some (.ref 0), some (.int x1), some (.int x2), some (.ref q5)]) dX5_as_34 (Nat.le_of_ble_eq_true rfl) rfl ?_
      refine v_aload_n dX5_as_35 rfl ?_
      refine v_geti dX5_as_36 flX5_133 (ldW_is isG_1 e6) rfl ?_
      refine v_iload_n dX5_as_39 rfl ?_
      obtain ⟨v7, e8, h⟩ := Option.bind_eq_some_iff.mp h
      refine v_callS (as := [.int (M.1 q5 0), .int x2]) (st := []) (sX4_isUnder e8) dX5_as_40 mlX5_154 (CRn (by decide) (by decide)) rfl rfl (Nat.le_of_ble_eq_true rfl) ?_
      refine v_if_ne (tgt := 53) dX5_as_43 rfl (fun c9 => ?_) (fun c9 => ?_)
      · replace h := (if_neg c9).symm.trans h
        refine v_aload_n dX5_as_53 rfl ?_
        refine v_geti dX5_as_54 flX5_145 (ldW_is isG_1 e6) rfl ?_
        replace h := Option.some.inj h; subst h
        exact v_iret rfl dX5_as_57
      · replace h := (if_pos c9).symm.trans h
        refine v_aload_n dX5_as_46 rfl ?_
        refine v_ldc (v := -1000000003) dX5_as_47 w_314 ?_
        obtain ⟨w10, e11, h⟩ := Option.bind_eq_some_iff.mp h
        refine v_callV (as := [.int (-1000000003 : Int32)]) (st := []) (sX5_tell e11) dX5_as_49 mlX5_64 (CRn (by decide) (by decide)) sh_0 rfl rfl rfl (Nat.le_of_ble_eq_true rfl) ?_
        replace h := Option.some.inj h; subst h
        exact v_iret rfl dX5_as_52
    · replace h := (if_pos c4).symm.trans h
      refine v_aload_n dX5_as_18 rfl ?_
      refine v_ldc (v := -1000000001) dX5_as_19 w_175 ?_
      obtain ⟨w12, e13, h⟩ := Option.bind_eq_some_iff.mp h
      refine v_callV (as := [.int (-1000000001 : Int32)]) (st := []) (sX5_tell e13) dX5_as_21 mlX5_64 (CRn (by decide) (by decide)) sh_0 rfl rfl rfl (Nat.le_of_ble_eq_true rfl) ?_
      replace h := Option.some.inj h; subst h
      exact v_iret rfl dX5_as_24
/-! ===== BentPlain.turned(II)I ===== -/
def fX5_turned (x0 : Int32) (x1 : Int32) : Int32 := (fX5_wayOf (fX5_fieldOf x0) (((fX5_headingOf x0) + x1) - ((fX5_headingOf x0) + x1) / (4 : Int32) * (4 : Int32)))
set_option maxRecDepth 100000 in
set_option maxHeartbeats 4000000 in
theorem sX5_turned {g : Wo} {M : Mem} {x0 : Int32} {x1 : Int32} {r : Int32} (h : fX5_turned x0 x1 = r) : Sp g kX5_turned 1 [.int x0, .int x1] M (some (.int r)) M := by
  rw [fX5_turned] at h
  refine Sp_intro (by decide) [some (.int x0), some (.int x1)] rfl (Nat.le_of_ble_eq_true rfl) ?_
  refine v_iload_n dX5_turned_0 rfl ?_
  refine v_callS (as := [.int x0]) (st := []) (sX5_fieldOf rfl) dX5_turned_1 mlX5_139 (CRn (by decide) (by decide)) rfl rfl (Nat.le_of_ble_eq_true rfl) ?_
  refine v_iload_n dX5_turned_4 rfl ?_
  refine v_callS (as := [.int x0]) (st := [.int (fX5_fieldOf x0)]) (sX5_headingOf rfl) dX5_turned_5 mlX5_142 (CRn (by decide) (by decide)) rfl rfl (Nat.le_of_ble_eq_true rfl) ?_
  refine v_iload_n dX5_turned_8 rfl ?_
  refine v_iadd dX5_turned_9 ?_
  refine v_iconst (v := 4) dX5_turned_10 rfl ?_
  refine v_irem dX5_turned_11 (by decide) ?_
  refine v_callS (as := [.int (fX5_fieldOf x0), .int (((fX5_headingOf x0) + x1) - ((fX5_headingOf x0) + x1) / (4 : Int32) * (4 : Int32))]) (st := []) (sX5_wayOf rfl) dX5_turned_12 mlX5_96 (CRn (by decide) (by decide)) rfl rfl (Nat.le_of_ble_eq_true rfl) ?_
  subst h
  exact v_iret rfl dX5_turned_15
/-! ===== BentPlain$Ground.goOn(I)I ===== -/
def fX0_goOn (x1 : Int32) (M : Mem) : Option Int32 := ((fX0_gluedTo x1 M).bind fun v1 => (if v1 = (-1 : Int32) then some (-1 : Int32) else some (fX5_turned v1 (2 : Int32))))
set_option maxRecDepth 100000 in
set_option maxHeartbeats 4000000 in
theorem sX0_goOn {g : Wo} {M : Mem} {x1 : Int32} {r : Int32} (h : fX0_goOn x1 M = some r) : Sp g kX0_goOn 2 [.ref 1, .int x1] M (some (.int r)) M := by
  rw [fX0_goOn] at h
  refine Sp_intro (by decide) [some (.ref 1), some (.int x1), none] rfl (Nat.le_of_ble_eq_true rfl) ?_
  refine v_aload_n dX0_goOn_0 rfl ?_
  refine v_iload_n dX0_goOn_1 rfl ?_
  obtain ⟨v1, e2, h⟩ := Option.bind_eq_some_iff.mp h
  refine v_callV (as := [.int x1]) (st := []) (sX0_gluedTo e2) dX0_goOn_2 mlX0_58 (CRn (by decide) (by decide)) sh_1 rfl rfl rfl (Nat.le_of_ble_eq_true rfl) ?_
  refine v_istore_n (ls1 := [some (.ref 1), some (.int x1), some (.int v1)]) dX0_goOn_5 (Nat.le_of_ble_eq_true rfl) rfl ?_
  refine v_iload_n dX0_goOn_6 rfl ?_
  refine v_iconst (v := -1) dX0_goOn_7 rfl ?_
  refine v_icmp_ne (tgt := 15) dX0_goOn_8 rfl (fun c3 => ?_) (fun c3 => ?_)
  · replace h := (if_neg c3).symm.trans h
    refine v_iload_n dX0_goOn_15 rfl ?_
    refine v_iconst (v := 2) dX0_goOn_16 rfl ?_
    refine v_callN (as := [.int v1, .int (2 : Int32)]) (st := []) (sX5_turned rfl) dX0_goOn_17 mlX0_74 (CRn (by decide) (by decide)) rfl rfl (Nat.le_of_ble_eq_true rfl) ?_
    replace h := Option.some.inj h; subst h
    exact v_iret rfl dX0_goOn_20
  · replace h := (if_pos c3).symm.trans h
    refine v_iconst (v := -1) dX0_goOn_11 rfl ?_
    refine v_goto (tgt := 20) dX0_goOn_12 rfl ?_
    replace h := Option.some.inj h; subst h
    exact v_iret rfl dX0_goOn_20
/-! ===== BentPlain$Walker.quartersAtBump(I)I ===== -/
def fX4_quartersAtBump : Nat → Int32 → Option Int32
  | 0, _ => none
  | n + 1, x0 => (if x0 = (0 : Int32) then some (2 : Int32) else (if x0 = (1 : Int32) then some (3 : Int32) else (if x0 = (2 : Int32) then ((fX4_quartersAtBump n (fX4_above x0)).bind fun v4 => some v4) else (if x0 = (3 : Int32) then ((fX4_quartersAtBump n (fX4_above x0)).bind fun v7 => some v7) else (if x0 = (4 : Int32) then ((fX4_quartersAtBump n (fX4_above x0)).bind fun v10 => some (v10 + (3 : Int32))) else (if x0 = (5 : Int32) then ((fX4_quartersAtBump n (fX4_above x0)).bind fun v13 => some ((2 : Int32) * v13)) else ((fX4_quartersAtBump n (fX4_above x0)).bind fun v15 => some v15)))))))
set_option maxRecDepth 100000 in
set_option maxHeartbeats 4000000 in
theorem sX4_quartersAtBump {g : Wo} {M : Mem} : ∀ {n : Nat} {x0 : Int32} {r : Int32}, fX4_quartersAtBump n x0 = some r → Sp g kX4_quartersAtBump n [.int x0] M (some (.int r)) M := by
  intro n
  induction n with
  | zero =>
    intro x0 r h
    rw [fX4_quartersAtBump] at h
    cases h
  | succ n ihr =>
    intro x0 r h
    rw [fX4_quartersAtBump] at h
    refine Sp_intro (by decide) [some (.int x0)] rfl (Nat.le_of_ble_eq_true rfl) ?_
    refine v_iload_n dX4_quartersAtBump_0 rfl ?_
    by_cases c1 : x0 = (0 : Int32)
    · replace h := (if_pos c1).symm.trans h
      refine v_tabIn (off := 39) (tgt := 40) dX4_quartersAtBump_1 (by rw [c1]; decide) (by rw [c1]; decide) (by rw [c1]; decide) rfl ?_
      refine v_iconst (v := 2) dX4_quartersAtBump_40 rfl ?_
      replace h := Option.some.inj h; subst h
      exact v_iret rfl dX4_quartersAtBump_41
    · replace h := (if_neg c1).symm.trans h
      by_cases c2 : x0 = (1 : Int32)
      · replace h := (if_pos c2).symm.trans h
        refine v_tabIn (off := 41) (tgt := 42) dX4_quartersAtBump_1 (by rw [c2]; decide) (by rw [c2]; decide) (by rw [c2]; decide) rfl ?_
        refine v_iconst (v := 3) dX4_quartersAtBump_42 rfl ?_
        replace h := Option.some.inj h; subst h
        exact v_iret rfl dX4_quartersAtBump_43
      · replace h := (if_neg c2).symm.trans h
        by_cases c3 : x0 = (2 : Int32)
        · replace h := (if_pos c3).symm.trans h
          refine v_tabIn (off := 63) (tgt := 64) dX4_quartersAtBump_1 (by rw [c3]; decide) (by rw [c3]; decide) (by rw [c3]; decide) rfl ?_
          refine v_iload_n dX4_quartersAtBump_64 rfl ?_
          refine v_callS (as := [.int x0]) (st := []) (sX4_above rfl) dX4_quartersAtBump_65 mlX4_54 (CRn (by omega) (by decide)) rfl rfl (Nat.le_of_ble_eq_true rfl) ?_
          obtain ⟨v4, e5, h⟩ := Option.bind_eq_some_iff.mp h
          refine v_callS (as := [.int (fX4_above x0)]) (st := []) (ihr e5) dX4_quartersAtBump_68 mlX4_30 (CRn (by omega) (by decide)) rfl rfl (Nat.le_of_ble_eq_true rfl) ?_
          replace h := Option.some.inj h; subst h
          exact v_iret rfl dX4_quartersAtBump_71
        · replace h := (if_neg c3).symm.trans h
          by_cases c6 : x0 = (3 : Int32)
          · replace h := (if_pos c6).symm.trans h
            refine v_tabIn (off := 63) (tgt := 64) dX4_quartersAtBump_1 (by rw [c6]; decide) (by rw [c6]; decide) (by rw [c6]; decide) rfl ?_
            refine v_iload_n dX4_quartersAtBump_64 rfl ?_
            refine v_callS (as := [.int x0]) (st := []) (sX4_above rfl) dX4_quartersAtBump_65 mlX4_54 (CRn (by omega) (by decide)) rfl rfl (Nat.le_of_ble_eq_true rfl) ?_
            obtain ⟨v7, e8, h⟩ := Option.bind_eq_some_iff.mp h
            refine v_callS (as := [.int (fX4_above x0)]) (st := []) (ihr e8) dX4_quartersAtBump_68 mlX4_30 (CRn (by omega) (by decide)) rfl rfl (Nat.le_of_ble_eq_true rfl) ?_
            replace h := Option.some.inj h; subst h
            exact v_iret rfl dX4_quartersAtBump_71
          · replace h := (if_neg c6).symm.trans h
            by_cases c9 : x0 = (4 : Int32)
            · replace h := (if_pos c9).symm.trans h
              refine v_tabIn (off := 43) (tgt := 44) dX4_quartersAtBump_1 (by rw [c9]; decide) (by rw [c9]; decide) (by rw [c9]; decide) rfl ?_
              refine v_iload_n dX4_quartersAtBump_44 rfl ?_
              refine v_callS (as := [.int x0]) (st := []) (sX4_above rfl) dX4_quartersAtBump_45 mlX4_54 (CRn (by omega) (by decide)) rfl rfl (Nat.le_of_ble_eq_true rfl) ?_
              obtain ⟨v10, e11, h⟩ := Option.bind_eq_some_iff.mp h
              refine v_callS (as := [.int (fX4_above x0)]) (st := []) (ihr e11) dX4_quartersAtBump_48 mlX4_30 (CRn (by omega) (by decide)) rfl rfl (Nat.le_of_ble_eq_true rfl) ?_
              refine v_iconst (v := 3) dX4_quartersAtBump_51 rfl ?_
              refine v_iadd dX4_quartersAtBump_52 ?_
              replace h := Option.some.inj h; subst h
              exact v_iret rfl dX4_quartersAtBump_53
            · replace h := (if_neg c9).symm.trans h
              by_cases c12 : x0 = (5 : Int32)
              · replace h := (if_pos c12).symm.trans h
                refine v_tabIn (off := 53) (tgt := 54) dX4_quartersAtBump_1 (by rw [c12]; decide) (by rw [c12]; decide) (by rw [c12]; decide) rfl ?_
                refine v_iconst (v := 2) dX4_quartersAtBump_54 rfl ?_
                refine v_iload_n dX4_quartersAtBump_55 rfl ?_
                refine v_callS (as := [.int x0]) (st := [.int (2 : Int32)]) (sX4_above rfl) dX4_quartersAtBump_56 mlX4_54 (CRn (by omega) (by decide)) rfl rfl (Nat.le_of_ble_eq_true rfl) ?_
                obtain ⟨v13, e14, h⟩ := Option.bind_eq_some_iff.mp h
                refine v_callS (as := [.int (fX4_above x0)]) (st := [.int (2 : Int32)]) (ihr e14) dX4_quartersAtBump_59 mlX4_30 (CRn (by omega) (by decide)) rfl rfl (Nat.le_of_ble_eq_true rfl) ?_
                refine v_imul dX4_quartersAtBump_62 ?_
                replace h := Option.some.inj h; subst h
                exact v_iret rfl dX4_quartersAtBump_63
              · replace h := (if_neg c12).symm.trans h
                refine v_tabOut (tgt := 64) dX4_quartersAtBump_1 ?_ rfl ?_
                · have o0 := i32ne c1
                  have o1 := i32ne c2
                  have o2 := i32ne c3
                  have o3 := i32ne c6
                  have o4 := i32ne c9
                  have o5 := i32ne c12
                  simp only [i32l_0, i32l_1, i32l_2, i32l_3, i32l_4, i32l_5] at o0 o1 o2 o3 o4 o5
                  omega
                · refine v_iload_n dX4_quartersAtBump_64 rfl ?_
                  refine v_callS (as := [.int x0]) (st := []) (sX4_above rfl) dX4_quartersAtBump_65 mlX4_54 (CRn (by omega) (by decide)) rfl rfl (Nat.le_of_ble_eq_true rfl) ?_
                  obtain ⟨v15, e16, h⟩ := Option.bind_eq_some_iff.mp h
                  refine v_callS (as := [.int (fX4_above x0)]) (st := []) (ihr e16) dX4_quartersAtBump_68 mlX4_30 (CRn (by omega) (by decide)) rfl rfl (Nat.le_of_ble_eq_true rfl) ?_
                  replace h := Option.some.inj h; subst h
                  exact v_iret rfl dX4_quartersAtBump_71
/-! ===== BentPlain$Walker.quartersOnComing(III)I ===== -/
def fX4_quartersOnComing : Nat → Int32 → Int32 → Int32 → Option Int32
  | 0, _, _, _ => none
  | n + 1, x0, x1, x2 => (if x0 = (0 : Int32) then some (0 : Int32) else (if x0 = (1 : Int32) then ((fX4_quartersOnComing n (fX4_above x0) x1 x2).bind fun v3 => some v3) else (if x0 = (2 : Int32) then (if x1 < (5 : Int32) then ((fX4_quartersOnComing n (fX4_above x0) x1 x2).bind fun v7 => some v7) else some (1 : Int32)) else (if x0 = (3 : Int32) then (if (x2 - x2 / (3 : Int32) * (3 : Int32)) = 0 then some (3 : Int32) else ((fX4_quartersOnComing n (fX4_above x0) x1 x2).bind fun v11 => some v11)) else (if x0 = (4 : Int32) then ((fX4_quartersOnComing n (fX4_above x0) x1 x2).bind fun v14 => some v14) else (if x0 = (5 : Int32) then ((fX4_quartersOnComing n (fX4_above x0) x1 x2).bind fun v17 => some (v17 + (if (x2 - x2 / (2 : Int32) * (2 : Int32)) = 0 then (0 : Int32) else (1 : Int32)))) else ((fX4_quartersOnComing n (fX4_above x0) x1 x2).bind fun v20 => some v20)))))))
set_option maxRecDepth 100000 in
set_option maxHeartbeats 4000000 in
theorem sX4_quartersOnComing {g : Wo} {M : Mem} : ∀ {n : Nat} {x0 : Int32} {x1 : Int32} {x2 : Int32} {r : Int32}, fX4_quartersOnComing n x0 x1 x2 = some r → Sp g kX4_quartersOnComing n [.int x0, .int x1, .int x2] M (some (.int r)) M := by
  intro n
  induction n with
  | zero =>
    intro x0 x1 x2 r h
    rw [fX4_quartersOnComing] at h
    cases h
  | succ n ihr =>
    intro x0 x1 x2 r h
    rw [fX4_quartersOnComing] at h
    refine Sp_intro (by decide) [some (.int x0), some (.int x1), some (.int x2)] rfl (Nat.le_of_ble_eq_true rfl) ?_
    refine v_iload_n dX4_quartersOnComing_0 rfl ?_
    by_cases c1 : x0 = (0 : Int32)
    · replace h := (if_pos c1).symm.trans h
      refine v_tabIn (off := 39) (tgt := 40) dX4_quartersOnComing_1 (by rw [c1]; decide) (by rw [c1]; decide) (by rw [c1]; decide) rfl ?_
      refine v_iconst (v := 0) dX4_quartersOnComing_40 rfl ?_
      replace h := Option.some.inj h; subst h
      exact v_iret rfl dX4_quartersOnComing_41
    · replace h := (if_neg c1).symm.trans h
      by_cases c2 : x0 = (1 : Int32)
      · replace h := (if_pos c2).symm.trans h
        refine v_tabIn (off := 102) (tgt := 103) dX4_quartersOnComing_1 (by rw [c2]; decide) (by rw [c2]; decide) (by rw [c2]; decide) rfl ?_
        refine v_iload_n dX4_quartersOnComing_103 rfl ?_
        refine v_callS (as := [.int x0]) (st := []) (sX4_above rfl) dX4_quartersOnComing_104 mlX4_54 (CRn (by omega) (by decide)) rfl rfl (Nat.le_of_ble_eq_true rfl) ?_
        refine v_iload_n dX4_quartersOnComing_107 rfl ?_
        refine v_iload_n dX4_quartersOnComing_108 rfl ?_
        obtain ⟨v3, e4, h⟩ := Option.bind_eq_some_iff.mp h
        refine v_callS (as := [.int (fX4_above x0), .int x1, .int x2]) (st := []) (ihr e4) dX4_quartersOnComing_109 mlX4_46 (CRn (by omega) (by decide)) rfl rfl (Nat.le_of_ble_eq_true rfl) ?_
        replace h := Option.some.inj h; subst h
        exact v_iret rfl dX4_quartersOnComing_112
      · replace h := (if_neg c2).symm.trans h
        by_cases c5 : x0 = (2 : Int32)
        · replace h := (if_pos c5).symm.trans h
          refine v_tabIn (off := 41) (tgt := 42) dX4_quartersOnComing_1 (by rw [c5]; decide) (by rw [c5]; decide) (by rw [c5]; decide) rfl ?_
          refine v_iload_n dX4_quartersOnComing_42 rfl ?_
          refine v_iconst (v := 5) dX4_quartersOnComing_43 rfl ?_
          refine v_icmp_lt (tgt := 51) dX4_quartersOnComing_44 rfl (fun c6 => ?_) (fun c6 => ?_)
          · replace h := (if_pos c6).symm.trans h
            refine v_iload_n dX4_quartersOnComing_51 rfl ?_
            refine v_callS (as := [.int x0]) (st := []) (sX4_above rfl) dX4_quartersOnComing_52 mlX4_54 (CRn (by omega) (by decide)) rfl rfl (Nat.le_of_ble_eq_true rfl) ?_
            refine v_iload_n dX4_quartersOnComing_55 rfl ?_
            refine v_iload_n dX4_quartersOnComing_56 rfl ?_
            obtain ⟨v7, e8, h⟩ := Option.bind_eq_some_iff.mp h
            refine v_callS (as := [.int (fX4_above x0), .int x1, .int x2]) (st := []) (ihr e8) dX4_quartersOnComing_57 mlX4_46 (CRn (by omega) (by decide)) rfl rfl (Nat.le_of_ble_eq_true rfl) ?_
            replace h := Option.some.inj h; subst h
            exact v_iret rfl dX4_quartersOnComing_60
          · replace h := (if_neg c6).symm.trans h
            refine v_iconst (v := 1) dX4_quartersOnComing_47 rfl ?_
            refine v_goto (tgt := 60) dX4_quartersOnComing_48 rfl ?_
            replace h := Option.some.inj h; subst h
            exact v_iret rfl dX4_quartersOnComing_60
        · replace h := (if_neg c5).symm.trans h
          by_cases c9 : x0 = (3 : Int32)
          · replace h := (if_pos c9).symm.trans h
            refine v_tabIn (off := 60) (tgt := 61) dX4_quartersOnComing_1 (by rw [c9]; decide) (by rw [c9]; decide) (by rw [c9]; decide) rfl ?_
            refine v_iload_n dX4_quartersOnComing_61 rfl ?_
            refine v_iconst (v := 3) dX4_quartersOnComing_62 rfl ?_
            refine v_irem dX4_quartersOnComing_63 (by decide) ?_
            refine v_if_ne (tgt := 71) dX4_quartersOnComing_64 rfl (fun c10 => ?_) (fun c10 => ?_)
            · replace h := (if_neg c10).symm.trans h
              refine v_iload_n dX4_quartersOnComing_71 rfl ?_
              refine v_callS (as := [.int x0]) (st := []) (sX4_above rfl) dX4_quartersOnComing_72 mlX4_54 (CRn (by omega) (by decide)) rfl rfl (Nat.le_of_ble_eq_true rfl) ?_
              refine v_iload_n dX4_quartersOnComing_75 rfl ?_
              refine v_iload_n dX4_quartersOnComing_76 rfl ?_
              obtain ⟨v11, e12, h⟩ := Option.bind_eq_some_iff.mp h
              refine v_callS (as := [.int (fX4_above x0), .int x1, .int x2]) (st := []) (ihr e12) dX4_quartersOnComing_77 mlX4_46 (CRn (by omega) (by decide)) rfl rfl (Nat.le_of_ble_eq_true rfl) ?_
              replace h := Option.some.inj h; subst h
              exact v_iret rfl dX4_quartersOnComing_80
            · replace h := (if_pos c10).symm.trans h
              refine v_iconst (v := 3) dX4_quartersOnComing_67 rfl ?_
              refine v_goto (tgt := 80) dX4_quartersOnComing_68 rfl ?_
              replace h := Option.some.inj h; subst h
              exact v_iret rfl dX4_quartersOnComing_80
          · replace h := (if_neg c9).symm.trans h
            by_cases c13 : x0 = (4 : Int32)
            · replace h := (if_pos c13).symm.trans h
              refine v_tabIn (off := 102) (tgt := 103) dX4_quartersOnComing_1 (by rw [c13]; decide) (by rw [c13]; decide) (by rw [c13]; decide) rfl ?_
              refine v_iload_n dX4_quartersOnComing_103 rfl ?_
              refine v_callS (as := [.int x0]) (st := []) (sX4_above rfl) dX4_quartersOnComing_104 mlX4_54 (CRn (by omega) (by decide)) rfl rfl (Nat.le_of_ble_eq_true rfl) ?_
              refine v_iload_n dX4_quartersOnComing_107 rfl ?_
              refine v_iload_n dX4_quartersOnComing_108 rfl ?_
              obtain ⟨v14, e15, h⟩ := Option.bind_eq_some_iff.mp h
              refine v_callS (as := [.int (fX4_above x0), .int x1, .int x2]) (st := []) (ihr e15) dX4_quartersOnComing_109 mlX4_46 (CRn (by omega) (by decide)) rfl rfl (Nat.le_of_ble_eq_true rfl) ?_
              replace h := Option.some.inj h; subst h
              exact v_iret rfl dX4_quartersOnComing_112
            · replace h := (if_neg c13).symm.trans h
              by_cases c16 : x0 = (5 : Int32)
              · replace h := (if_pos c16).symm.trans h
                refine v_tabIn (off := 80) (tgt := 81) dX4_quartersOnComing_1 (by rw [c16]; decide) (by rw [c16]; decide) (by rw [c16]; decide) rfl ?_
                refine v_iload_n dX4_quartersOnComing_81 rfl ?_
                refine v_callS (as := [.int x0]) (st := []) (sX4_above rfl) dX4_quartersOnComing_82 mlX4_54 (CRn (by omega) (by decide)) rfl rfl (Nat.le_of_ble_eq_true rfl) ?_
                refine v_iload_n dX4_quartersOnComing_85 rfl ?_
                refine v_iload_n dX4_quartersOnComing_86 rfl ?_
                obtain ⟨v17, e18, h⟩ := Option.bind_eq_some_iff.mp h
                refine v_callS (as := [.int (fX4_above x0), .int x1, .int x2]) (st := []) (ihr e18) dX4_quartersOnComing_87 mlX4_46 (CRn (by omega) (by decide)) rfl rfl (Nat.le_of_ble_eq_true rfl) ?_
                refine v_iload_n dX4_quartersOnComing_90 rfl ?_
                refine v_iconst (v := 2) dX4_quartersOnComing_91 rfl ?_
                refine v_irem dX4_quartersOnComing_92 (by decide) ?_
                have hJ : V g kX4_quartersOnComing (jm g (n + 1) (some (.int r)) M) 101 [none, none, none] [.int (if (x2 - x2 / (2 : Int32) * (2 : Int32)) = 0 then (0 : Int32) else (1 : Int32)), .int v17] M := by
                  refine v_iadd dX4_quartersOnComing_101 ?_
                  replace h := Option.some.inj h; subst h
                  exact v_iret rfl dX4_quartersOnComing_102
                refine v_if_ne (tgt := 100) dX4_quartersOnComing_93 rfl (fun c19 => ?_) (fun c19 => ?_)
                · refine v_iconst (v := 1) dX4_quartersOnComing_100 rfl ?_
                  refine V.sub (ls' := [none, none, none]) trivial ?_
                  first | (simp only [if_neg c19] at hJ; exact hJ) | exact hJ | (simp only [if_neg c19] at hJ ⊢; exact hJ)
                · refine v_iconst (v := 0) dX4_quartersOnComing_96 rfl ?_
                  refine v_goto (tgt := 101) dX4_quartersOnComing_97 rfl ?_
                  refine V.sub (ls' := [none, none, none]) trivial ?_
                  first | (simp only [if_pos c19] at hJ; exact hJ) | exact hJ | (simp only [if_pos c19] at hJ ⊢; exact hJ)
              · replace h := (if_neg c16).symm.trans h
                refine v_tabOut (tgt := 103) dX4_quartersOnComing_1 ?_ rfl ?_
                · have o0 := i32ne c1
                  have o1 := i32ne c2
                  have o2 := i32ne c5
                  have o3 := i32ne c9
                  have o4 := i32ne c13
                  have o5 := i32ne c16
                  simp only [i32l_0, i32l_1, i32l_2, i32l_3, i32l_4, i32l_5] at o0 o1 o2 o3 o4 o5
                  omega
                · refine v_iload_n dX4_quartersOnComing_103 rfl ?_
                  refine v_callS (as := [.int x0]) (st := []) (sX4_above rfl) dX4_quartersOnComing_104 mlX4_54 (CRn (by omega) (by decide)) rfl rfl (Nat.le_of_ble_eq_true rfl) ?_
                  refine v_iload_n dX4_quartersOnComing_107 rfl ?_
                  refine v_iload_n dX4_quartersOnComing_108 rfl ?_
                  obtain ⟨v20, e21, h⟩ := Option.bind_eq_some_iff.mp h
                  refine v_callS (as := [.int (fX4_above x0), .int x1, .int x2]) (st := []) (ihr e21) dX4_quartersOnComing_109 mlX4_46 (CRn (by omega) (by decide)) rfl rfl (Nat.le_of_ble_eq_true rfl) ?_
                  replace h := Option.some.inj h; subst h
                  exact v_iret rfl dX4_quartersOnComing_112
/-! ===== BentPlain$Walker.move(LBentPlain$Ground;)V ===== -/
def fX4_move (x0 : Nat) (M : Mem) : Option Mem := ((fX0_goOn (M.1 x0 1) M).bind fun v1 => (if v1 = (-1 : Int32) then ((fX4_quartersAtBump 4 ((setI M x0 3 ((M.1 x0 3) + (1 : Int32))).1 x0 0)).bind fun v10 => some (setI (setI M x0 3 ((M.1 x0 3) + (1 : Int32))) x0 1 (fX5_turned ((setI M x0 3 ((M.1 x0 3) + (1 : Int32))).1 x0 1) v10))) else ((fX0_roughOf (fX5_fieldOf v1) M).bind fun v4 => ((fX4_payOf 4 (M.1 x0 0) v4).bind fun v6 => ((fX4_quartersOnComing 4 ((setI M x0 2 ((M.1 x0 2) + v6)).1 x0 0) v4 ((setI M x0 2 ((M.1 x0 2) + v6)).1 x0 2)).bind fun v8 => some (setI (setI M x0 2 ((M.1 x0 2) + v6)) x0 1 (fX5_turned v1 v8)))))))
set_option maxRecDepth 100000 in
set_option maxHeartbeats 4000000 in
theorem sX4_move {g : Wo} {M : Mem} {x0 : Nat} {r : Mem} (hx0 : isW x0) (h : fX4_move x0 M = some r) : Sp g kX4_move 5 [.ref x0, .ref 1] M none r := by
  rw [fX4_move] at h
  refine Sp_intro (by decide) [some (.ref x0), some (.ref 1), none, none] rfl (Nat.le_of_ble_eq_true rfl) ?_
  refine v_aload_n dX4_move_0 rfl ?_
  refine v_aload_n dX4_move_1 rfl ?_
  refine v_geti dX4_move_2 flX4_15 hx0 rfl ?_
  obtain ⟨v1, e2, h⟩ := Option.bind_eq_some_iff.mp h
  refine v_callV (as := [.int (M.1 x0 1)]) (st := []) (sX0_goOn e2) dX4_move_5 mlX4_24 (CRn (by decide) (by decide)) sh_1 rfl rfl rfl (Nat.le_of_ble_eq_true rfl) ?_
  refine v_istore_n (ls1 := [some (.ref x0), some (.ref 1), some (.int v1), none]) dX4_move_8 (Nat.le_of_ble_eq_true rfl) rfl ?_
  refine v_iload_n dX4_move_9 rfl ?_
  refine v_iconst (v := -1) dX4_move_10 rfl ?_
  refine v_icmp_ne (tgt := 45) dX4_move_11 rfl (fun c3 => ?_) (fun c3 => ?_)
  · replace h := (if_neg c3).symm.trans h
    refine v_aload_n dX4_move_45 rfl ?_
    refine v_iload_n dX4_move_46 rfl ?_
    refine v_callN (as := [.int v1]) (st := [.ref 1]) (sX5_fieldOf rfl) dX4_move_47 mlX4_37 (CRn (by decide) (by decide)) rfl rfl (Nat.le_of_ble_eq_true rfl) ?_
    obtain ⟨v4, e5, h⟩ := Option.bind_eq_some_iff.mp h
    refine v_callV (as := [.int (fX5_fieldOf v1)]) (st := []) (sX0_roughOf e5) dX4_move_50 mlX4_40 (CRn (by decide) (by decide)) sh_1 rfl rfl rfl (Nat.le_of_ble_eq_true rfl) ?_
    refine v_istore_n (ls1 := [some (.ref x0), some (.ref 1), some (.int v1), some (.int v4)]) dX4_move_53 (Nat.le_of_ble_eq_true rfl) rfl ?_
    refine v_aload_n dX4_move_54 rfl ?_
    refine v_dup dX4_move_55 rfl ?_
    refine v_geti dX4_move_56 flX4_18 hx0 rfl ?_
    refine v_aload_n dX4_move_59 rfl ?_
    refine v_geti dX4_move_60 flX4_9 hx0 rfl ?_
    refine v_iload_n dX4_move_63 rfl ?_
    obtain ⟨v6, e7, h⟩ := Option.bind_eq_some_iff.mp h
    refine v_callS (as := [.int (M.1 x0 0), .int v4]) (st := [.int (M.1 x0 2), .ref x0]) (sX4_payOf e7) dX4_move_64 mlX4_43 (CRn (by decide) (by decide)) rfl rfl (Nat.le_of_ble_eq_true rfl) ?_
    refine v_iadd dX4_move_67 ?_
    refine v_puti dX4_move_68 fpX4_18 hx0 rfl ?_
    refine v_aload_n dX4_move_71 rfl ?_
    refine v_iload_n dX4_move_72 rfl ?_
    refine v_aload_n dX4_move_73 rfl ?_
    refine v_geti dX4_move_74 flX4_9 hx0 rfl ?_
    refine v_iload_n dX4_move_77 rfl ?_
    refine v_aload_n dX4_move_78 rfl ?_
    refine v_geti dX4_move_79 flX4_18 hx0 rfl ?_
    obtain ⟨v8, e9, h⟩ := Option.bind_eq_some_iff.mp h
    refine v_callS (as := [.int ((setI M x0 2 ((M.1 x0 2) + v6)).1 x0 0), .int v4, .int ((setI M x0 2 ((M.1 x0 2) + v6)).1 x0 2)]) (st := [.int v1, .ref x0]) (sX4_quartersOnComing e9) dX4_move_82 mlX4_46 (CRn (by decide) (by decide)) rfl rfl (Nat.le_of_ble_eq_true rfl) ?_
    refine v_callN (as := [.int v1, .int v8]) (st := [.ref x0]) (sX5_turned rfl) dX4_move_85 mlX4_33 (CRn (by decide) (by decide)) rfl rfl (Nat.le_of_ble_eq_true rfl) ?_
    refine v_puti dX4_move_88 fpX4_15 hx0 rfl ?_
    replace h := Option.some.inj h; subst h
    exact v_vret rfl dX4_move_91
  · replace h := (if_pos c3).symm.trans h
    refine v_aload_n dX4_move_14 rfl ?_
    refine v_dup dX4_move_15 rfl ?_
    refine v_geti dX4_move_16 flX4_21 hx0 rfl ?_
    refine v_iconst (v := 1) dX4_move_19 rfl ?_
    refine v_iadd dX4_move_20 ?_
    refine v_puti dX4_move_21 fpX4_21 hx0 rfl ?_
    refine v_aload_n dX4_move_24 rfl ?_
    refine v_aload_n dX4_move_25 rfl ?_
    refine v_geti dX4_move_26 flX4_15 hx0 rfl ?_
    refine v_aload_n dX4_move_29 rfl ?_
    refine v_geti dX4_move_30 flX4_9 hx0 rfl ?_
    obtain ⟨v10, e11, h⟩ := Option.bind_eq_some_iff.mp h
    refine v_callS (as := [.int ((setI M x0 3 ((M.1 x0 3) + (1 : Int32))).1 x0 0)]) (st := [.int ((setI M x0 3 ((M.1 x0 3) + (1 : Int32))).1 x0 1), .ref x0]) (sX4_quartersAtBump e11) dX4_move_33 mlX4_30 (CRn (by decide) (by decide)) rfl rfl (Nat.le_of_ble_eq_true rfl) ?_
    refine v_callN (as := [.int ((setI M x0 3 ((M.1 x0 3) + (1 : Int32))).1 x0 1), .int v10]) (st := [.ref x0]) (sX5_turned rfl) dX4_move_36 mlX4_33 (CRn (by decide) (by decide)) rfl rfl (Nat.le_of_ble_eq_true rfl) ?_
    refine v_puti dX4_move_39 fpX4_15 hx0 rfl ?_
    refine v_goto (tgt := 91) dX4_move_42 rfl ?_
    replace h := Option.some.inj h; subst h
    exact v_vret rfl dX4_move_91
/-! ===== BentPlain.step(I)I ===== -/
def fX5_step (x1 : Int32) (M : Mem) : Option (Int32 × Mem) := (if (fX0_hasWalker x1 M) = 0 then ((fX5_tell (-1000000001 : Int32) M).bind fun w6 => some (w6.1, w6.2)) else ((ldW 1 x1).bind fun q2 => ((fX4_move q2 M).bind fun w4 => some ((fX5_fieldOf (w4.1 q2 1)), w4))))
set_option maxRecDepth 100000 in
set_option maxHeartbeats 4000000 in
theorem sX5_step {g : Wo} {M : Mem} {x1 : Int32} {r : Int32 × Mem} (h : fX5_step x1 M = some r) : Sp g kX5_step 6 [.ref 0, .int x1] M (some (.int r.1)) r.2 := by
  rw [fX5_step] at h
  refine Sp_intro (by decide) [some (.ref 0), some (.int x1), none] rfl (Nat.le_of_ble_eq_true rfl) ?_
  refine v_aload_n dX5_step_0 rfl ?_
  refine v_getr dX5_step_1 flX5_12 sh_0 rfl ?_
  refine v_iload_n dX5_step_4 rfl ?_
  refine v_callV (as := [.int x1]) (st := []) (sX0_hasWalker rfl) dX5_step_5 mlX5_126 (CRn (by decide) (by decide)) sh_1 rfl rfl rfl (Nat.le_of_ble_eq_true rfl) ?_
  refine v_if_ne (tgt := 18) dX5_step_8 rfl (fun c1 => ?_) (fun c1 => ?_)
  · replace h := (if_neg c1).symm.trans h
    refine v_aload_n dX5_step_18 rfl ?_
    refine v_getr dX5_step_19 flX5_12 sh_0 rfl ?_
    refine v_getr dX5_step_22 flX5_129 sh_1 rfl ?_
    refine v_iload_n dX5_step_25 rfl ?_
    obtain ⟨q2, e3, h⟩ := Option.bind_eq_some_iff.mp h
    refine v_wld (r := 1) e3 dX5_step_26 isG_1 ?_
    refine v_astore_n (ls1 := [some (.ref 0), some (.int x1), some (.ref q2)]) dX5_step_27 (Nat.le_of_ble_eq_true rfl) rfl ?_
    refine v_aload_n dX5_step_28 rfl ?_
    refine v_aload_n dX5_step_29 rfl ?_
    refine v_getr dX5_step_30 flX5_12 sh_0 rfl ?_
    obtain ⟨w4, e5, h⟩ := Option.bind_eq_some_iff.mp h
    refine v_callV (as := [.ref 1]) (st := []) (sX4_move (ldW_is isG_1 e3) e5) dX5_step_33 mlX5_158 (CRn (by decide) (by decide)) (ldW_is isG_1 e3) rfl rfl rfl (Nat.le_of_ble_eq_true rfl) ?_
    refine v_aload_n dX5_step_36 rfl ?_
    refine v_geti dX5_step_37 flX5_136 (ldW_is isG_1 e3) rfl ?_
    refine v_callS (as := [.int (w4.1 q2 1)]) (st := []) (sX5_fieldOf rfl) dX5_step_40 mlX5_139 (CRn (by decide) (by decide)) rfl rfl (Nat.le_of_ble_eq_true rfl) ?_
    replace h := Option.some.inj h; subst h
    exact v_iret rfl dX5_step_43
  · replace h := (if_pos c1).symm.trans h
    refine v_aload_n dX5_step_11 rfl ?_
    refine v_ldc (v := -1000000001) dX5_step_12 w_175 ?_
    obtain ⟨w6, e7, h⟩ := Option.bind_eq_some_iff.mp h
    refine v_callV (as := [.int (-1000000001 : Int32)]) (st := []) (sX5_tell e7) dX5_step_14 mlX5_64 (CRn (by decide) (by decide)) sh_0 rfl rfl rfl (Nat.le_of_ble_eq_true rfl) ?_
    replace h := Option.some.inj h; subst h
    exact v_iret rfl dX5_step_17
/-! ===== BentPlain$Walker.moveOften(LBentPlain$Ground;I)V ===== -/
def fX4_moveOften_2 {ρ : Type} (kx : Mem → Option ρ) (y0 : Nat) (y2 : Int32) : Nat → Int32 → Mem → Option ρ
  | 0, _, _ => none
  | n + 1, y3, M => (if y2 ≤ y3 then (kx M) else ((fX4_move y0 M).bind fun w2 => (fX4_moveOften_2 kx y0 y2 n (y3 + (1 : Int32)) w2)))
def fX4_moveOften (x0 : Nat) (x2 : Int32) (M : Mem) : Option Mem := (fX4_moveOften_2 (fun M4 => some M4) x0 x2 FU (0 : Int32) M)
set_option maxRecDepth 100000 in
set_option maxHeartbeats 4000000 in
theorem tX4_moveOften_2 {g : Wo} {ρ : Type} {kx : Mem → Option ρ} {y0 : Nat} {y2 : Int32} (hy0 : isW y0) {r : ρ} {rr : Option Value} {Mr : Mem} (hk : ∀ (Mx : Mem), kx Mx = some r → V g kX4_moveOften (jm g 6 rr Mr) 18 [none, none, none, none] [] Mx) : ∀ (n : Nat) (y3 : Int32) (M : Mem), fX4_moveOften_2 kx y0 y2 n y3 M = some r → V g kX4_moveOften (jm g 6 rr Mr) 2 [some (.ref y0), some (.ref 1), some (.int y2), some (.int y3)] [] M := by
  intro n
  induction n with
  | zero =>
    intro y3 M h
    rw [fX4_moveOften_2] at h
    cases h
  | succ n ih =>
    intro y3 M h
    rw [fX4_moveOften_2] at h
    refine v_iload_n dX4_moveOften_2 rfl ?_
    refine v_iload_n dX4_moveOften_3 rfl ?_
    refine v_icmp_ge (tgt := 18) dX4_moveOften_4 rfl (fun c1 => ?_) (fun c1 => ?_)
    · replace h := (if_pos c1).symm.trans h
      refine V.sub (ls' := [none, none, none, none]) trivial ?_
      exact hk _ h
    · replace h := (if_neg c1).symm.trans h
      refine v_aload_n dX4_moveOften_7 rfl ?_
      refine v_aload_n dX4_moveOften_8 rfl ?_
      obtain ⟨w2, e3, h⟩ := Option.bind_eq_some_iff.mp h
      refine v_callV (as := [.ref 1]) (st := []) (sX4_move hy0 e3) dX4_moveOften_9 mlX4_50 (CRn (by decide) (by decide)) hy0 rfl rfl rfl (Nat.le_of_ble_eq_true rfl) ?_
      refine v_iinc (v := 1) (ls1 := [some (.ref y0), some (.ref 1), some (.int y2), some (.int (y3 + (1 : Int32)))]) dX4_moveOften_12 rfl rfl (Nat.le_of_ble_eq_true rfl) rfl ?_
      refine v_goto (tgt := 2) dX4_moveOften_15 rfl ?_
      refine V.sub (ls' := [some (.ref y0), some (.ref 1), some (.int y2), some (.int (y3 + (1 : Int32)))]) (And.intro rfl (And.intro rfl (And.intro rfl (And.intro rfl trivial)))) ?_
      exact ih _ _ h
set_option maxRecDepth 100000 in
set_option maxHeartbeats 4000000 in
theorem sX4_moveOften {g : Wo} {M : Mem} {x0 : Nat} {x2 : Int32} {r : Mem} (hx0 : isW x0) (h : fX4_moveOften x0 x2 M = some r) : Sp g kX4_moveOften 6 [.ref x0, .ref 1, .int x2] M none r := by
  rw [fX4_moveOften] at h
  refine Sp_intro (by decide) [some (.ref x0), some (.ref 1), some (.int x2), none] rfl (Nat.le_of_ble_eq_true rfl) ?_
  refine v_iconst (v := 0) dX4_moveOften_0 rfl ?_
  refine v_istore_n (ls1 := [some (.ref x0), some (.ref 1), some (.int x2), some (.int (0 : Int32))]) dX4_moveOften_1 (Nat.le_of_ble_eq_true rfl) rfl ?_
  refine V.sub (ls' := [some (.ref x0), some (.ref 1), some (.int x2), some (.int (0 : Int32))]) (And.intro rfl (And.intro rfl (And.intro rfl (And.intro rfl trivial)))) ?_
  refine tX4_moveOften_2 hx0 (fun M4 h => ?_) FU _ _ h
  replace h := Option.some.inj h; subst h
  exact v_vret rfl dX4_moveOften_18
/-! ===== BentPlain$Ground.milesOfAll()I ===== -/
def fX0_milesOfAll_4 {ρ : Type} (kx : Int32 → Option ρ) (M : Mem) : Nat → Int32 → Int32 → Option ρ
  | 0, _, _ => none
  | n + 1, y1, y2 => (if (M.1 1 1) ≤ y2 then (kx y1) else ((ldW 1 y2).bind fun q2 => (fX0_milesOfAll_4 kx M n (y1 + (M.1 q2 2)) (y2 + (1 : Int32)))))
def fX0_milesOfAll (M : Mem) : Option Int32 := (fX0_milesOfAll_4 (fun u4 => some u4) M FU (0 : Int32) (0 : Int32))
set_option maxRecDepth 100000 in
set_option maxHeartbeats 4000000 in
theorem tX0_milesOfAll_4 {g : Wo} {ρ : Type} {kx : Int32 → Option ρ} {M : Mem} {r : ρ} {rr : Option Value} {Mr : Mem} (hk : ∀ (z1 : Int32), kx z1 = some r → V g kX0_milesOfAll (jm g 0 rr Mr) 30 [none, some (.int z1), none] [] M) : ∀ (n : Nat) (y1 : Int32) (y2 : Int32), fX0_milesOfAll_4 kx M n y1 y2 = some r → V g kX0_milesOfAll (jm g 0 rr Mr) 4 [some (.ref 1), some (.int y1), some (.int y2)] [] M := by
  intro n
  induction n with
  | zero =>
    intro y1 y2 h
    rw [fX0_milesOfAll_4] at h
    cases h
  | succ n ih =>
    intro y1 y2 h
    rw [fX0_milesOfAll_4] at h
    refine v_iload_n dX0_milesOfAll_4 rfl ?_
    refine v_aload_n dX0_milesOfAll_5 rfl ?_
    refine v_geti dX0_milesOfAll_6 flX0_29 sh_1 rfl ?_
    refine v_icmp_ge (tgt := 30) dX0_milesOfAll_9 rfl (fun c1 => ?_) (fun c1 => ?_)
    · replace h := (if_pos c1).symm.trans h
      refine V.sub (ls' := [none, some (.int y1), none]) (And.intro rfl trivial) ?_
      exact hk _ h
    · replace h := (if_neg c1).symm.trans h
      refine v_iload_n dX0_milesOfAll_12 rfl ?_
      refine v_aload_n dX0_milesOfAll_13 rfl ?_
      refine v_getr dX0_milesOfAll_14 flX0_11 sh_1 rfl ?_
      refine v_iload_n dX0_milesOfAll_17 rfl ?_
      obtain ⟨q2, e3, h⟩ := Option.bind_eq_some_iff.mp h
      refine v_wld (r := 1) e3 dX0_milesOfAll_18 isG_1 ?_
      refine v_geti dX0_milesOfAll_19 flX0_71 (ldW_is isG_1 e3) rfl ?_
      refine v_iadd dX0_milesOfAll_22 ?_
      refine v_istore_n (ls1 := [some (.ref 1), some (.int (y1 + (M.1 q2 2))), some (.int y2)]) dX0_milesOfAll_23 (Nat.le_of_ble_eq_true rfl) rfl ?_
      refine v_iinc (v := 1) (ls1 := [some (.ref 1), some (.int (y1 + (M.1 q2 2))), some (.int (y2 + (1 : Int32)))]) dX0_milesOfAll_24 rfl rfl (Nat.le_of_ble_eq_true rfl) rfl ?_
      refine v_goto (tgt := 4) dX0_milesOfAll_27 rfl ?_
      refine V.sub (ls' := [some (.ref 1), some (.int (y1 + (M.1 q2 2))), some (.int (y2 + (1 : Int32)))]) (And.intro rfl (And.intro rfl (And.intro rfl trivial))) ?_
      exact ih _ _ h
set_option maxRecDepth 100000 in
set_option maxHeartbeats 4000000 in
theorem sX0_milesOfAll {g : Wo} {M : Mem} {r : Int32} (h : fX0_milesOfAll M = some r) : Sp g kX0_milesOfAll 0 [.ref 1] M (some (.int r)) M := by
  rw [fX0_milesOfAll] at h
  refine Sp_intro (by decide) [some (.ref 1), none, none] rfl (Nat.le_of_ble_eq_true rfl) ?_
  refine v_iconst (v := 0) dX0_milesOfAll_0 rfl ?_
  refine v_istore_n (ls1 := [some (.ref 1), some (.int (0 : Int32)), none]) dX0_milesOfAll_1 (Nat.le_of_ble_eq_true rfl) rfl ?_
  refine v_iconst (v := 0) dX0_milesOfAll_2 rfl ?_
  refine v_istore_n (ls1 := [some (.ref 1), some (.int (0 : Int32)), some (.int (0 : Int32))]) dX0_milesOfAll_3 (Nat.le_of_ble_eq_true rfl) rfl ?_
  refine V.sub (ls' := [some (.ref 1), some (.int (0 : Int32)), some (.int (0 : Int32))]) (And.intro rfl (And.intro rfl (And.intro rfl trivial))) ?_
  refine tX0_milesOfAll_4 (fun u4 h => ?_) FU _ _ h
  refine v_iload_n dX0_milesOfAll_30 rfl ?_
  replace h := Option.some.inj h; subst h
  exact v_iret rfl dX0_milesOfAll_31
