/-! ===== BentPlain.isRough(I)Z ===== -/
def fX5_isRough (x0 : Int32) : Int32 := (if x0 < 0 then (0 : Int32) else (if (9 : Int32) < x0 then (0 : Int32) else (1 : Int32)))
set_option maxRecDepth 100000 in
set_option maxHeartbeats 4000000 in
theorem sX5_isRough {g : Wo} {M : Mem} {x0 : Int32} {r : Int32} (h : fX5_isRough x0 = r) : Sp g kX5_isRough 0 [.int x0] M (some (.int r)) M := by
  rw [fX5_isRough] at h
  refine Sp_intro (by decide) [some (.int x0)] rfl (Nat.le_of_ble_eq_true rfl) ?_
  refine v_iload_n dX5_isRough_0 rfl ?_
  refine v_if_lt (tgt := 14) dX5_isRough_1 rfl (fun c1 => ?_) (fun c1 => ?_)
  · replace h := (if_pos c1).symm.trans h
    refine v_iconst (v := 0) dX5_isRough_14 rfl ?_
    subst h
    exact v_zret rfl (z_nar z_0) dX5_isRough_15
  · replace h := (if_neg c1).symm.trans h
    refine v_iload_n dX5_isRough_4 rfl ?_
    refine v_bipush (v := 9) dX5_isRough_5 rfl ?_
    refine v_icmp_gt (tgt := 14) dX5_isRough_7 rfl (fun c2 => ?_) (fun c2 => ?_)
    · replace h := (if_pos c2).symm.trans h
      refine v_iconst (v := 0) dX5_isRough_14 rfl ?_
      subst h
      exact v_zret rfl (z_nar z_0) dX5_isRough_15
    · replace h := (if_neg c2).symm.trans h
      refine v_iconst (v := 1) dX5_isRough_10 rfl ?_
      refine v_goto (tgt := 15) dX5_isRough_11 rfl ?_
      subst h
      exact v_zret rfl (z_nar z_1) dX5_isRough_15
/-! ===== BentPlain.tell(I)I ===== -/
def fX5_tell (x1 : Int32) (M : Mem) : Option (Int32 × Mem) := (if ((-1000000001 : Int32) - x1) < 0 then some (x1, M) else (if (7 : Int32) ≤ ((-1000000001 : Int32) - x1) then some (x1, M) else ((ldI M 48 7 ((-1000000001 : Int32) - x1)).bind fun v3 => ((stI M 48 7 ((-1000000001 : Int32) - x1) (v3 + (1 : Int32))).bind fun M5 => some (x1, M5)))))
set_option maxRecDepth 100000 in
set_option maxHeartbeats 4000000 in
theorem sX5_tell {g : Wo} {M : Mem} {x1 : Int32} {r : Int32 × Mem} (h : fX5_tell x1 M = some r) : Sp g kX5_tell 0 [.ref 0, .int x1] M (some (.int r.1)) r.2 := by
  rw [fX5_tell] at h
  refine Sp_intro (by decide) [some (.ref 0), some (.int x1), none] rfl (Nat.le_of_ble_eq_true rfl) ?_
  refine v_ldc (v := -1000000001) dX5_tell_0 w_175 ?_
  refine v_iload_n dX5_tell_2 rfl ?_
  refine v_isub dX5_tell_3 ?_
  refine v_istore_n (ls1 := [some (.ref 0), some (.int x1), some (.int ((-1000000001 : Int32) - x1))]) dX5_tell_4 (Nat.le_of_ble_eq_true rfl) rfl ?_
  refine v_iload_n dX5_tell_5 rfl ?_
  refine v_if_lt (tgt := 25) dX5_tell_6 rfl (fun c1 => ?_) (fun c1 => ?_)
  · replace h := (if_pos c1).symm.trans h
    refine v_iload_n dX5_tell_25 rfl ?_
    replace h := Option.some.inj h; subst h
    exact v_iret rfl dX5_tell_26
  · replace h := (if_neg c1).symm.trans h
    refine v_iload_n dX5_tell_9 rfl ?_
    refine v_bipush (v := 7) dX5_tell_10 rfl ?_
    refine v_icmp_ge (tgt := 25) dX5_tell_12 rfl (fun c2 => ?_) (fun c2 => ?_)
    · replace h := (if_pos c2).symm.trans h
      refine v_iload_n dX5_tell_25 rfl ?_
      replace h := Option.some.inj h; subst h
      exact v_iret rfl dX5_tell_26
    · replace h := (if_neg c2).symm.trans h
      refine v_aload_n dX5_tell_15 rfl ?_
      refine v_getr dX5_tell_16 flX5_55 sh_0 rfl ?_
      refine v_iload_n dX5_tell_19 rfl ?_
      refine v_dup2 dX5_tell_20 rfl rfl ?_
      obtain ⟨v3, e4, h⟩ := Option.bind_eq_some_iff.mp h
      refine v_ild e4 dX5_tell_21 sh_48 ?_
      refine v_iconst (v := 1) dX5_tell_22 rfl ?_
      refine v_iadd dX5_tell_23 ?_
      obtain ⟨M5, e6, h⟩ := Option.bind_eq_some_iff.mp h
      refine v_ist e6 dX5_tell_24 sh_48 ?_
      refine v_iload_n dX5_tell_25 rfl ?_
      replace h := Option.some.inj h; subst h
      exact v_iret rfl dX5_tell_26
/-! ===== BentPlain.wayOf(II)I ===== -/
def fX5_wayOf (x0 : Int32) (x1 : Int32) : Int32 := ((x0 * (4 : Int32)) + x1)
set_option maxRecDepth 100000 in
set_option maxHeartbeats 4000000 in
theorem sX5_wayOf {g : Wo} {M : Mem} {x0 : Int32} {x1 : Int32} {r : Int32} (h : fX5_wayOf x0 x1 = r) : Sp g kX5_wayOf 0 [.int x0, .int x1] M (some (.int r)) M := by
  rw [fX5_wayOf] at h
  refine Sp_intro (by decide) [some (.int x0), some (.int x1)] rfl (Nat.le_of_ble_eq_true rfl) ?_
  refine v_iload_n dX5_wayOf_0 rfl ?_
  refine v_iconst (v := 4) dX5_wayOf_1 rfl ?_
  refine v_imul dX5_wayOf_2 ?_
  refine v_iload_n dX5_wayOf_3 rfl ?_
  refine v_iadd dX5_wayOf_4 ?_
  subst h
  exact v_iret rfl dX5_wayOf_5
/-! ===== BentPlain$Ground.addField(I)I ===== -/
def fX0_addField_25 {ρ : Type} (kx : Mem → Option ρ) (y2 : Int32) : Nat → Int32 → Mem → Option ρ
  | 0, _, _ => none
  | n + 1, y3, M => (if (4 : Int32) ≤ y3 then (kx M) else ((stI M 10 64 (fX5_wayOf y2 y3) (-1 : Int32)).bind fun M5 => (fX0_addField_25 kx y2 n (y3 + (1 : Int32)) M5)))
def fX0_addField (x1 : Int32) (M : Mem) : Option (Int32 × Mem) := (if (M.1 1 0) < (16 : Int32) then ((stI M 9 16 (M.1 1 0) x1).bind fun M2 => (fX0_addField_25 (fun M7 => some ((M.1 1 0), (setI M7 1 0 ((M7.1 1 0) + (1 : Int32))))) (M.1 1 0) FU (0 : Int32) M2)) else some ((-1 : Int32), M))
set_option maxRecDepth 100000 in
set_option maxHeartbeats 4000000 in
theorem tX0_addField_25 {g : Wo} {ρ : Type} {kx : Mem → Option ρ} {y2 : Int32} {r : ρ} {rr : Option Value} {Mr : Mem} (hk : ∀ (Mx : Mem), kx Mx = some r → V g kX0_addField (jm g 1 rr Mr) 47 [some (.ref 1), none, some (.int y2), none] [] Mx) : ∀ (n : Nat) (y3 : Int32) (M : Mem), fX0_addField_25 kx y2 n y3 M = some r → V g kX0_addField (jm g 1 rr Mr) 25 [some (.ref 1), none, some (.int y2), some (.int y3)] [] M := by
  intro n
  induction n with
  | zero =>
    intro y3 M h
    rw [fX0_addField_25] at h
    cases h
  | succ n ih =>
    intro y3 M h
    rw [fX0_addField_25] at h
    refine v_iload_n dX0_addField_25 rfl ?_
    refine v_iconst (v := 4) dX0_addField_26 rfl ?_
    refine v_icmp_ge (tgt := 47) dX0_addField_27 rfl (fun c4 => ?_) (fun c4 => ?_)
    · replace h := (if_pos c4).symm.trans h
      refine V.sub (ls' := [some (.ref 1), none, some (.int y2), none]) (And.intro rfl (And.intro rfl trivial)) ?_
      exact hk _ h
    · replace h := (if_neg c4).symm.trans h
      refine v_aload_n dX0_addField_30 rfl ?_
      refine v_getr dX0_addField_31 flX0_21 sh_1 rfl ?_
      refine v_iload_n dX0_addField_34 rfl ?_
      refine v_iload_n dX0_addField_35 rfl ?_
      refine v_callN (as := [.int y2, .int y3]) (st := [.ref 10]) (sX5_wayOf rfl) dX0_addField_36 mlX0_46 (CRn (by decide) (by decide)) rfl rfl (Nat.le_of_ble_eq_true rfl) ?_
      refine v_iconst (v := -1) dX0_addField_39 rfl ?_
      obtain ⟨M5, e6, h⟩ := Option.bind_eq_some_iff.mp h
      refine v_ist e6 dX0_addField_40 sh_10 ?_
      refine v_iinc (v := 1) (ls1 := [some (.ref 1), none, some (.int y2), some (.int (y3 + (1 : Int32)))]) dX0_addField_41 rfl rfl (Nat.le_of_ble_eq_true rfl) rfl ?_
      refine v_goto (tgt := 25) dX0_addField_44 rfl ?_
      refine V.sub (ls' := [some (.ref 1), none, some (.int y2), some (.int (y3 + (1 : Int32)))]) (And.intro rfl (And.intro rfl (And.intro rfl trivial))) ?_
      exact ih _ _ h
set_option maxRecDepth 100000 in
set_option maxHeartbeats 4000000 in
theorem sX0_addField {g : Wo} {M : Mem} {x1 : Int32} {r : Int32 × Mem} (h : fX0_addField x1 M = some r) : Sp g kX0_addField 1 [.ref 1, .int x1] M (some (.int r.1)) r.2 := by
  rw [fX0_addField] at h
  refine Sp_intro (by decide) [some (.ref 1), some (.int x1), none, none] rfl (Nat.le_of_ble_eq_true rfl) ?_
  refine v_aload_n dX0_addField_0 rfl ?_
  refine v_geti dX0_addField_1 flX0_25 sh_1 rfl ?_
  refine v_bipush (v := 16) dX0_addField_4 rfl ?_
  refine v_icmp_lt (tgt := 11) dX0_addField_6 rfl (fun c1 => ?_) (fun c1 => ?_)
  · replace h := (if_pos c1).symm.trans h
    refine v_aload_n dX0_addField_11 rfl ?_
    refine v_geti dX0_addField_12 flX0_25 sh_1 rfl ?_
    refine v_istore_n (ls1 := [some (.ref 1), some (.int x1), some (.int (M.1 1 0)), none]) dX0_addField_15 (Nat.le_of_ble_eq_true rfl) rfl ?_
    refine v_aload_n dX0_addField_16 rfl ?_
    refine v_getr dX0_addField_17 flX0_17 sh_1 rfl ?_
    refine v_iload_n dX0_addField_20 rfl ?_
    refine v_iload_n dX0_addField_21 rfl ?_
    obtain ⟨M2, e3, h⟩ := Option.bind_eq_some_iff.mp h
    refine v_ist e3 dX0_addField_22 sh_9 ?_
    refine v_iconst (v := 0) dX0_addField_23 rfl ?_
    refine v_istore_n (ls1 := [some (.ref 1), some (.int x1), some (.int (M.1 1 0)), some (.int (0 : Int32))]) dX0_addField_24 (Nat.le_of_ble_eq_true rfl) rfl ?_
    refine V.sub (ls' := [some (.ref 1), none, some (.int (M.1 1 0)), some (.int (0 : Int32))]) (And.intro rfl (And.intro rfl (And.intro rfl trivial))) ?_
    refine tX0_addField_25 (fun M7 h => ?_) FU _ _ h
    refine v_aload_n dX0_addField_47 rfl ?_
    refine v_dup dX0_addField_48 rfl ?_
    refine v_geti dX0_addField_49 flX0_25 sh_1 rfl ?_
    refine v_iconst (v := 1) dX0_addField_52 rfl ?_
    refine v_iadd dX0_addField_53 ?_
    refine v_puti dX0_addField_54 fpX0_25 sh_1 rfl ?_
    refine v_iload_n dX0_addField_57 rfl ?_
    replace h := Option.some.inj h; subst h
    exact v_iret rfl dX0_addField_58
  · replace h := (if_neg c1).symm.trans h
    refine v_iconst (v := -1) dX0_addField_9 rfl ?_
    replace h := Option.some.inj h; subst h
    exact v_iret rfl dX0_addField_10
/-! ===== BentPlain.field(I)I ===== -/
def fX5_field (x1 : Int32) (M : Mem) : Option (Int32 × Mem) := (if (fX5_isRough x1) = 0 then ((fX5_tell (-1000000001 : Int32) M).bind fun w7 => some (w7.1, w7.2)) else (if (M.1 1 0) < (16 : Int32) then ((fX0_addField x1 M).bind fun w3 => some (w3.1, w3.2)) else ((fX5_tell (-1000000002 : Int32) M).bind fun w5 => some (w5.1, w5.2))))
set_option maxRecDepth 100000 in
set_option maxHeartbeats 4000000 in
theorem sX5_field {g : Wo} {M : Mem} {x1 : Int32} {r : Int32 × Mem} (h : fX5_field x1 M = some r) : Sp g kX5_field 2 [.ref 0, .int x1] M (some (.int r.1)) r.2 := by
  rw [fX5_field] at h
  refine Sp_intro (by decide) [some (.ref 0), some (.int x1)] rfl (Nat.le_of_ble_eq_true rfl) ?_
  refine v_iload_n dX5_field_0 rfl ?_
  refine v_callS (as := [.int x1]) (st := []) (sX5_isRough rfl) dX5_field_1 mlX5_59 (CRn (by decide) (by decide)) rfl rfl (Nat.le_of_ble_eq_true rfl) ?_
  refine v_if_ne (tgt := 14) dX5_field_4 rfl (fun c1 => ?_) (fun c1 => ?_)
  · replace h := (if_neg c1).symm.trans h
    refine v_aload_n dX5_field_14 rfl ?_
    refine v_getr dX5_field_15 flX5_12 sh_0 rfl ?_
    refine v_geti dX5_field_18 flX5_68 sh_1 rfl ?_
    refine v_bipush (v := 16) dX5_field_21 rfl ?_
    refine v_icmp_lt (tgt := 33) dX5_field_23 rfl (fun c2 => ?_) (fun c2 => ?_)
    · replace h := (if_pos c2).symm.trans h
      refine v_aload_n dX5_field_33 rfl ?_
      refine v_getr dX5_field_34 flX5_12 sh_0 rfl ?_
      refine v_iload_n dX5_field_37 rfl ?_
      obtain ⟨w3, e4, h⟩ := Option.bind_eq_some_iff.mp h
      refine v_callV (as := [.int x1]) (st := []) (sX0_addField e4) dX5_field_38 mlX5_73 (CRn (by decide) (by decide)) sh_1 rfl rfl rfl (Nat.le_of_ble_eq_true rfl) ?_
      replace h := Option.some.inj h; subst h
      exact v_iret rfl dX5_field_41
    · replace h := (if_neg c2).symm.trans h
      refine v_aload_n dX5_field_26 rfl ?_
      refine v_ldc (v := -1000000002) dX5_field_27 w_180 ?_
      obtain ⟨w5, e6, h⟩ := Option.bind_eq_some_iff.mp h
      refine v_callV (as := [.int (-1000000002 : Int32)]) (st := []) (sX5_tell e6) dX5_field_29 mlX5_64 (CRn (by decide) (by decide)) sh_0 rfl rfl rfl (Nat.le_of_ble_eq_true rfl) ?_
      replace h := Option.some.inj h; subst h
      exact v_iret rfl dX5_field_32
  · replace h := (if_pos c1).symm.trans h
    refine v_aload_n dX5_field_7 rfl ?_
    refine v_ldc (v := -1000000001) dX5_field_8 w_175 ?_
    obtain ⟨w7, e8, h⟩ := Option.bind_eq_some_iff.mp h
    refine v_callV (as := [.int (-1000000001 : Int32)]) (st := []) (sX5_tell e8) dX5_field_10 mlX5_64 (CRn (by decide) (by decide)) sh_0 rfl rfl rfl (Nat.le_of_ble_eq_true rfl) ?_
    replace h := Option.some.inj h; subst h
    exact v_iret rfl dX5_field_13
/-! ===== BentPlain$Ground.hasField(I)Z ===== -/
def fX0_hasField (x1 : Int32) (M : Mem) : Int32 := (if x1 < 0 then (0 : Int32) else (if (M.1 1 0) ≤ x1 then (0 : Int32) else (1 : Int32)))
set_option maxRecDepth 100000 in
set_option maxHeartbeats 4000000 in
theorem sX0_hasField {g : Wo} {M : Mem} {x1 : Int32} {r : Int32} (h : fX0_hasField x1 M = r) : Sp g kX0_hasField 0 [.ref 1, .int x1] M (some (.int r)) M := by
  rw [fX0_hasField] at h
  refine Sp_intro (by decide) [some (.ref 1), some (.int x1)] rfl (Nat.le_of_ble_eq_true rfl) ?_
  refine v_iload_n dX0_hasField_0 rfl ?_
  refine v_if_lt (tgt := 16) dX0_hasField_1 rfl (fun c1 => ?_) (fun c1 => ?_)
  · replace h := (if_pos c1).symm.trans h
    refine v_iconst (v := 0) dX0_hasField_16 rfl ?_
    subst h
    exact v_zret rfl (z_nar z_0) dX0_hasField_17
  · replace h := (if_neg c1).symm.trans h
    refine v_iload_n dX0_hasField_4 rfl ?_
    refine v_aload_n dX0_hasField_5 rfl ?_
    refine v_geti dX0_hasField_6 flX0_25 sh_1 rfl ?_
    refine v_icmp_ge (tgt := 16) dX0_hasField_9 rfl (fun c2 => ?_) (fun c2 => ?_)
    · replace h := (if_pos c2).symm.trans h
      refine v_iconst (v := 0) dX0_hasField_16 rfl ?_
      subst h
      exact v_zret rfl (z_nar z_0) dX0_hasField_17
    · replace h := (if_neg c2).symm.trans h
      refine v_iconst (v := 1) dX0_hasField_12 rfl ?_
      refine v_goto (tgt := 17) dX0_hasField_13 rfl ?_
      subst h
      exact v_zret rfl (z_nar z_1) dX0_hasField_17
/-! ===== BentPlain$Ground.roughOf(I)I ===== -/
def fX0_roughOf (x1 : Int32) (M : Mem) : Option Int32 := (if (fX0_hasField x1 M) = 0 then some (0 : Int32) else ((ldI M 9 16 x1).bind fun v2 => some v2))
set_option maxRecDepth 100000 in
set_option maxHeartbeats 4000000 in
theorem sX0_roughOf {g : Wo} {M : Mem} {x1 : Int32} {r : Int32} (h : fX0_roughOf x1 M = some r) : Sp g kX0_roughOf 1 [.ref 1, .int x1] M (some (.int r)) M := by
  rw [fX0_roughOf] at h
  refine Sp_intro (by decide) [some (.ref 1), some (.int x1)] rfl (Nat.le_of_ble_eq_true rfl) ?_
  refine v_aload_n dX0_roughOf_0 rfl ?_
  refine v_iload_n dX0_roughOf_1 rfl ?_
  refine v_callV (as := [.int x1]) (st := []) (sX0_hasField rfl) dX0_roughOf_2 mlX0_42 (CRn (by decide) (by decide)) sh_1 rfl rfl rfl (Nat.le_of_ble_eq_true rfl) ?_
  refine v_if_eq (tgt := 17) dX0_roughOf_5 rfl (fun c1 => ?_) (fun c1 => ?_)
  · replace h := (if_pos c1).symm.trans h
    refine v_iconst (v := 0) dX0_roughOf_17 rfl ?_
    replace h := Option.some.inj h; subst h
    exact v_iret rfl dX0_roughOf_18
  · replace h := (if_neg c1).symm.trans h
    refine v_aload_n dX0_roughOf_8 rfl ?_
    refine v_getr dX0_roughOf_9 flX0_17 sh_1 rfl ?_
    refine v_iload_n dX0_roughOf_12 rfl ?_
    obtain ⟨v2, e3, h⟩ := Option.bind_eq_some_iff.mp h
    refine v_ild e3 dX0_roughOf_13 sh_9 ?_
    refine v_goto (tgt := 18) dX0_roughOf_14 rfl ?_
    replace h := Option.some.inj h; subst h
    exact v_iret rfl dX0_roughOf_18
/-! ===== BentPlain$Ground.ways()I ===== -/
def fX0_ways (M : Mem) : Int32 := ((M.1 1 0) * (4 : Int32))
set_option maxRecDepth 100000 in
set_option maxHeartbeats 4000000 in
theorem sX0_ways {g : Wo} {M : Mem} {r : Int32} (h : fX0_ways M = r) : Sp g kX0_ways 0 [.ref 1] M (some (.int r)) M := by
  rw [fX0_ways] at h
  refine Sp_intro (by decide) [some (.ref 1)] rfl (Nat.le_of_ble_eq_true rfl) ?_
  refine v_aload_n dX0_ways_0 rfl ?_
  refine v_geti dX0_ways_1 flX0_25 sh_1 rfl ?_
  refine v_iconst (v := 4) dX0_ways_4 rfl ?_
  refine v_imul dX0_ways_5 ?_
  subst h
  exact v_iret rfl dX0_ways_6
/-! ===== BentPlain$Ground.gluedTo(I)I ===== -/
def fX0_gluedTo (x1 : Int32) (M : Mem) : Option Int32 := (if x1 < 0 then some (-1 : Int32) else (if (fX0_ways M) ≤ x1 then some (-1 : Int32) else ((ldI M 10 64 x1).bind fun v3 => some v3)))
set_option maxRecDepth 100000 in
set_option maxHeartbeats 4000000 in
theorem sX0_gluedTo {g : Wo} {M : Mem} {x1 : Int32} {r : Int32} (h : fX0_gluedTo x1 M = some r) : Sp g kX0_gluedTo 1 [.ref 1, .int x1] M (some (.int r)) M := by
  rw [fX0_gluedTo] at h
  refine Sp_intro (by decide) [some (.ref 1), some (.int x1)] rfl (Nat.le_of_ble_eq_true rfl) ?_
  refine v_iload_n dX0_gluedTo_0 rfl ?_
  refine v_if_lt (tgt := 21) dX0_gluedTo_1 rfl (fun c1 => ?_) (fun c1 => ?_)
  · replace h := (if_pos c1).symm.trans h
    refine v_iconst (v := -1) dX0_gluedTo_21 rfl ?_
    replace h := Option.some.inj h; subst h
    exact v_iret rfl dX0_gluedTo_22
  · replace h := (if_neg c1).symm.trans h
    refine v_iload_n dX0_gluedTo_4 rfl ?_
    refine v_aload_n dX0_gluedTo_5 rfl ?_
    refine v_callV (as := []) (st := [.int x1]) (sX0_ways rfl) dX0_gluedTo_6 mlX0_54 (CRn (by decide) (by decide)) sh_1 rfl rfl rfl (Nat.le_of_ble_eq_true rfl) ?_
    refine v_icmp_ge (tgt := 21) dX0_gluedTo_9 rfl (fun c2 => ?_) (fun c2 => ?_)
    · replace h := (if_pos c2).symm.trans h
      refine v_iconst (v := -1) dX0_gluedTo_21 rfl ?_
      replace h := Option.some.inj h; subst h
      exact v_iret rfl dX0_gluedTo_22
    · replace h := (if_neg c2).symm.trans h
      refine v_aload_n dX0_gluedTo_12 rfl ?_
      refine v_getr dX0_gluedTo_13 flX0_21 sh_1 rfl ?_
      refine v_iload_n dX0_gluedTo_16 rfl ?_
      obtain ⟨v3, e4, h⟩ := Option.bind_eq_some_iff.mp h
      refine v_ild e4 dX0_gluedTo_17 sh_10 ?_
      refine v_goto (tgt := 22) dX0_gluedTo_18 rfl ?_
      replace h := Option.some.inj h; subst h
      exact v_iret rfl dX0_gluedTo_22
/-! ===== BentPlain$Ground.isFree(I)Z ===== -/
def fX0_isFree (x1 : Int32) (M : Mem) : Option Int32 := ((fX0_gluedTo x1 M).bind fun v1 => (if v1 = (-1 : Int32) then some (1 : Int32) else some (0 : Int32)))
set_option maxRecDepth 100000 in
set_option maxHeartbeats 4000000 in
theorem sX0_isFree {g : Wo} {M : Mem} {x1 : Int32} {r : Int32} (h : fX0_isFree x1 M = some r) : Sp g kX0_isFree 2 [.ref 1, .int x1] M (some (.int r)) M := by
  rw [fX0_isFree] at h
  refine Sp_intro (by decide) [some (.ref 1), some (.int x1)] rfl (Nat.le_of_ble_eq_true rfl) ?_
  refine v_aload_n dX0_isFree_0 rfl ?_
  refine v_iload_n dX0_isFree_1 rfl ?_
  obtain ⟨v1, e2, h⟩ := Option.bind_eq_some_iff.mp h
  refine v_callV (as := [.int x1]) (st := []) (sX0_gluedTo e2) dX0_isFree_2 mlX0_58 (CRn (by decide) (by decide)) sh_1 rfl rfl rfl (Nat.le_of_ble_eq_true rfl) ?_
  refine v_iconst (v := -1) dX0_isFree_5 rfl ?_
  refine v_icmp_ne (tgt := 13) dX0_isFree_6 rfl (fun c3 => ?_) (fun c3 => ?_)
  · replace h := (if_neg c3).symm.trans h
    refine v_iconst (v := 0) dX0_isFree_13 rfl ?_
    replace h := Option.some.inj h; subst h
    exact v_zret rfl (z_nar z_0) dX0_isFree_14
  · replace h := (if_pos c3).symm.trans h
    refine v_iconst (v := 1) dX0_isFree_9 rfl ?_
    refine v_goto (tgt := 14) dX0_isFree_10 rfl ?_
    replace h := Option.some.inj h; subst h
    exact v_zret rfl (z_nar z_1) dX0_isFree_14
/-! ===== BentPlain$Ground.gluedSidesOf(I)I ===== -/
def fX0_gluedSidesOf_4 {ρ : Type} (kx : Int32 → Option ρ) (y1 : Int32) (M : Mem) : Nat → Int32 → Int32 → Option ρ
  | 0, _, _ => none
  | n + 1, y2, y3 => (if (4 : Int32) ≤ y3 then (kx y2) else ((fX0_isFree (fX5_wayOf y1 y3) M).bind fun v2 => (fX0_gluedSidesOf_4 kx y1 M n (if v2 = 0 then (y2 ||| ((1 : Int32) <<< (y3 &&& 31))) else y2) (y3 + (1 : Int32)))))
def fX0_gluedSidesOf (x1 : Int32) (M : Mem) : Option Int32 := (fX0_gluedSidesOf_4 (fun u5 => some u5) x1 M FU (0 : Int32) (0 : Int32))
set_option maxRecDepth 100000 in
set_option maxHeartbeats 4000000 in
theorem tX0_gluedSidesOf_4 {g : Wo} {ρ : Type} {kx : Int32 → Option ρ} {y1 : Int32} {M : Mem} {r : ρ} {rr : Option Value} {Mr : Mem} (hk : ∀ (z2 : Int32), kx z2 = some r → V g kX0_gluedSidesOf (jm g 3 rr Mr) 33 [none, none, some (.int z2), none] [] M) : ∀ (n : Nat) (y2 : Int32) (y3 : Int32), fX0_gluedSidesOf_4 kx y1 M n y2 y3 = some r → V g kX0_gluedSidesOf (jm g 3 rr Mr) 4 [some (.ref 1), some (.int y1), some (.int y2), some (.int y3)] [] M := by
  intro n
  induction n with
  | zero =>
    intro y2 y3 h
    rw [fX0_gluedSidesOf_4] at h
    cases h
  | succ n ih =>
    intro y2 y3 h
    rw [fX0_gluedSidesOf_4] at h
    refine v_iload_n dX0_gluedSidesOf_4 rfl ?_
    refine v_iconst (v := 4) dX0_gluedSidesOf_5 rfl ?_
    refine v_icmp_ge (tgt := 33) dX0_gluedSidesOf_6 rfl (fun c1 => ?_) (fun c1 => ?_)
    · replace h := (if_pos c1).symm.trans h
      refine V.sub (ls' := [none, none, some (.int y2), none]) (And.intro rfl trivial) ?_
      exact hk _ h
    · replace h := (if_neg c1).symm.trans h
      refine v_aload_n dX0_gluedSidesOf_9 rfl ?_
      refine v_iload_n dX0_gluedSidesOf_10 rfl ?_
      refine v_iload_n dX0_gluedSidesOf_11 rfl ?_
      refine v_callN (as := [.int y1, .int y3]) (st := [.ref 1]) (sX5_wayOf rfl) dX0_gluedSidesOf_12 mlX0_46 (CRn (by decide) (by decide)) rfl rfl (Nat.le_of_ble_eq_true rfl) ?_
      obtain ⟨v2, e3, h⟩ := Option.bind_eq_some_iff.mp h
      refine v_callV (as := [.int (fX5_wayOf y1 y3)]) (st := []) (sX0_isFree e3) dX0_gluedSidesOf_15 mlX0_62 (CRn (by decide) (by decide)) sh_1 rfl rfl rfl (Nat.le_of_ble_eq_true rfl) ?_
      have hJ : V g kX0_gluedSidesOf (jm g 3 rr Mr) 27 [some (.ref 1), some (.int y1), some (.int (if v2 = 0 then (y2 ||| ((1 : Int32) <<< (y3 &&& 31))) else y2)), some (.int y3)] [] M := by
        refine v_iinc (v := 1) (ls1 := [some (.ref 1), some (.int y1), some (.int (if v2 = 0 then (y2 ||| ((1 : Int32) <<< (y3 &&& 31))) else y2)), some (.int (y3 + (1 : Int32)))]) dX0_gluedSidesOf_27 rfl rfl (Nat.le_of_ble_eq_true rfl) rfl ?_
        refine v_goto (tgt := 4) dX0_gluedSidesOf_30 rfl ?_
        refine V.sub (ls' := [some (.ref 1), some (.int y1), some (.int (if v2 = 0 then (y2 ||| ((1 : Int32) <<< (y3 &&& 31))) else y2)), some (.int (y3 + (1 : Int32)))]) (And.intro rfl (And.intro rfl (And.intro rfl (And.intro rfl trivial)))) ?_
        exact ih _ _ h
      refine v_if_ne (tgt := 27) dX0_gluedSidesOf_18 rfl (fun c4 => ?_) (fun c4 => ?_)
      · refine V.sub (ls' := [some (.ref 1), some (.int y1), some (.int y2), some (.int y3)]) (And.intro rfl (And.intro rfl (And.intro rfl (And.intro rfl trivial)))) ?_
        first | (simp only [if_neg c4] at hJ; exact hJ) | exact hJ | (simp only [if_neg c4] at hJ ⊢; exact hJ)
      · refine v_iload_n dX0_gluedSidesOf_21 rfl ?_
        refine v_iconst (v := 1) dX0_gluedSidesOf_22 rfl ?_
        refine v_iload_n dX0_gluedSidesOf_23 rfl ?_
        refine v_ishl dX0_gluedSidesOf_24 ?_
        refine v_ior dX0_gluedSidesOf_25 ?_
        refine v_istore_n (ls1 := [some (.ref 1), some (.int y1), some (.int (y2 ||| ((1 : Int32) <<< (y3 &&& 31)))), some (.int y3)]) dX0_gluedSidesOf_26 (Nat.le_of_ble_eq_true rfl) rfl ?_
        refine V.sub (ls' := [some (.ref 1), some (.int y1), some (.int (y2 ||| ((1 : Int32) <<< (y3 &&& 31)))), some (.int y3)]) (And.intro rfl (And.intro rfl (And.intro rfl (And.intro rfl trivial)))) ?_
        first | (simp only [if_pos c4] at hJ; exact hJ) | exact hJ | (simp only [if_pos c4] at hJ ⊢; exact hJ)
set_option maxRecDepth 100000 in
set_option maxHeartbeats 4000000 in
theorem sX0_gluedSidesOf {g : Wo} {M : Mem} {x1 : Int32} {r : Int32} (h : fX0_gluedSidesOf x1 M = some r) : Sp g kX0_gluedSidesOf 3 [.ref 1, .int x1] M (some (.int r)) M := by
  rw [fX0_gluedSidesOf] at h
  refine Sp_intro (by decide) [some (.ref 1), some (.int x1), none, none] rfl (Nat.le_of_ble_eq_true rfl) ?_
  refine v_iconst (v := 0) dX0_gluedSidesOf_0 rfl ?_
  refine v_istore_n (ls1 := [some (.ref 1), some (.int x1), some (.int (0 : Int32)), none]) dX0_gluedSidesOf_1 (Nat.le_of_ble_eq_true rfl) rfl ?_
  refine v_iconst (v := 0) dX0_gluedSidesOf_2 rfl ?_
  refine v_istore_n (ls1 := [some (.ref 1), some (.int x1), some (.int (0 : Int32)), some (.int (0 : Int32))]) dX0_gluedSidesOf_3 (Nat.le_of_ble_eq_true rfl) rfl ?_
  refine V.sub (ls' := [some (.ref 1), some (.int x1), some (.int (0 : Int32)), some (.int (0 : Int32))]) (And.intro rfl (And.intro rfl (And.intro rfl (And.intro rfl trivial)))) ?_
  refine tX0_gluedSidesOf_4 (fun u5 h => ?_) FU _ _ h
  refine v_iload_n dX0_gluedSidesOf_33 rfl ?_
  replace h := Option.some.inj h; subst h
  exact v_iret rfl dX0_gluedSidesOf_34
/-! ===== BentPlain.fieldOf(I)I ===== -/
def fX5_fieldOf (x0 : Int32) : Int32 := (x0 / (4 : Int32))
set_option maxRecDepth 100000 in
set_option maxHeartbeats 4000000 in
theorem sX5_fieldOf {g : Wo} {M : Mem} {x0 : Int32} {r : Int32} (h : fX5_fieldOf x0 = r) : Sp g kX5_fieldOf 0 [.int x0] M (some (.int r)) M := by
  rw [fX5_fieldOf] at h
  refine Sp_intro (by decide) [some (.int x0)] rfl (Nat.le_of_ble_eq_true rfl) ?_
  refine v_iload_n dX5_fieldOf_0 rfl ?_
  refine v_iconst (v := 4) dX5_fieldOf_1 rfl ?_
  refine v_idiv dX5_fieldOf_2 (by decide) ?_
  subst h
  exact v_iret rfl dX5_fieldOf_3
/-! ===== BentPlain$Ground.walkersOn(I)I ===== -/
def fX0_walkersOn_4 {ρ : Type} (kx : Int32 → Option ρ) (y1 : Int32) (M : Mem) : Nat → Int32 → Int32 → Option ρ
  | 0, _, _ => none
  | n + 1, y2, y3 => (if (M.1 1 1) ≤ y3 then (kx y2) else ((ldW 1 y3).bind fun q2 => (fX0_walkersOn_4 kx y1 M n (if (fX5_fieldOf (M.1 q2 1)) = y1 then (y2 ||| ((1 : Int32) <<< (y3 &&& 31))) else y2) (y3 + (1 : Int32)))))
def fX0_walkersOn (x1 : Int32) (M : Mem) : Option Int32 := (fX0_walkersOn_4 (fun u5 => some u5) x1 M FU (0 : Int32) (0 : Int32))
set_option maxRecDepth 100000 in
set_option maxHeartbeats 4000000 in
theorem tX0_walkersOn_4 {g : Wo} {ρ : Type} {kx : Int32 → Option ρ} {y1 : Int32} {M : Mem} {r : ρ} {rr : Option Value} {Mr : Mem} (hk : ∀ (z2 : Int32), kx z2 = some r → V g kX0_walkersOn (jm g 1 rr Mr) 40 [none, none, some (.int z2), none] [] M) : ∀ (n : Nat) (y2 : Int32) (y3 : Int32), fX0_walkersOn_4 kx y1 M n y2 y3 = some r → V g kX0_walkersOn (jm g 1 rr Mr) 4 [some (.ref 1), some (.int y1), some (.int y2), some (.int y3)] [] M := by
  intro n
  induction n with
  | zero =>
    intro y2 y3 h
    rw [fX0_walkersOn_4] at h
    cases h
  | succ n ih =>
    intro y2 y3 h
    rw [fX0_walkersOn_4] at h
    refine v_iload_n dX0_walkersOn_4 rfl ?_
    refine v_aload_n dX0_walkersOn_5 rfl ?_
    refine v_geti dX0_walkersOn_6 flX0_29 sh_1 rfl ?_
    refine v_icmp_ge (tgt := 40) dX0_walkersOn_9 rfl (fun c1 => ?_) (fun c1 => ?_)
    · replace h := (if_pos c1).symm.trans h
      refine V.sub (ls' := [none, none, some (.int y2), none]) (And.intro rfl trivial) ?_
      exact hk _ h
    · replace h := (if_neg c1).symm.trans h
      refine v_aload_n dX0_walkersOn_12 rfl ?_
      refine v_getr dX0_walkersOn_13 flX0_11 sh_1 rfl ?_
      refine v_iload_n dX0_walkersOn_16 rfl ?_
      obtain ⟨q2, e3, h⟩ := Option.bind_eq_some_iff.mp h
      refine v_wld (r := 1) e3 dX0_walkersOn_17 isG_1 ?_
      refine v_geti dX0_walkersOn_18 flX0_65 (ldW_is isG_1 e3) rfl ?_
      refine v_callN (as := [.int (M.1 q2 1)]) (st := []) (sX5_fieldOf rfl) dX0_walkersOn_21 mlX0_68 (CRn (by decide) (by decide)) rfl rfl (Nat.le_of_ble_eq_true rfl) ?_
      refine v_iload_n dX0_walkersOn_24 rfl ?_
      have hJ : V g kX0_walkersOn (jm g 1 rr Mr) 34 [some (.ref 1), some (.int y1), some (.int (if (fX5_fieldOf (M.1 q2 1)) = y1 then (y2 ||| ((1 : Int32) <<< (y3 &&& 31))) else y2)), some (.int y3)] [] M := by
        refine v_iinc (v := 1) (ls1 := [some (.ref 1), some (.int y1), some (.int (if (fX5_fieldOf (M.1 q2 1)) = y1 then (y2 ||| ((1 : Int32) <<< (y3 &&& 31))) else y2)), some (.int (y3 + (1 : Int32)))]) dX0_walkersOn_34 rfl rfl (Nat.le_of_ble_eq_true rfl) rfl ?_
        refine v_goto (tgt := 4) dX0_walkersOn_37 rfl ?_
        refine V.sub (ls' := [some (.ref 1), some (.int y1), some (.int (if (fX5_fieldOf (M.1 q2 1)) = y1 then (y2 ||| ((1 : Int32) <<< (y3 &&& 31))) else y2)), some (.int (y3 + (1 : Int32)))]) (And.intro rfl (And.intro rfl (And.intro rfl (And.intro rfl trivial)))) ?_
        exact ih _ _ h
      refine v_icmp_ne (tgt := 34) dX0_walkersOn_25 rfl (fun c4 => ?_) (fun c4 => ?_)
      · refine V.sub (ls' := [some (.ref 1), some (.int y1), some (.int y2), some (.int y3)]) (And.intro rfl (And.intro rfl (And.intro rfl (And.intro rfl trivial)))) ?_
        first | (simp only [if_neg c4] at hJ; exact hJ) | exact hJ | (simp only [if_neg c4] at hJ ⊢; exact hJ)
      · refine v_iload_n dX0_walkersOn_28 rfl ?_
        refine v_iconst (v := 1) dX0_walkersOn_29 rfl ?_
        refine v_iload_n dX0_walkersOn_30 rfl ?_
        refine v_ishl dX0_walkersOn_31 ?_
        refine v_ior dX0_walkersOn_32 ?_
        refine v_istore_n (ls1 := [some (.ref 1), some (.int y1), some (.int (y2 ||| ((1 : Int32) <<< (y3 &&& 31)))), some (.int y3)]) dX0_walkersOn_33 (Nat.le_of_ble_eq_true rfl) rfl ?_
        refine V.sub (ls' := [some (.ref 1), some (.int y1), some (.int (y2 ||| ((1 : Int32) <<< (y3 &&& 31)))), some (.int y3)]) (And.intro rfl (And.intro rfl (And.intro rfl (And.intro rfl trivial)))) ?_
        first | (simp only [if_pos c4] at hJ; exact hJ) | exact hJ | (simp only [if_pos c4] at hJ ⊢; exact hJ)
set_option maxRecDepth 100000 in
set_option maxHeartbeats 4000000 in
theorem sX0_walkersOn {g : Wo} {M : Mem} {x1 : Int32} {r : Int32} (h : fX0_walkersOn x1 M = some r) : Sp g kX0_walkersOn 1 [.ref 1, .int x1] M (some (.int r)) M := by
  rw [fX0_walkersOn] at h
  refine Sp_intro (by decide) [some (.ref 1), some (.int x1), none, none] rfl (Nat.le_of_ble_eq_true rfl) ?_
  refine v_iconst (v := 0) dX0_walkersOn_0 rfl ?_
  refine v_istore_n (ls1 := [some (.ref 1), some (.int x1), some (.int (0 : Int32)), none]) dX0_walkersOn_1 (Nat.le_of_ble_eq_true rfl) rfl ?_
  refine v_iconst (v := 0) dX0_walkersOn_2 rfl ?_
  refine v_istore_n (ls1 := [some (.ref 1), some (.int x1), some (.int (0 : Int32)), some (.int (0 : Int32))]) dX0_walkersOn_3 (Nat.le_of_ble_eq_true rfl) rfl ?_
  refine V.sub (ls' := [some (.ref 1), some (.int x1), some (.int (0 : Int32)), some (.int (0 : Int32))]) (And.intro rfl (And.intro rfl (And.intro rfl (And.intro rfl trivial)))) ?_
  refine tX0_walkersOn_4 (fun u5 h => ?_) FU _ _ h
  refine v_iload_n dX0_walkersOn_40 rfl ?_
  replace h := Option.some.inj h; subst h
  exact v_iret rfl dX0_walkersOn_41
/-! ===== BentPlain.of(II)I ===== -/
def fX5_of (x1 : Int32) (x2 : Int32) (M : Mem) : Option (Int32 × Mem) := (if (fX0_hasField x1 M) = 0 then ((fX5_tell (-1000000001 : Int32) M).bind fun w13 => some (w13.1, w13.2)) else (if x2 = (0 : Int32) then ((fX0_roughOf x1 M).bind fun v3 => some (v3, M)) else (if x2 = (1 : Int32) then ((fX0_gluedSidesOf x1 M).bind fun v6 => some (v6, M)) else (if x2 = (2 : Int32) then ((fX0_walkersOn x1 M).bind fun v9 => some (v9, M)) else ((fX5_tell (-1000000001 : Int32) M).bind fun w11 => some (w11.1, w11.2))))))
set_option maxRecDepth 100000 in
set_option maxHeartbeats 4000000 in
theorem sX5_of {g : Wo} {M : Mem} {x1 : Int32} {x2 : Int32} {r : Int32 × Mem} (h : fX5_of x1 x2 M = some r) : Sp g kX5_of 4 [.ref 0, .int x1, .int x2] M (some (.int r.1)) r.2 := by
  rw [fX5_of] at h
  refine Sp_intro (by decide) [some (.ref 0), some (.int x1), some (.int x2)] rfl (Nat.le_of_ble_eq_true rfl) ?_
  refine v_aload_n dX5_of_0 rfl ?_
  refine v_getr dX5_of_1 flX5_12 sh_0 rfl ?_
  refine v_iload_n dX5_of_4 rfl ?_
  refine v_callV (as := [.int x1]) (st := []) (sX0_hasField rfl) dX5_of_5 mlX5_76 (CRn (by decide) (by decide)) sh_1 rfl rfl rfl (Nat.le_of_ble_eq_true rfl) ?_
  refine v_if_ne (tgt := 18) dX5_of_8 rfl (fun c1 => ?_) (fun c1 => ?_)
  · replace h := (if_neg c1).symm.trans h
    refine v_iload_n dX5_of_18 rfl ?_
    by_cases c2 : x2 = (0 : Int32)
    · replace h := (if_pos c2).symm.trans h
      refine v_tabIn (off := 25) (tgt := 44) dX5_of_19 (by rw [c2]; decide) (by rw [c2]; decide) (by rw [c2]; decide) rfl ?_
      refine v_aload_n dX5_of_44 rfl ?_
      refine v_getr dX5_of_45 flX5_12 sh_0 rfl ?_
      refine v_iload_n dX5_of_48 rfl ?_
      obtain ⟨v3, e4, h⟩ := Option.bind_eq_some_iff.mp h
      refine v_callV (as := [.int x1]) (st := []) (sX0_roughOf e4) dX5_of_49 mlX5_79 (CRn (by decide) (by decide)) sh_1 rfl rfl rfl (Nat.le_of_ble_eq_true rfl) ?_
      replace h := Option.some.inj h; subst h
      exact v_iret rfl dX5_of_52
    · replace h := (if_neg c2).symm.trans h
      by_cases c5 : x2 = (1 : Int32)
      · replace h := (if_pos c5).symm.trans h
        refine v_tabIn (off := 34) (tgt := 53) dX5_of_19 (by rw [c5]; decide) (by rw [c5]; decide) (by rw [c5]; decide) rfl ?_
        refine v_aload_n dX5_of_53 rfl ?_
        refine v_getr dX5_of_54 flX5_12 sh_0 rfl ?_
        refine v_iload_n dX5_of_57 rfl ?_
        obtain ⟨v6, e7, h⟩ := Option.bind_eq_some_iff.mp h
        refine v_callV (as := [.int x1]) (st := []) (sX0_gluedSidesOf e7) dX5_of_58 mlX5_82 (CRn (by decide) (by decide)) sh_1 rfl rfl rfl (Nat.le_of_ble_eq_true rfl) ?_
        replace h := Option.some.inj h; subst h
        exact v_iret rfl dX5_of_61
      · replace h := (if_neg c5).symm.trans h
        by_cases c8 : x2 = (2 : Int32)
        · replace h := (if_pos c8).symm.trans h
          refine v_tabIn (off := 43) (tgt := 62) dX5_of_19 (by rw [c8]; decide) (by rw [c8]; decide) (by rw [c8]; decide) rfl ?_
          refine v_aload_n dX5_of_62 rfl ?_
          refine v_getr dX5_of_63 flX5_12 sh_0 rfl ?_
          refine v_iload_n dX5_of_66 rfl ?_
          obtain ⟨v9, e10, h⟩ := Option.bind_eq_some_iff.mp h
          refine v_callV (as := [.int x1]) (st := []) (sX0_walkersOn e10) dX5_of_67 mlX5_85 (CRn (by decide) (by decide)) sh_1 rfl rfl rfl (Nat.le_of_ble_eq_true rfl) ?_
          replace h := Option.some.inj h; subst h
          exact v_iret rfl dX5_of_70
        · replace h := (if_neg c8).symm.trans h
          refine v_tabOut (tgt := 71) dX5_of_19 ?_ rfl ?_
          · have o0 := i32ne c2
            have o1 := i32ne c5
            have o2 := i32ne c8
            simp only [i32l_0, i32l_1, i32l_2] at o0 o1 o2
            omega
          · refine v_aload_n dX5_of_71 rfl ?_
            refine v_ldc (v := -1000000001) dX5_of_72 w_175 ?_
            obtain ⟨w11, e12, h⟩ := Option.bind_eq_some_iff.mp h
            refine v_callV (as := [.int (-1000000001 : Int32)]) (st := []) (sX5_tell e12) dX5_of_74 mlX5_64 (CRn (by decide) (by decide)) sh_0 rfl rfl rfl (Nat.le_of_ble_eq_true rfl) ?_
            replace h := Option.some.inj h; subst h
            exact v_iret rfl dX5_of_77
  · replace h := (if_pos c1).symm.trans h
    refine v_aload_n dX5_of_11 rfl ?_
    refine v_ldc (v := -1000000001) dX5_of_12 w_175 ?_
    obtain ⟨w13, e14, h⟩ := Option.bind_eq_some_iff.mp h
    refine v_callV (as := [.int (-1000000001 : Int32)]) (st := []) (sX5_tell e14) dX5_of_14 mlX5_64 (CRn (by decide) (by decide)) sh_0 rfl rfl rfl (Nat.le_of_ble_eq_true rfl) ?_
    replace h := Option.some.inj h; subst h
    exact v_iret rfl dX5_of_17
/-! ===== BentPlain$Ground.makeRough(II)V ===== -/
def fX0_makeRough (x1 : Int32) (x2 : Int32) (M : Mem) : Option Mem := (if (fX0_hasField x1 M) = 0 then some M else ((stI M 9 16 x1 x2).bind fun M2 => some M2))
set_option maxRecDepth 100000 in
set_option maxHeartbeats 4000000 in
theorem sX0_makeRough {g : Wo} {M : Mem} {x1 : Int32} {x2 : Int32} {r : Mem} (h : fX0_makeRough x1 x2 M = some r) : Sp g kX0_makeRough 1 [.ref 1, .int x1, .int x2] M none r := by
  rw [fX0_makeRough] at h
  refine Sp_intro (by decide) [some (.ref 1), some (.int x1), some (.int x2)] rfl (Nat.le_of_ble_eq_true rfl) ?_
  refine v_aload_n dX0_makeRough_0 rfl ?_
  refine v_iload_n dX0_makeRough_1 rfl ?_
  refine v_callV (as := [.int x1]) (st := []) (sX0_hasField rfl) dX0_makeRough_2 mlX0_42 (CRn (by decide) (by decide)) sh_1 rfl rfl rfl (Nat.le_of_ble_eq_true rfl) ?_
  refine v_if_eq (tgt := 15) dX0_makeRough_5 rfl (fun c1 => ?_) (fun c1 => ?_)
  · replace h := (if_pos c1).symm.trans h
    replace h := Option.some.inj h; subst h
    exact v_vret rfl dX0_makeRough_15
  · replace h := (if_neg c1).symm.trans h
    refine v_aload_n dX0_makeRough_8 rfl ?_
    refine v_getr dX0_makeRough_9 flX0_17 sh_1 rfl ?_
    refine v_iload_n dX0_makeRough_12 rfl ?_
    refine v_iload_n dX0_makeRough_13 rfl ?_
    obtain ⟨M2, e3, h⟩ := Option.bind_eq_some_iff.mp h
    refine v_ist e3 dX0_makeRough_14 sh_9 ?_
    replace h := Option.some.inj h; subst h
    exact v_vret rfl dX0_makeRough_15
/-! ===== BentPlain.rough(II)I ===== -/
def fX5_rough (x1 : Int32) (x2 : Int32) (M : Mem) : Option (Int32 × Mem) := (if (fX0_hasField x1 M) = 0 then ((fX5_tell (-1000000001 : Int32) M).bind fun w2 => some (w2.1, w2.2)) else (if (fX5_isRough x2) = 0 then ((fX5_tell (-1000000001 : Int32) M).bind fun w9 => some (w9.1, w9.2)) else ((fX0_roughOf x1 M).bind fun v5 => ((fX0_makeRough x1 x2 M).bind fun w7 => some (v5, w7)))))
set_option maxRecDepth 100000 in
set_option maxHeartbeats 4000000 in
theorem sX5_rough {g : Wo} {M : Mem} {x1 : Int32} {x2 : Int32} {r : Int32 × Mem} (h : fX5_rough x1 x2 M = some r) : Sp g kX5_rough 2 [.ref 0, .int x1, .int x2] M (some (.int r.1)) r.2 := by
  rw [fX5_rough] at h
  refine Sp_intro (by decide) [some (.ref 0), some (.int x1), some (.int x2), none] rfl (Nat.le_of_ble_eq_true rfl) ?_
  refine v_aload_n dX5_rough_0 rfl ?_
  refine v_getr dX5_rough_1 flX5_12 sh_0 rfl ?_
  refine v_iload_n dX5_rough_4 rfl ?_
  refine v_callV (as := [.int x1]) (st := []) (sX0_hasField rfl) dX5_rough_5 mlX5_76 (CRn (by decide) (by decide)) sh_1 rfl rfl rfl (Nat.le_of_ble_eq_true rfl) ?_
  refine v_if_eq (tgt := 18) dX5_rough_8 rfl (fun c1 => ?_) (fun c1 => ?_)
  · replace h := (if_pos c1).symm.trans h
    refine v_aload_n dX5_rough_18 rfl ?_
    refine v_ldc (v := -1000000001) dX5_rough_19 w_175 ?_
    obtain ⟨w2, e3, h⟩ := Option.bind_eq_some_iff.mp h
    refine v_callV (as := [.int (-1000000001 : Int32)]) (st := []) (sX5_tell e3) dX5_rough_21 mlX5_64 (CRn (by decide) (by decide)) sh_0 rfl rfl rfl (Nat.le_of_ble_eq_true rfl) ?_
    replace h := Option.some.inj h; subst h
    exact v_iret rfl dX5_rough_24
  · replace h := (if_neg c1).symm.trans h
    refine v_iload_n dX5_rough_11 rfl ?_
    refine v_callS (as := [.int x2]) (st := []) (sX5_isRough rfl) dX5_rough_12 mlX5_59 (CRn (by decide) (by decide)) rfl rfl (Nat.le_of_ble_eq_true rfl) ?_
    refine v_if_ne (tgt := 25) dX5_rough_15 rfl (fun c4 => ?_) (fun c4 => ?_)
    · replace h := (if_neg c4).symm.trans h
      refine v_aload_n dX5_rough_25 rfl ?_
      refine v_getr dX5_rough_26 flX5_12 sh_0 rfl ?_
      refine v_iload_n dX5_rough_29 rfl ?_
      obtain ⟨v5, e6, h⟩ := Option.bind_eq_some_iff.mp h
      refine v_callV (as := [.int x1]) (st := []) (sX0_roughOf e6) dX5_rough_30 mlX5_79 (CRn (by decide) (by decide)) sh_1 rfl rfl rfl (Nat.le_of_ble_eq_true rfl) ?_
      refine v_istore_n (ls1 := [some (.ref 0), some (.int x1), some (.int x2), some (.int v5)]) dX5_rough_33 (Nat.le_of_ble_eq_true rfl) rfl ?_
      refine v_aload_n dX5_rough_34 rfl ?_
      refine v_getr dX5_rough_35 flX5_12 sh_0 rfl ?_
      refine v_iload_n dX5_rough_38 rfl ?_
      refine v_iload_n dX5_rough_39 rfl ?_
      obtain ⟨w7, e8, h⟩ := Option.bind_eq_some_iff.mp h
      refine v_callV (as := [.int x1, .int x2]) (st := []) (sX0_makeRough e8) dX5_rough_40 mlX5_88 (CRn (by decide) (by decide)) sh_1 rfl rfl rfl (Nat.le_of_ble_eq_true rfl) ?_
      refine v_iload_n dX5_rough_43 rfl ?_
      replace h := Option.some.inj h; subst h
      exact v_iret rfl dX5_rough_44
    · replace h := (if_pos c4).symm.trans h
      refine v_aload_n dX5_rough_18 rfl ?_
      refine v_ldc (v := -1000000001) dX5_rough_19 w_175 ?_
      obtain ⟨w9, e10, h⟩ := Option.bind_eq_some_iff.mp h
      refine v_callV (as := [.int (-1000000001 : Int32)]) (st := []) (sX5_tell e10) dX5_rough_21 mlX5_64 (CRn (by decide) (by decide)) sh_0 rfl rfl rfl (Nat.le_of_ble_eq_true rfl) ?_
      replace h := Option.some.inj h; subst h
      exact v_iret rfl dX5_rough_24
/-! ===== BentPlain$Ground.hasWay(II)Z ===== -/
def fX0_hasWay (x1 : Int32) (x2 : Int32) (M : Mem) : Int32 := (if (fX0_hasField x1 M) = 0 then (0 : Int32) else (if x2 < 0 then (0 : Int32) else (if (4 : Int32) ≤ x2 then (0 : Int32) else (1 : Int32))))
set_option maxRecDepth 100000 in
set_option maxHeartbeats 4000000 in
theorem sX0_hasWay {g : Wo} {M : Mem} {x1 : Int32} {x2 : Int32} {r : Int32} (h : fX0_hasWay x1 x2 M = r) : Sp g kX0_hasWay 1 [.ref 1, .int x1, .int x2] M (some (.int r)) M := by
  rw [fX0_hasWay] at h
  refine Sp_intro (by decide) [some (.ref 1), some (.int x1), some (.int x2)] rfl (Nat.le_of_ble_eq_true rfl) ?_
  refine v_aload_n dX0_hasWay_0 rfl ?_
  refine v_iload_n dX0_hasWay_1 rfl ?_
  refine v_callV (as := [.int x1]) (st := []) (sX0_hasField rfl) dX0_hasWay_2 mlX0_42 (CRn (by decide) (by decide)) sh_1 rfl rfl rfl (Nat.le_of_ble_eq_true rfl) ?_
  refine v_if_eq (tgt := 21) dX0_hasWay_5 rfl (fun c1 => ?_) (fun c1 => ?_)
  · replace h := (if_pos c1).symm.trans h
    refine v_iconst (v := 0) dX0_hasWay_21 rfl ?_
    subst h
    exact v_zret rfl (z_nar z_0) dX0_hasWay_22
  · replace h := (if_neg c1).symm.trans h
    refine v_iload_n dX0_hasWay_8 rfl ?_
    refine v_if_lt (tgt := 21) dX0_hasWay_9 rfl (fun c2 => ?_) (fun c2 => ?_)
    · replace h := (if_pos c2).symm.trans h
      refine v_iconst (v := 0) dX0_hasWay_21 rfl ?_
      subst h
      exact v_zret rfl (z_nar z_0) dX0_hasWay_22
    · replace h := (if_neg c2).symm.trans h
      refine v_iload_n dX0_hasWay_12 rfl ?_
      refine v_iconst (v := 4) dX0_hasWay_13 rfl ?_
      refine v_icmp_ge (tgt := 21) dX0_hasWay_14 rfl (fun c3 => ?_) (fun c3 => ?_)
      · replace h := (if_pos c3).symm.trans h
        refine v_iconst (v := 0) dX0_hasWay_21 rfl ?_
        subst h
        exact v_zret rfl (z_nar z_0) dX0_hasWay_22
      · replace h := (if_neg c3).symm.trans h
        refine v_iconst (v := 1) dX0_hasWay_17 rfl ?_
        refine v_goto (tgt := 22) dX0_hasWay_18 rfl ?_
        subst h
        exact v_zret rfl (z_nar z_1) dX0_hasWay_22
/-! ===== BentPlain$Ground.join(II)V ===== -/
def fX0_join (x1 : Int32) (x2 : Int32) (M : Mem) : Option Mem := (if x1 < 0 then some M else (if (fX0_ways M) ≤ x1 then some M else (if x2 < 0 then some M else (if (fX0_ways M) ≤ x2 then some M else ((stI M 10 64 x1 x2).bind fun M5 => ((stI M5 10 64 x2 x1).bind fun M7 => some M7))))))
set_option maxRecDepth 100000 in
set_option maxHeartbeats 4000000 in
theorem sX0_join {g : Wo} {M : Mem} {x1 : Int32} {x2 : Int32} {r : Mem} (h : fX0_join x1 x2 M = some r) : Sp g kX0_join 1 [.ref 1, .int x1, .int x2] M none r := by
  rw [fX0_join] at h
  refine Sp_intro (by decide) [some (.ref 1), some (.int x1), some (.int x2)] rfl (Nat.le_of_ble_eq_true rfl) ?_
  refine v_iload_n dX0_join_0 rfl ?_
  refine v_if_lt (tgt := 38) dX0_join_1 rfl (fun c1 => ?_) (fun c1 => ?_)
  · replace h := (if_pos c1).symm.trans h
    replace h := Option.some.inj h; subst h
    exact v_vret rfl dX0_join_38
  · replace h := (if_neg c1).symm.trans h
    refine v_iload_n dX0_join_4 rfl ?_
    refine v_aload_n dX0_join_5 rfl ?_
    refine v_callV (as := []) (st := [.int x1]) (sX0_ways rfl) dX0_join_6 mlX0_54 (CRn (by decide) (by decide)) sh_1 rfl rfl rfl (Nat.le_of_ble_eq_true rfl) ?_
    refine v_icmp_ge (tgt := 38) dX0_join_9 rfl (fun c2 => ?_) (fun c2 => ?_)
    · replace h := (if_pos c2).symm.trans h
      replace h := Option.some.inj h; subst h
      exact v_vret rfl dX0_join_38
    · replace h := (if_neg c2).symm.trans h
      refine v_iload_n dX0_join_12 rfl ?_
      refine v_if_lt (tgt := 38) dX0_join_13 rfl (fun c3 => ?_) (fun c3 => ?_)
      · replace h := (if_pos c3).symm.trans h
        replace h := Option.some.inj h; subst h
        exact v_vret rfl dX0_join_38
      · replace h := (if_neg c3).symm.trans h
        refine v_iload_n dX0_join_16 rfl ?_
        refine v_aload_n dX0_join_17 rfl ?_
        refine v_callV (as := []) (st := [.int x2]) (sX0_ways rfl) dX0_join_18 mlX0_54 (CRn (by decide) (by decide)) sh_1 rfl rfl rfl (Nat.le_of_ble_eq_true rfl) ?_
        refine v_icmp_ge (tgt := 38) dX0_join_21 rfl (fun c4 => ?_) (fun c4 => ?_)
        · replace h := (if_pos c4).symm.trans h
          replace h := Option.some.inj h; subst h
          exact v_vret rfl dX0_join_38
        · replace h := (if_neg c4).symm.trans h
          refine v_aload_n dX0_join_24 rfl ?_
          refine v_getr dX0_join_25 flX0_21 sh_1 rfl ?_
          refine v_iload_n dX0_join_28 rfl ?_
          refine v_iload_n dX0_join_29 rfl ?_
          obtain ⟨M5, e6, h⟩ := Option.bind_eq_some_iff.mp h
          refine v_ist e6 dX0_join_30 sh_10 ?_
          refine v_aload_n dX0_join_31 rfl ?_
          refine v_getr dX0_join_32 flX0_21 sh_1 rfl ?_
          refine v_iload_n dX0_join_35 rfl ?_
          refine v_iload_n dX0_join_36 rfl ?_
          obtain ⟨M7, e8, h⟩ := Option.bind_eq_some_iff.mp h
          refine v_ist e8 dX0_join_37 sh_10 ?_
          replace h := Option.some.inj h; subst h
          exact v_vret rfl dX0_join_38
