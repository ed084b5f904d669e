/-! ===== BentPlainModel.in(JJJ)Z ===== -/
def fX6_in (x0 : Int64) (x2 : Int64) (x4 : Int64) : Int32 := (if (lg_cmp x0 x2) < 0 then (0 : Int32) else (if 0 < (lg_cmp x0 x4) then (0 : Int32) else (1 : Int32)))
set_option maxRecDepth 100000 in
set_option maxHeartbeats 4000000 in
theorem sX6_in {g : Wo} {M : Mem} {x0 : Int64} {x2 : Int64} {x4 : Int64} {r : Int32} (h : fX6_in x0 x2 x4 = r) : Sp g kX6_in 0 [.long x0, .long x2, .long x4] M (some (.int r)) M := by
  rw [fX6_in] at h
  refine Sp_intro (by decide) [some (.long x0), none, some (.long x2), none, some (.long x4), none] rfl (Nat.le_of_ble_eq_true rfl) ?_
  refine v_lload_n dX6_in_0 rfl ?_
  refine v_lload_n dX6_in_1 rfl ?_
  refine v_lcmp dX6_in_2 ?_
  refine v_if_lt (tgt := 17) dX6_in_3 rfl (fun c1 => ?_) (fun c1 => ?_)
  · replace h := (if_pos c1).symm.trans h
    refine v_iconst (v := 0) dX6_in_17 rfl ?_
    subst h
    exact v_zret rfl (z_nar z_0) dX6_in_18
  · replace h := (if_neg c1).symm.trans h
    refine v_lload_n dX6_in_6 rfl ?_
    refine v_lload dX6_in_7 rfl ?_
    refine v_lcmp dX6_in_9 ?_
    refine v_if_gt (tgt := 17) dX6_in_10 rfl (fun c2 => ?_) (fun c2 => ?_)
    · replace h := (if_pos c2).symm.trans h
      refine v_iconst (v := 0) dX6_in_17 rfl ?_
      subst h
      exact v_zret rfl (z_nar z_0) dX6_in_18
    · replace h := (if_neg c2).symm.trans h
      refine v_iconst (v := 1) dX6_in_13 rfl ?_
      refine v_goto (tgt := 18) dX6_in_14 rfl ?_
      subst h
      exact v_zret rfl (z_nar z_1) dX6_in_18
theorem zX6_in (x0 : Int64) (x2 : Int64) (x4 : Int64) : fX6_in x0 x2 x4 = 0 ∨ fX6_in x0 x2 x4 = 1 := by
  unfold fX6_in
  repeat (first | exact z_0 | exact z_1 | split)
/-! ===== BentPlainModel.finds(I)I ===== -/
def fX6_finds (x1 : Int32) (M : Mem) : Option (Int32 × Mem) := ((ldI M 54 7 ((-1000000001 : Int32) - x1)).bind fun v1 => ((stI M 54 7 ((-1000000001 : Int32) - x1) (v1 + (1 : Int32))).bind fun M3 => some (x1, M3)))
set_option maxRecDepth 100000 in
set_option maxHeartbeats 4000000 in
theorem sX6_finds {g : Wo} {M : Mem} {x1 : Int32} {r : Int32 × Mem} (h : fX6_finds x1 M = some r) : Sp g kX6_finds 0 [.ref 49, .int x1] M (some (.int r.1)) r.2 := by
  rw [fX6_finds] at h
  refine Sp_intro (by decide) [some (.ref 49), some (.int x1)] rfl (Nat.le_of_ble_eq_true rfl) ?_
  refine v_aload_n dX6_finds_0 rfl ?_
  refine v_getr dX6_finds_1 flX6_22 sh_49 rfl ?_
  refine v_ldc (v := -1000000001) dX6_finds_4 w_809 ?_
  refine v_iload_n dX6_finds_6 rfl ?_
  refine v_isub dX6_finds_7 ?_
  refine v_dup2 dX6_finds_8 rfl rfl ?_
  obtain ⟨v1, e2, h⟩ := Option.bind_eq_some_iff.mp h
  refine v_ild e2 dX6_finds_9 sh_54 ?_
  refine v_iconst (v := 1) dX6_finds_10 rfl ?_
  refine v_iadd dX6_finds_11 ?_
  obtain ⟨M3, e4, h⟩ := Option.bind_eq_some_iff.mp h
  refine v_ist e4 dX6_finds_12 sh_54 ?_
  refine v_iload_n dX6_finds_13 rfl ?_
  replace h := Option.some.inj h; subst h
  exact v_iret rfl dX6_finds_14
/-! ===== BentPlainModel.adds(I)I ===== -/
def fX6_adds (x1 : Int32) (M : Mem) : Option (Int32 × Mem) := ((ldI M 50 112 (0 : Int32)).bind fun v1 => ((stI M 50 112 ((2 : Int32) + v1) x1).bind fun M3 => ((ldI M3 50 112 (0 : Int32)).bind fun v5 => ((stI M3 50 112 (0 : Int32) (v5 + (1 : Int32))).bind fun M7 => ((ldI M7 50 112 (0 : Int32)).bind fun v9 => some ((v9 - (1 : Int32)), M7))))))
set_option maxRecDepth 100000 in
set_option maxHeartbeats 4000000 in
theorem sX6_adds {g : Wo} {M : Mem} {x1 : Int32} {r : Int32 × Mem} (h : fX6_adds x1 M = some r) : Sp g kX6_adds 0 [.ref 49, .int x1] M (some (.int r.1)) r.2 := by
  rw [fX6_adds] at h
  refine Sp_intro (by decide) [some (.ref 49), some (.int x1)] rfl (Nat.le_of_ble_eq_true rfl) ?_
  refine v_aload_n dX6_adds_0 rfl ?_
  refine v_getr dX6_adds_1 flX6_7 sh_49 rfl ?_
  refine v_iconst (v := 2) dX6_adds_4 rfl ?_
  refine v_aload_n dX6_adds_5 rfl ?_
  refine v_getr dX6_adds_6 flX6_7 sh_49 rfl ?_
  refine v_iconst (v := 0) dX6_adds_9 rfl ?_
  obtain ⟨v1, e2, h⟩ := Option.bind_eq_some_iff.mp h
  refine v_ild e2 dX6_adds_10 sh_50 ?_
  refine v_iadd dX6_adds_11 ?_
  refine v_iload_n dX6_adds_12 rfl ?_
  obtain ⟨M3, e4, h⟩ := Option.bind_eq_some_iff.mp h
  refine v_ist e4 dX6_adds_13 sh_50 ?_
  refine v_aload_n dX6_adds_14 rfl ?_
  refine v_getr dX6_adds_15 flX6_7 sh_49 rfl ?_
  refine v_iconst (v := 0) dX6_adds_18 rfl ?_
  refine v_dup2 dX6_adds_19 rfl rfl ?_
  obtain ⟨v5, e6, h⟩ := Option.bind_eq_some_iff.mp h
  refine v_ild e6 dX6_adds_20 sh_50 ?_
  refine v_iconst (v := 1) dX6_adds_21 rfl ?_
  refine v_iadd dX6_adds_22 ?_
  obtain ⟨M7, e8, h⟩ := Option.bind_eq_some_iff.mp h
  refine v_ist e8 dX6_adds_23 sh_50 ?_
  refine v_aload_n dX6_adds_24 rfl ?_
  refine v_getr dX6_adds_25 flX6_7 sh_49 rfl ?_
  refine v_iconst (v := 0) dX6_adds_28 rfl ?_
  obtain ⟨v9, e10, h⟩ := Option.bind_eq_some_iff.mp h
  refine v_ild e10 dX6_adds_29 sh_50 ?_
  refine v_iconst (v := 1) dX6_adds_30 rfl ?_
  refine v_isub dX6_adds_31 ?_
  replace h := Option.some.inj h; subst h
  exact v_iret rfl dX6_adds_32
/-! ===== BentPlainModel.field(I)I ===== -/
def fX6_field (x1 : Int32) (M : Mem) : Option (Int32 × Mem) := (if (fX6_in ((x1).toInt64) (0 : Int64) (9 : Int64)) = 0 then ((fX6_finds (-1000000001 : Int32) M).bind fun w9 => some (w9.1, w9.2)) else ((ldI M 50 112 (0 : Int32)).bind fun v2 => (if v2 = (16 : Int32) then ((fX6_finds (-1000000002 : Int32) M).bind fun w7 => some (w7.1, w7.2)) else ((fX6_adds x1 M).bind fun w5 => some (w5.1, w5.2)))))
set_option maxRecDepth 100000 in
set_option maxHeartbeats 4000000 in
theorem sX6_field {g : Wo} {M : Mem} {x1 : Int32} {r : Int32 × Mem} (h : fX6_field x1 M = some r) : Sp g kX6_field 1 [.ref 49, .int x1] M (some (.int r.1)) r.2 := by
  rw [fX6_field] at h
  refine Sp_intro (by decide) [some (.ref 49), some (.int x1)] rfl (Nat.le_of_ble_eq_true rfl) ?_
  refine v_iload_n dX6_field_0 rfl ?_
  refine v_i2l dX6_field_1 ?_
  refine v_lconst (v := 0) dX6_field_2 rfl ?_
  refine v_ldc2 (v := 9) dX6_field_3 w_805 ?_
  refine v_callS (as := [.long ((x1).toInt64), .long (0 : Int64), .long (9 : Int64)]) (st := []) (sX6_in rfl) dX6_field_6 mlX6_45 (CRn (by decide) (by decide)) rfl rfl (Nat.le_of_ble_eq_true rfl) ?_
  refine v_if_ne (tgt := 19) dX6_field_9 rfl (fun c1 => ?_) (fun c1 => ?_)
  · replace h := (if_neg c1).symm.trans h
    refine v_aload_n dX6_field_19 rfl ?_
    refine v_getr dX6_field_20 flX6_7 sh_49 rfl ?_
    refine v_iconst (v := 0) dX6_field_23 rfl ?_
    obtain ⟨v2, e3, h⟩ := Option.bind_eq_some_iff.mp h
    refine v_ild e3 dX6_field_24 sh_50 ?_
    refine v_bipush (v := 16) dX6_field_25 rfl ?_
    refine v_icmp_ne (tgt := 39) dX6_field_27 rfl (fun c4 => ?_) (fun c4 => ?_)
    · replace h := (if_neg c4).symm.trans h
      refine v_aload_n dX6_field_39 rfl ?_
      refine v_iload_n dX6_field_40 rfl ?_
      obtain ⟨w5, e6, h⟩ := Option.bind_eq_some_iff.mp h
      refine v_callV (as := [.int x1]) (st := []) (sX6_adds e6) dX6_field_41 mlX6_74 (CRn (by decide) (by decide)) sh_49 rfl rfl rfl (Nat.le_of_ble_eq_true rfl) ?_
      replace h := Option.some.inj h; subst h
      exact v_iret rfl dX6_field_44
    · replace h := (if_pos c4).symm.trans h
      refine v_aload_n dX6_field_30 rfl ?_
      refine v_ldc (v := -1000000002) dX6_field_31 w_814 ?_
      obtain ⟨w7, e8, h⟩ := Option.bind_eq_some_iff.mp h
      refine v_callV (as := [.int (-1000000002 : Int32)]) (st := []) (sX6_finds e8) dX6_field_33 mlX6_69 (CRn (by decide) (by decide)) sh_49 rfl rfl rfl (Nat.le_of_ble_eq_true rfl) ?_
      refine v_goto (tgt := 44) dX6_field_36 rfl ?_
      replace h := Option.some.inj h; subst h
      exact v_iret rfl dX6_field_44
  · replace h := (if_pos c1).symm.trans h
    refine v_aload_n dX6_field_12 rfl ?_
    refine v_ldc (v := -1000000001) dX6_field_13 w_809 ?_
    obtain ⟨w9, e10, h⟩ := Option.bind_eq_some_iff.mp h
    refine v_callV (as := [.int (-1000000001 : Int32)]) (st := []) (sX6_finds e10) dX6_field_15 mlX6_69 (CRn (by decide) (by decide)) sh_49 rfl rfl rfl (Nat.le_of_ble_eq_true rfl) ?_
    replace h := Option.some.inj h; subst h
    exact v_iret rfl dX6_field_18
/-! ===== BentPlainModel.isField(I)Z ===== -/
def fX6_isField (x1 : Int32) (M : Mem) : Option Int32 := ((ldI M 50 112 (0 : Int32)).bind fun v1 => some (fX6_in ((x1).toInt64) (0 : Int64) (((v1 - (1 : Int32))).toInt64)))
set_option maxRecDepth 100000 in
set_option maxHeartbeats 4000000 in
theorem sX6_isField {g : Wo} {M : Mem} {x1 : Int32} {r : Int32} (h : fX6_isField x1 M = some r) : Sp g kX6_isField 1 [.ref 49, .int x1] M (some (.int r)) M := by
  rw [fX6_isField] at h
  refine Sp_intro (by decide) [some (.ref 49), some (.int x1)] rfl (Nat.le_of_ble_eq_true rfl) ?_
  refine v_iload_n dX6_isField_0 rfl ?_
  refine v_i2l dX6_isField_1 ?_
  refine v_lconst (v := 0) dX6_isField_2 rfl ?_
  refine v_aload_n dX6_isField_3 rfl ?_
  refine v_getr dX6_isField_4 flX6_7 sh_49 rfl ?_
  refine v_iconst (v := 0) dX6_isField_7 rfl ?_
  obtain ⟨v1, e2, h⟩ := Option.bind_eq_some_iff.mp h
  refine v_ild e2 dX6_isField_8 sh_50 ?_
  refine v_iconst (v := 1) dX6_isField_9 rfl ?_
  refine v_isub dX6_isField_10 ?_
  refine v_i2l dX6_isField_11 ?_
  refine v_callS (as := [.long ((x1).toInt64), .long (0 : Int64), .long (((v1 - (1 : Int32))).toInt64)]) (st := []) (sX6_in rfl) dX6_isField_12 mlX6_45 (CRn (by decide) (by decide)) rfl rfl (Nat.le_of_ble_eq_true rfl) ?_
  replace h := Option.some.inj h; subst h
  exact v_zret rfl (z_nar (zX6_in ((x1).toInt64) (0 : Int64) (((v1 - (1 : Int32))).toInt64))) dX6_isField_15
/-! ===== BentPlainModel.gluedOf(I)I ===== -/
def fX6_gluedOf_4 {ρ : Type} (kx : Int32 → Option ρ) (y1 : Int32) (M : Mem) : Nat → Int32 → Int32 → Option ρ
  | 0, _, _ => none
  | n + 1, y2, y3 => (if (4 : Int32) ≤ y3 then (kx y2) else ((ldI M 50 112 (((18 : Int32) + ((4 : Int32) * y1)) + y3)).bind fun v2 => (fX6_gluedOf_4 kx y1 M n (y2 ||| (if v2 ≤ 0 then (0 : Int32) else ((1 : Int32) <<< (y3 &&& 31)))) (y3 + (1 : Int32)))))
def fX6_gluedOf (x1 : Int32) (M : Mem) : Option Int32 := (fX6_gluedOf_4 (fun u5 => some u5) x1 M FU (0 : Int32) (0 : Int32))
set_option maxRecDepth 100000 in
set_option maxHeartbeats 4000000 in
theorem tX6_gluedOf_4 {g : Wo} {ρ : Type} {kx : Int32 → Option ρ} {y1 : Int32} {M : Mem} {r : ρ} {rr : Option Value} {Mr : Mem} (hk : ∀ (z2 : Int32), kx z2 = some r → V g kX6_gluedOf (jm g 0 rr Mr) 41 [none, none, some (.int z2), none] [] M) : ∀ (n : Nat) (y2 : Int32) (y3 : Int32), fX6_gluedOf_4 kx y1 M n y2 y3 = some r → V g kX6_gluedOf (jm g 0 rr Mr) 4 [some (.ref 49), some (.int y1), some (.int y2), some (.int y3)] [] M := by
  intro n
  induction n with
  | zero =>
    intro y2 y3 h
    rw [fX6_gluedOf_4] at h
    cases h
  | succ n ih =>
    intro y2 y3 h
    rw [fX6_gluedOf_4] at h
    refine v_iload_n dX6_gluedOf_4 rfl ?_
    refine v_iconst (v := 4) dX6_gluedOf_5 rfl ?_
    refine v_icmp_ge (tgt := 41) dX6_gluedOf_6 rfl (fun c1 => ?_) (fun c1 => ?_)
    · replace h := (if_pos c1).symm.trans h
      refine V.sub (ls' := [none, none, some (.int y2), none]) (And.intro rfl trivial) ?_
      exact hk _ h
    · replace h := (if_neg c1).symm.trans h
      refine v_iload_n dX6_gluedOf_9 rfl ?_
      refine v_aload_n dX6_gluedOf_10 rfl ?_
      refine v_getr dX6_gluedOf_11 flX6_7 sh_49 rfl ?_
      refine v_bipush (v := 18) dX6_gluedOf_14 rfl ?_
      refine v_iconst (v := 4) dX6_gluedOf_16 rfl ?_
      refine v_iload_n dX6_gluedOf_17 rfl ?_
      refine v_imul dX6_gluedOf_18 ?_
      refine v_iadd dX6_gluedOf_19 ?_
      refine v_iload_n dX6_gluedOf_20 rfl ?_
      refine v_iadd dX6_gluedOf_21 ?_
      obtain ⟨v2, e3, h⟩ := Option.bind_eq_some_iff.mp h
      refine v_ild e3 dX6_gluedOf_22 sh_50 ?_
      have hJ : V g kX6_gluedOf (jm g 0 rr Mr) 33 [some (.ref 49), some (.int y1), none, some (.int y3)] [.int (if v2 ≤ 0 then (0 : Int32) else ((1 : Int32) <<< (y3 &&& 31))), .int y2] M := by
        refine v_ior dX6_gluedOf_33 ?_
        refine v_istore_n (ls1 := [some (.ref 49), some (.int y1), some (.int (y2 ||| (if v2 ≤ 0 then (0 : Int32) else ((1 : Int32) <<< (y3 &&& 31))))), some (.int y3)]) dX6_gluedOf_34 (Nat.le_of_ble_eq_true rfl) rfl ?_
        refine v_iinc (v := 1) (ls1 := [some (.ref 49), some (.int y1), some (.int (y2 ||| (if v2 ≤ 0 then (0 : Int32) else ((1 : Int32) <<< (y3 &&& 31))))), some (.int (y3 + (1 : Int32)))]) dX6_gluedOf_35 rfl rfl (Nat.le_of_ble_eq_true rfl) rfl ?_
        refine v_goto (tgt := 4) dX6_gluedOf_38 rfl ?_
        refine V.sub (ls' := [some (.ref 49), some (.int y1), some (.int (y2 ||| (if v2 ≤ 0 then (0 : Int32) else ((1 : Int32) <<< (y3 &&& 31))))), some (.int (y3 + (1 : Int32)))]) (And.intro rfl (And.intro rfl (And.intro rfl (And.intro rfl trivial)))) ?_
        exact ih _ _ h
      refine v_if_le (tgt := 32) dX6_gluedOf_23 rfl (fun c4 => ?_) (fun c4 => ?_)
      · refine v_iconst (v := 0) dX6_gluedOf_32 rfl ?_
        refine V.sub (ls' := [some (.ref 49), some (.int y1), none, some (.int y3)]) (And.intro rfl (And.intro rfl (And.intro rfl trivial))) ?_
        first | (simp only [if_pos c4] at hJ; exact hJ) | exact hJ | (simp only [if_pos c4] at hJ ⊢; exact hJ)
      · refine v_iconst (v := 1) dX6_gluedOf_26 rfl ?_
        refine v_iload_n dX6_gluedOf_27 rfl ?_
        refine v_ishl dX6_gluedOf_28 ?_
        refine v_goto (tgt := 33) dX6_gluedOf_29 rfl ?_
        refine V.sub (ls' := [some (.ref 49), some (.int y1), none, some (.int y3)]) (And.intro rfl (And.intro rfl (And.intro rfl trivial))) ?_
        first | (simp only [if_neg c4] at hJ; exact hJ) | exact hJ | (simp only [if_neg c4] at hJ ⊢; exact hJ)
set_option maxRecDepth 100000 in
set_option maxHeartbeats 4000000 in
theorem sX6_gluedOf {g : Wo} {M : Mem} {x1 : Int32} {r : Int32} (h : fX6_gluedOf x1 M = some r) : Sp g kX6_gluedOf 0 [.ref 49, .int x1] M (some (.int r)) M := by
  rw [fX6_gluedOf] at h
  refine Sp_intro (by decide) [some (.ref 49), some (.int x1), none, none] rfl (Nat.le_of_ble_eq_true rfl) ?_
  refine v_iconst (v := 0) dX6_gluedOf_0 rfl ?_
  refine v_istore_n (ls1 := [some (.ref 49), some (.int x1), some (.int (0 : Int32)), none]) dX6_gluedOf_1 (Nat.le_of_ble_eq_true rfl) rfl ?_
  refine v_iconst (v := 0) dX6_gluedOf_2 rfl ?_
  refine v_istore_n (ls1 := [some (.ref 49), some (.int x1), some (.int (0 : Int32)), some (.int (0 : Int32))]) dX6_gluedOf_3 (Nat.le_of_ble_eq_true rfl) rfl ?_
  refine V.sub (ls' := [some (.ref 49), some (.int x1), some (.int (0 : Int32)), some (.int (0 : Int32))]) (And.intro rfl (And.intro rfl (And.intro rfl (And.intro rfl trivial)))) ?_
  refine tX6_gluedOf_4 (fun u5 h => ?_) FU _ _ h
  refine v_iload_n dX6_gluedOf_41 rfl ?_
  replace h := Option.some.inj h; subst h
  exact v_iret rfl dX6_gluedOf_42
/-! ===== BentPlainModel.spot(II)I ===== -/
def fX6_spot (x0 : Int32) (x1 : Int32) : Int32 := (((82 : Int32) + ((5 : Int32) * x0)) + x1)
set_option maxRecDepth 100000 in
set_option maxHeartbeats 4000000 in
theorem sX6_spot {g : Wo} {M : Mem} {x0 : Int32} {x1 : Int32} {r : Int32} (h : fX6_spot x0 x1 = r) : Sp g kX6_spot 0 [.int x0, .int x1] M (some (.int r)) M := by
  rw [fX6_spot] at h
  refine Sp_intro (by decide) [some (.int x0), some (.int x1)] rfl (Nat.le_of_ble_eq_true rfl) ?_
  refine v_bipush (v := 82) dX6_spot_0 rfl ?_
  refine v_iconst (v := 5) dX6_spot_2 rfl ?_
  refine v_iload_n dX6_spot_3 rfl ?_
  refine v_imul dX6_spot_4 ?_
  refine v_iadd dX6_spot_5 ?_
  refine v_iload_n dX6_spot_6 rfl ?_
  refine v_iadd dX6_spot_7 ?_
  subst h
  exact v_iret rfl dX6_spot_8
/-! ===== BentPlainModel.partOf(II)I ===== -/
def fX6_partOf (x1 : Int32) (x2 : Int32) (M : Mem) : Option Int32 := ((ldI M 50 112 (fX6_spot x1 x2)).bind fun v1 => some v1)
set_option maxRecDepth 100000 in
set_option maxHeartbeats 4000000 in
theorem sX6_partOf {g : Wo} {M : Mem} {x1 : Int32} {x2 : Int32} {r : Int32} (h : fX6_partOf x1 x2 M = some r) : Sp g kX6_partOf 1 [.ref 49, .int x1, .int x2] M (some (.int r)) M := by
  rw [fX6_partOf] at h
  refine Sp_intro (by decide) [some (.ref 49), some (.int x1), some (.int x2)] rfl (Nat.le_of_ble_eq_true rfl) ?_
  refine v_aload_n dX6_partOf_0 rfl ?_
  refine v_getr dX6_partOf_1 flX6_7 sh_49 rfl ?_
  refine v_iload_n dX6_partOf_4 rfl ?_
  refine v_iload_n dX6_partOf_5 rfl ?_
  refine v_callS (as := [.int x1, .int x2]) (st := [.ref 50]) (sX6_spot rfl) dX6_partOf_6 mlX6_60 (CRn (by decide) (by decide)) rfl rfl (Nat.le_of_ble_eq_true rfl) ?_
  obtain ⟨v1, e2, h⟩ := Option.bind_eq_some_iff.mp h
  refine v_ild e2 dX6_partOf_9 sh_50 ?_
  replace h := Option.some.inj h; subst h
  exact v_iret rfl dX6_partOf_10
/-! ===== BentPlainModel.those(I)I ===== -/
def fX6_those_4 {ρ : Type} (kx : Int32 → Option ρ) (y1 : Int32) (M : Mem) : Nat → Int32 → Int32 → Option ρ
  | 0, _, _ => none
  | n + 1, y2, y3 => ((ldI M 50 112 (1 : Int32)).bind fun v1 => (if v1 ≤ y3 then (kx y2) else ((fX6_partOf y3 (1 : Int32) M).bind fun v4 => (fX6_those_4 kx y1 M n (y2 ||| (if v4 = y1 then ((1 : Int32) <<< (y3 &&& 31)) else (0 : Int32))) (y3 + (1 : Int32))))))
def fX6_those (x1 : Int32) (M : Mem) : Option Int32 := (fX6_those_4 (fun u7 => some u7) x1 M FU (0 : Int32) (0 : Int32))
set_option maxRecDepth 100000 in
set_option maxHeartbeats 4000000 in
theorem tX6_those_4 {g : Wo} {ρ : Type} {kx : Int32 → Option ρ} {y1 : Int32} {M : Mem} {r : ρ} {rr : Option Value} {Mr : Mem} (hk : ∀ (z2 : Int32), kx z2 = some r → V g kX6_those (jm g 2 rr Mr) 40 [none, none, some (.int z2), none] [] M) : ∀ (n : Nat) (y2 : Int32) (y3 : Int32), fX6_those_4 kx y1 M n y2 y3 = some r → V g kX6_those (jm g 2 rr Mr) 4 [some (.ref 49), some (.int y1), some (.int y2), some (.int y3)] [] M := by
  intro n
  induction n with
  | zero =>
    intro y2 y3 h
    rw [fX6_those_4] at h
    cases h
  | succ n ih =>
    intro y2 y3 h
    rw [fX6_those_4] at h
    refine v_iload_n dX6_those_4 rfl ?_
    refine v_aload_n dX6_those_5 rfl ?_
    refine v_getr dX6_those_6 flX6_7 sh_49 rfl ?_
    refine v_iconst (v := 1) dX6_those_9 rfl ?_
    obtain ⟨v1, e2, h⟩ := Option.bind_eq_some_iff.mp h
    refine v_ild e2 dX6_those_10 sh_50 ?_
    refine v_icmp_ge (tgt := 40) dX6_those_11 rfl (fun c3 => ?_) (fun c3 => ?_)
    · replace h := (if_pos c3).symm.trans h
      refine V.sub (ls' := [none, none, some (.int y2), none]) (And.intro rfl trivial) ?_
      exact hk _ h
    · replace h := (if_neg c3).symm.trans h
      refine v_iload_n dX6_those_14 rfl ?_
      refine v_aload_n dX6_those_15 rfl ?_
      refine v_iload_n dX6_those_16 rfl ?_
      refine v_iconst (v := 1) dX6_those_17 rfl ?_
      obtain ⟨v4, e5, h⟩ := Option.bind_eq_some_iff.mp h
      refine v_callV (as := [.int y3, .int (1 : Int32)]) (st := [.int y2]) (sX6_partOf e5) dX6_those_18 mlX6_64 (CRn (by decide) (by decide)) sh_49 rfl rfl rfl (Nat.le_of_ble_eq_true rfl) ?_
      refine v_iload_n dX6_those_21 rfl ?_
      have hJ : V g kX6_those (jm g 2 rr Mr) 32 [some (.ref 49), some (.int y1), none, some (.int y3)] [.int (if v4 = y1 then ((1 : Int32) <<< (y3 &&& 31)) else (0 : Int32)), .int y2] M := by
        refine v_ior dX6_those_32 ?_
        refine v_istore_n (ls1 := [some (.ref 49), some (.int y1), some (.int (y2 ||| (if v4 = y1 then ((1 : Int32) <<< (y3 &&& 31)) else (0 : Int32)))), some (.int y3)]) dX6_those_33 (Nat.le_of_ble_eq_true rfl) rfl ?_
        refine v_iinc (v := 1) (ls1 := [some (.ref 49), some (.int y1), some (.int (y2 ||| (if v4 = y1 then ((1 : Int32) <<< (y3 &&& 31)) else (0 : Int32)))), some (.int (y3 + (1 : Int32)))]) dX6_those_34 rfl rfl (Nat.le_of_ble_eq_true rfl) rfl ?_
        refine v_goto (tgt := 4) dX6_those_37 rfl ?_
        refine V.sub (ls' := [some (.ref 49), some (.int y1), some (.int (y2 ||| (if v4 = y1 then ((1 : Int32) <<< (y3 &&& 31)) else (0 : Int32)))), some (.int (y3 + (1 : Int32)))]) (And.intro rfl (And.intro rfl (And.intro rfl (And.intro rfl trivial)))) ?_
        exact ih _ _ h
      refine v_icmp_ne (tgt := 31) dX6_those_22 rfl (fun c6 => ?_) (fun c6 => ?_)
      · refine v_iconst (v := 0) dX6_those_31 rfl ?_
        refine V.sub (ls' := [some (.ref 49), some (.int y1), none, some (.int y3)]) (And.intro rfl (And.intro rfl (And.intro rfl trivial))) ?_
        first | (simp only [if_neg c6] at hJ; exact hJ) | exact hJ | (simp only [if_neg c6] at hJ ⊢; exact hJ)
      · refine v_iconst (v := 1) dX6_those_25 rfl ?_
        refine v_iload_n dX6_those_26 rfl ?_
        refine v_ishl dX6_those_27 ?_
        refine v_goto (tgt := 32) dX6_those_28 rfl ?_
        refine V.sub (ls' := [some (.ref 49), some (.int y1), none, some (.int y3)]) (And.intro rfl (And.intro rfl (And.intro rfl trivial))) ?_
        first | (simp only [if_pos c6] at hJ; exact hJ) | exact hJ | (simp only [if_pos c6] at hJ ⊢; exact hJ)
set_option maxRecDepth 100000 in
set_option maxHeartbeats 4000000 in
theorem sX6_those {g : Wo} {M : Mem} {x1 : Int32} {r : Int32} (h : fX6_those x1 M = some r) : Sp g kX6_those 2 [.ref 49, .int x1] M (some (.int r)) M := by
  rw [fX6_those] at h
  refine Sp_intro (by decide) [some (.ref 49), some (.int x1), none, none] rfl (Nat.le_of_ble_eq_true rfl) ?_
  refine v_iconst (v := 0) dX6_those_0 rfl ?_
  refine v_istore_n (ls1 := [some (.ref 49), some (.int x1), some (.int (0 : Int32)), none]) dX6_those_1 (Nat.le_of_ble_eq_true rfl) rfl ?_
  refine v_iconst (v := 0) dX6_those_2 rfl ?_
  refine v_istore_n (ls1 := [some (.ref 49), some (.int x1), some (.int (0 : Int32)), some (.int (0 : Int32))]) dX6_those_3 (Nat.le_of_ble_eq_true rfl) rfl ?_
  refine V.sub (ls' := [some (.ref 49), some (.int x1), some (.int (0 : Int32)), some (.int (0 : Int32))]) (And.intro rfl (And.intro rfl (And.intro rfl (And.intro rfl trivial)))) ?_
  refine tX6_those_4 (fun u7 h => ?_) FU _ _ h
  refine v_iload_n dX6_those_40 rfl ?_
  replace h := Option.some.inj h; subst h
  exact v_iret rfl dX6_those_41
/-! ===== BentPlainModel.of(II)I ===== -/
def fX6_of (x1 : Int32) (x2 : Int32) (M : Mem) : Option (Int32 × Mem) := ((fX6_isField x1 M).bind fun v1 => (if v1 = 0 then ((fX6_finds (-1000000001 : Int32) M).bind fun w4 => some (w4.1, w4.2)) else (if (fX6_in ((x2).toInt64) (0 : Int64) (2 : Int64)) = 0 then ((fX6_finds (-1000000001 : Int32) M).bind fun w15 => some (w15.1, w15.2)) else (if x2 = 0 then ((ldI M 50 112 ((2 : Int32) + x1)).bind fun v13 => some (v13, M)) else (if x2 = (1 : Int32) then ((fX6_gluedOf x1 M).bind fun v11 => some (v11, M)) else ((fX6_those x1 M).bind fun v9 => some (v9, M)))))))
set_option maxRecDepth 100000 in
set_option maxHeartbeats 4000000 in
theorem sX6_of {g : Wo} {M : Mem} {x1 : Int32} {x2 : Int32} {r : Int32 × Mem} (h : fX6_of x1 x2 M = some r) : Sp g kX6_of 3 [.ref 49, .int x1, .int x2] M (some (.int r.1)) r.2 := by
  rw [fX6_of] at h
  refine Sp_intro (by decide) [some (.ref 49), some (.int x1), some (.int x2)] rfl (Nat.le_of_ble_eq_true rfl) ?_
  refine v_aload_n dX6_of_0 rfl ?_
  refine v_iload_n dX6_of_1 rfl ?_
  obtain ⟨v1, e2, h⟩ := Option.bind_eq_some_iff.mp h
  refine v_callV (as := [.int x1]) (st := []) (sX6_isField e2) dX6_of_2 mlX6_53 (CRn (by decide) (by decide)) sh_49 rfl rfl rfl (Nat.le_of_ble_eq_true rfl) ?_
  refine v_if_eq (tgt := 20) dX6_of_5 rfl (fun c3 => ?_) (fun c3 => ?_)
  · replace h := (if_pos c3).symm.trans h
    refine v_aload_n dX6_of_20 rfl ?_
    refine v_ldc (v := -1000000001) dX6_of_21 w_809 ?_
    obtain ⟨w4, e5, h⟩ := Option.bind_eq_some_iff.mp h
    refine v_callV (as := [.int (-1000000001 : Int32)]) (st := []) (sX6_finds e5) dX6_of_23 mlX6_69 (CRn (by decide) (by decide)) sh_49 rfl rfl rfl (Nat.le_of_ble_eq_true rfl) ?_
    replace h := Option.some.inj h; subst h
    exact v_iret rfl dX6_of_26
  · replace h := (if_neg c3).symm.trans h
    refine v_iload_n dX6_of_8 rfl ?_
    refine v_i2l dX6_of_9 ?_
    refine v_lconst (v := 0) dX6_of_10 rfl ?_
    refine v_ldc2 (v := 2) dX6_of_11 w_827 ?_
    refine v_callS (as := [.long ((x2).toInt64), .long (0 : Int64), .long (2 : Int64)]) (st := []) (sX6_in rfl) dX6_of_14 mlX6_45 (CRn (by decide) (by decide)) rfl rfl (Nat.le_of_ble_eq_true rfl) ?_
    refine v_if_ne (tgt := 27) dX6_of_17 rfl (fun c6 => ?_) (fun c6 => ?_)
    · replace h := (if_neg c6).symm.trans h
      refine v_iload_n dX6_of_27 rfl ?_
      refine v_if_ne (tgt := 42) dX6_of_28 rfl (fun c7 => ?_) (fun c7 => ?_)
      · replace h := (if_neg c7).symm.trans h
        refine v_iload_n dX6_of_42 rfl ?_
        refine v_iconst (v := 1) dX6_of_43 rfl ?_
        refine v_icmp_ne (tgt := 55) dX6_of_44 rfl (fun c8 => ?_) (fun c8 => ?_)
        · replace h := (if_neg c8).symm.trans h
          refine v_aload_n dX6_of_55 rfl ?_
          refine v_iload_n dX6_of_56 rfl ?_
          obtain ⟨v9, e10, h⟩ := Option.bind_eq_some_iff.mp h
          refine v_callV (as := [.int x1]) (st := []) (sX6_those e10) dX6_of_57 mlX6_82 (CRn (by decide) (by decide)) sh_49 rfl rfl rfl (Nat.le_of_ble_eq_true rfl) ?_
          replace h := Option.some.inj h; subst h
          exact v_iret rfl dX6_of_60
        · replace h := (if_pos c8).symm.trans h
          refine v_aload_n dX6_of_47 rfl ?_
          refine v_iload_n dX6_of_48 rfl ?_
          obtain ⟨v11, e12, h⟩ := Option.bind_eq_some_iff.mp h
          refine v_callV (as := [.int x1]) (st := []) (sX6_gluedOf e12) dX6_of_49 mlX6_79 (CRn (by decide) (by decide)) sh_49 rfl rfl rfl (Nat.le_of_ble_eq_true rfl) ?_
          refine v_goto (tgt := 60) dX6_of_52 rfl ?_
          replace h := Option.some.inj h; subst h
          exact v_iret rfl dX6_of_60
      · replace h := (if_pos c7).symm.trans h
        refine v_aload_n dX6_of_31 rfl ?_
        refine v_getr dX6_of_32 flX6_7 sh_49 rfl ?_
        refine v_iconst (v := 2) dX6_of_35 rfl ?_
        refine v_iload_n dX6_of_36 rfl ?_
        refine v_iadd dX6_of_37 ?_
        obtain ⟨v13, e14, h⟩ := Option.bind_eq_some_iff.mp h
        refine v_ild e14 dX6_of_38 sh_50 ?_
        refine v_goto (tgt := 60) dX6_of_39 rfl ?_
        replace h := Option.some.inj h; subst h
        exact v_iret rfl dX6_of_60
    · replace h := (if_pos c6).symm.trans h
      refine v_aload_n dX6_of_20 rfl ?_
      refine v_ldc (v := -1000000001) dX6_of_21 w_809 ?_
      obtain ⟨w15, e16, h⟩ := Option.bind_eq_some_iff.mp h
      refine v_callV (as := [.int (-1000000001 : Int32)]) (st := []) (sX6_finds e16) dX6_of_23 mlX6_69 (CRn (by decide) (by decide)) sh_49 rfl rfl rfl (Nat.le_of_ble_eq_true rfl) ?_
      replace h := Option.some.inj h; subst h
      exact v_iret rfl dX6_of_26
/-! ===== BentPlainModel.becomes(II)I ===== -/
def fX6_becomes (x1 : Int32) (x2 : Int32) (M : Mem) : Option (Int32 × Mem) := ((ldI M 50 112 x1).bind fun v1 => ((stI M 50 112 x1 x2).bind fun M3 => some (v1, M3)))
set_option maxRecDepth 100000 in
set_option maxHeartbeats 4000000 in
theorem sX6_becomes {g : Wo} {M : Mem} {x1 : Int32} {x2 : Int32} {r : Int32 × Mem} (h : fX6_becomes x1 x2 M = some r) : Sp g kX6_becomes 0 [.ref 49, .int x1, .int x2] M (some (.int r.1)) r.2 := by
  rw [fX6_becomes] at h
  refine Sp_intro (by decide) [some (.ref 49), some (.int x1), some (.int x2), none] rfl (Nat.le_of_ble_eq_true rfl) ?_
  refine v_aload_n dX6_becomes_0 rfl ?_
  refine v_getr dX6_becomes_1 flX6_7 sh_49 rfl ?_
  refine v_iload_n dX6_becomes_4 rfl ?_
  obtain ⟨v1, e2, h⟩ := Option.bind_eq_some_iff.mp h
  refine v_ild e2 dX6_becomes_5 sh_50 ?_
  refine v_istore_n (ls1 := [some (.ref 49), some (.int x1), some (.int x2), some (.int v1)]) dX6_becomes_6 (Nat.le_of_ble_eq_true rfl) rfl ?_
  refine v_aload_n dX6_becomes_7 rfl ?_
  refine v_getr dX6_becomes_8 flX6_7 sh_49 rfl ?_
  refine v_iload_n dX6_becomes_11 rfl ?_
  refine v_iload_n dX6_becomes_12 rfl ?_
  obtain ⟨M3, e4, h⟩ := Option.bind_eq_some_iff.mp h
  refine v_ist e4 dX6_becomes_13 sh_50 ?_
  refine v_iload_n dX6_becomes_14 rfl ?_
  replace h := Option.some.inj h; subst h
  exact v_iret rfl dX6_becomes_15
/-! ===== BentPlainModel.rough(II)I ===== -/
def fX6_rough (x1 : Int32) (x2 : Int32) (M : Mem) : Option (Int32 × Mem) := ((fX6_isField x1 M).bind fun v1 => (if v1 = 0 then ((fX6_finds (-1000000001 : Int32) M).bind fun w4 => some (w4.1, w4.2)) else (if (fX6_in ((x2).toInt64) (0 : Int64) (9 : Int64)) = 0 then ((fX6_finds (-1000000001 : Int32) M).bind fun w7 => some (w7.1, w7.2)) else ((fX6_becomes ((2 : Int32) + x1) x2 M).bind fun w9 => some (w9.1, w9.2)))))
set_option maxRecDepth 100000 in
set_option maxHeartbeats 4000000 in
theorem sX6_rough {g : Wo} {M : Mem} {x1 : Int32} {x2 : Int32} {r : Int32 × Mem} (h : fX6_rough x1 x2 M = some r) : Sp g kX6_rough 2 [.ref 49, .int x1, .int x2] M (some (.int r.1)) r.2 := by
  rw [fX6_rough] at h
  refine Sp_intro (by decide) [some (.ref 49), some (.int x1), some (.int x2)] rfl (Nat.le_of_ble_eq_true rfl) ?_
  refine v_aload_n dX6_rough_0 rfl ?_
  refine v_iload_n dX6_rough_1 rfl ?_
  obtain ⟨v1, e2, h⟩ := Option.bind_eq_some_iff.mp h
  refine v_callV (as := [.int x1]) (st := []) (sX6_isField e2) dX6_rough_2 mlX6_53 (CRn (by decide) (by decide)) sh_49 rfl rfl rfl (Nat.le_of_ble_eq_true rfl) ?_
  refine v_if_eq (tgt := 31) dX6_rough_5 rfl (fun c3 => ?_) (fun c3 => ?_)
  · replace h := (if_pos c3).symm.trans h
    refine v_aload_n dX6_rough_31 rfl ?_
    refine v_ldc (v := -1000000001) dX6_rough_32 w_809 ?_
    obtain ⟨w4, e5, h⟩ := Option.bind_eq_some_iff.mp h
    refine v_callV (as := [.int (-1000000001 : Int32)]) (st := []) (sX6_finds e5) dX6_rough_34 mlX6_69 (CRn (by decide) (by decide)) sh_49 rfl rfl rfl (Nat.le_of_ble_eq_true rfl) ?_
    replace h := Option.some.inj h; subst h
    exact v_iret rfl dX6_rough_37
  · replace h := (if_neg c3).symm.trans h
    refine v_iload_n dX6_rough_8 rfl ?_
    refine v_i2l dX6_rough_9 ?_
    refine v_lconst (v := 0) dX6_rough_10 rfl ?_
    refine v_ldc2 (v := 9) dX6_rough_11 w_805 ?_
    refine v_callS (as := [.long ((x2).toInt64), .long (0 : Int64), .long (9 : Int64)]) (st := []) (sX6_in rfl) dX6_rough_14 mlX6_45 (CRn (by decide) (by decide)) rfl rfl (Nat.le_of_ble_eq_true rfl) ?_
    refine v_if_eq (tgt := 31) dX6_rough_17 rfl (fun c6 => ?_) (fun c6 => ?_)
    · replace h := (if_pos c6).symm.trans h
      refine v_aload_n dX6_rough_31 rfl ?_
      refine v_ldc (v := -1000000001) dX6_rough_32 w_809 ?_
      obtain ⟨w7, e8, h⟩ := Option.bind_eq_some_iff.mp h
      refine v_callV (as := [.int (-1000000001 : Int32)]) (st := []) (sX6_finds e8) dX6_rough_34 mlX6_69 (CRn (by decide) (by decide)) sh_49 rfl rfl rfl (Nat.le_of_ble_eq_true rfl) ?_
      replace h := Option.some.inj h; subst h
      exact v_iret rfl dX6_rough_37
    · replace h := (if_neg c6).symm.trans h
      refine v_aload_n dX6_rough_20 rfl ?_
      refine v_iconst (v := 2) dX6_rough_21 rfl ?_
      refine v_iload_n dX6_rough_22 rfl ?_
      refine v_iadd dX6_rough_23 ?_
      refine v_iload_n dX6_rough_24 rfl ?_
      obtain ⟨w9, e10, h⟩ := Option.bind_eq_some_iff.mp h
      refine v_callV (as := [.int ((2 : Int32) + x1), .int x2]) (st := []) (sX6_becomes e10) dX6_rough_25 mlX6_85 (CRn (by decide) (by decide)) sh_49 rfl rfl rfl (Nat.le_of_ble_eq_true rfl) ?_
      refine v_goto (tgt := 37) dX6_rough_28 rfl ?_
      replace h := Option.some.inj h; subst h
      exact v_iret rfl dX6_rough_37
/-! ===== BentPlainModel.isSide(I)Z ===== -/
def fX6_isSide (x0 : Int32) : Int32 := (fX6_in ((x0).toInt64) (0 : Int64) (3 : Int64))
set_option maxRecDepth 100000 in
set_option maxHeartbeats 4000000 in
theorem sX6_isSide {g : Wo} {M : Mem} {x0 : Int32} {r : Int32} (h : fX6_isSide x0 = r) : Sp g kX6_isSide 1 [.int x0] M (some (.int r)) M := by
  rw [fX6_isSide] at h
  refine Sp_intro (by decide) [some (.int x0)] rfl (Nat.le_of_ble_eq_true rfl) ?_
  refine v_iload_n dX6_isSide_0 rfl ?_
  refine v_i2l dX6_isSide_1 ?_
  refine v_lconst (v := 0) dX6_isSide_2 rfl ?_
  refine v_ldc2 (v := 3) dX6_isSide_3 w_862 ?_
  refine v_callS (as := [.long ((x0).toInt64), .long (0 : Int64), .long (3 : Int64)]) (st := []) (sX6_in rfl) dX6_isSide_6 mlX6_45 (CRn (by decide) (by decide)) rfl rfl (Nat.le_of_ble_eq_true rfl) ?_
  subst h
  exact v_zret rfl (z_nar (zX6_in ((x0).toInt64) (0 : Int64) (3 : Int64))) dX6_isSide_9
/-! ===== BentPlainModel.isWay(II)Z ===== -/
def fX6_isWay (x1 : Int32) (x2 : Int32) (M : Mem) : Option Int32 := ((fX6_isField x1 M).bind fun v1 => (if v1 = 0 then some (0 : Int32) else (if (fX6_isSide x2) = 0 then some (0 : Int32) else some (1 : Int32))))
set_option maxRecDepth 100000 in
set_option maxHeartbeats 4000000 in
theorem sX6_isWay {g : Wo} {M : Mem} {x1 : Int32} {x2 : Int32} {r : Int32} (h : fX6_isWay x1 x2 M = some r) : Sp g kX6_isWay 2 [.ref 49, .int x1, .int x2] M (some (.int r)) M := by
  rw [fX6_isWay] at h
  refine Sp_intro (by decide) [some (.ref 49), some (.int x1), some (.int x2)] rfl (Nat.le_of_ble_eq_true rfl) ?_
  refine v_aload_n dX6_isWay_0 rfl ?_
  refine v_iload_n dX6_isWay_1 rfl ?_
  obtain ⟨v1, e2, h⟩ := Option.bind_eq_some_iff.mp h
  refine v_callV (as := [.int x1]) (st := []) (sX6_isField e2) dX6_isWay_2 mlX6_53 (CRn (by decide) (by decide)) sh_49 rfl rfl rfl (Nat.le_of_ble_eq_true rfl) ?_
  refine v_if_eq (tgt := 19) dX6_isWay_5 rfl (fun c3 => ?_) (fun c3 => ?_)
  · replace h := (if_pos c3).symm.trans h
    refine v_iconst (v := 0) dX6_isWay_19 rfl ?_
    replace h := Option.some.inj h; subst h
    exact v_zret rfl (z_nar z_0) dX6_isWay_20
  · replace h := (if_neg c3).symm.trans h
    refine v_iload_n dX6_isWay_8 rfl ?_
    refine v_callS (as := [.int x2]) (st := []) (sX6_isSide rfl) dX6_isWay_9 mlX6_57 (CRn (by decide) (by decide)) rfl rfl (Nat.le_of_ble_eq_true rfl) ?_
    refine v_if_eq (tgt := 19) dX6_isWay_12 rfl (fun c4 => ?_) (fun c4 => ?_)
    · replace h := (if_pos c4).symm.trans h
      refine v_iconst (v := 0) dX6_isWay_19 rfl ?_
      replace h := Option.some.inj h; subst h
      exact v_zret rfl (z_nar z_0) dX6_isWay_20
    · replace h := (if_neg c4).symm.trans h
      refine v_iconst (v := 1) dX6_isWay_15 rfl ?_
      refine v_goto (tgt := 20) dX6_isWay_16 rfl ?_
      replace h := Option.some.inj h; subst h
      exact v_zret rfl (z_nar z_1) dX6_isWay_20
/-! ===== BentPlainModel.glues(II)V ===== -/
def fX6_glues (x1 : Int32) (x2 : Int32) (M : Mem) : Option Mem := ((stI M 50 112 ((18 : Int32) + x1) ((1 : Int32) + x2)).bind fun M1 => ((stI M1 50 112 ((18 : Int32) + x2) ((1 : Int32) + x1)).bind fun M3 => some M3))
set_option maxRecDepth 100000 in
set_option maxHeartbeats 4000000 in
theorem sX6_glues {g : Wo} {M : Mem} {x1 : Int32} {x2 : Int32} {r : Mem} (h : fX6_glues x1 x2 M = some r) : Sp g kX6_glues 0 [.ref 49, .int x1, .int x2] M none r := by
  rw [fX6_glues] at h
  refine Sp_intro (by decide) [some (.ref 49), some (.int x1), some (.int x2)] rfl (Nat.le_of_ble_eq_true rfl) ?_
  refine v_aload_n dX6_glues_0 rfl ?_
  refine v_getr dX6_glues_1 flX6_7 sh_49 rfl ?_
  refine v_bipush (v := 18) dX6_glues_4 rfl ?_
  refine v_iload_n dX6_glues_6 rfl ?_
  refine v_iadd dX6_glues_7 ?_
  refine v_iconst (v := 1) dX6_glues_8 rfl ?_
  refine v_iload_n dX6_glues_9 rfl ?_
  refine v_iadd dX6_glues_10 ?_
  obtain ⟨M1, e2, h⟩ := Option.bind_eq_some_iff.mp h
  refine v_ist e2 dX6_glues_11 sh_50 ?_
  refine v_aload_n dX6_glues_12 rfl ?_
  refine v_getr dX6_glues_13 flX6_7 sh_49 rfl ?_
  refine v_bipush (v := 18) dX6_glues_16 rfl ?_
  refine v_iload_n dX6_glues_18 rfl ?_
  refine v_iadd dX6_glues_19 ?_
  refine v_iconst (v := 1) dX6_glues_20 rfl ?_
  refine v_iload_n dX6_glues_21 rfl ?_
  refine v_iadd dX6_glues_22 ?_
  obtain ⟨M3, e4, h⟩ := Option.bind_eq_some_iff.mp h
  refine v_ist e4 dX6_glues_23 sh_50 ?_
  replace h := Option.some.inj h; subst h
  exact v_vret rfl dX6_glues_24
/-! ===== BentPlainModel.glue(IIII)I ===== -/
def fX6_glue (x1 : Int32) (x2 : Int32) (x3 : Int32) (x4 : Int32) (M : Mem) : Option (Int32 × Mem) := ((fX6_isWay x1 x2 M).bind fun v1 => (if v1 = 0 then ((fX6_finds (-1000000001 : Int32) M).bind fun w4 => some (w4.1, w4.2)) else ((fX6_isWay x3 x4 M).bind fun v6 => (if v6 = 0 then ((fX6_finds (-1000000001 : Int32) M).bind fun w9 => some (w9.1, w9.2)) else (if x1 = x3 then (if x2 = x4 then ((fX6_finds (-1000000001 : Int32) M).bind fun w37 => some (w37.1, w37.2)) else ((ldI M 50 112 (((18 : Int32) + ((4 : Int32) * x1)) + x2)).bind fun v25 => (if 0 < v25 then ((fX6_finds (-1000000005 : Int32) M).bind fun w28 => some (w28.1, w28.2)) else ((ldI M 50 112 (((18 : Int32) + ((4 : Int32) * x3)) + x4)).bind fun v30 => (if v30 ≤ 0 then ((fX6_glues (((4 : Int32) * x1) + x2) (((4 : Int32) * x3) + x4) M).bind fun w33 => some ((1 : Int32), w33)) else ((fX6_finds (-1000000005 : Int32) M).bind fun w35 => some (w35.1, w35.2))))))) else ((ldI M 50 112 (((18 : Int32) + ((4 : Int32) * x1)) + x2)).bind fun v12 => (if 0 < v12 then ((fX6_finds (-1000000005 : Int32) M).bind fun w15 => some (w15.1, w15.2)) else ((ldI M 50 112 (((18 : Int32) + ((4 : Int32) * x3)) + x4)).bind fun v17 => (if v17 ≤ 0 then ((fX6_glues (((4 : Int32) * x1) + x2) (((4 : Int32) * x3) + x4) M).bind fun w20 => some ((1 : Int32), w20)) else ((fX6_finds (-1000000005 : Int32) M).bind fun w22 => some (w22.1, w22.2)))))))))))
set_option maxRecDepth 100000 in
set_option maxHeartbeats 4000000 in
theorem sX6_glue {g : Wo} {M : Mem} {x1 : Int32} {x2 : Int32} {x3 : Int32} {x4 : Int32} {r : Int32 × Mem} (h : fX6_glue x1 x2 x3 x4 M = some r) : Sp g kX6_glue 3 [.ref 49, .int x1, .int x2, .int x3, .int x4] M (some (.int r.1)) r.2 := by
  rw [fX6_glue] at h
  refine Sp_intro (by decide) [some (.ref 49), some (.int x1), some (.int x2), some (.int x3), some (.int x4)] rfl (Nat.le_of_ble_eq_true rfl) ?_
  refine v_aload_n dX6_glue_0 rfl ?_
  refine v_iload_n dX6_glue_1 rfl ?_
  refine v_iload_n dX6_glue_2 rfl ?_
  obtain ⟨v1, e2, h⟩ := Option.bind_eq_some_iff.mp h
  refine v_callV (as := [.int x1, .int x2]) (st := []) (sX6_isWay e2) dX6_glue_3 mlX6_88 (CRn (by decide) (by decide)) sh_49 rfl rfl rfl (Nat.le_of_ble_eq_true rfl) ?_
  refine v_if_eq (tgt := 30) dX6_glue_6 rfl (fun c3 => ?_) (fun c3 => ?_)
  · replace h := (if_pos c3).symm.trans h
    refine v_aload_n dX6_glue_30 rfl ?_
    refine v_ldc (v := -1000000001) dX6_glue_31 w_809 ?_
    obtain ⟨w4, e5, h⟩ := Option.bind_eq_some_iff.mp h
    refine v_callV (as := [.int (-1000000001 : Int32)]) (st := []) (sX6_finds e5) dX6_glue_33 mlX6_69 (CRn (by decide) (by decide)) sh_49 rfl rfl rfl (Nat.le_of_ble_eq_true rfl) ?_
    replace h := Option.some.inj h; subst h
    exact v_iret rfl dX6_glue_36
  · replace h := (if_neg c3).symm.trans h
    refine v_aload_n dX6_glue_9 rfl ?_
    refine v_iload_n dX6_glue_10 rfl ?_
    refine v_iload dX6_glue_11 rfl ?_
    obtain ⟨v6, e7, h⟩ := Option.bind_eq_some_iff.mp h
    refine v_callV (as := [.int x3, .int x4]) (st := []) (sX6_isWay e7) dX6_glue_13 mlX6_88 (CRn (by decide) (by decide)) sh_49 rfl rfl rfl (Nat.le_of_ble_eq_true rfl) ?_
    refine v_if_eq (tgt := 30) dX6_glue_16 rfl (fun c8 => ?_) (fun c8 => ?_)
    · replace h := (if_pos c8).symm.trans h
      refine v_aload_n dX6_glue_30 rfl ?_
      refine v_ldc (v := -1000000001) dX6_glue_31 w_809 ?_
      obtain ⟨w9, e10, h⟩ := Option.bind_eq_some_iff.mp h
      refine v_callV (as := [.int (-1000000001 : Int32)]) (st := []) (sX6_finds e10) dX6_glue_33 mlX6_69 (CRn (by decide) (by decide)) sh_49 rfl rfl rfl (Nat.le_of_ble_eq_true rfl) ?_
      replace h := Option.some.inj h; subst h
      exact v_iret rfl dX6_glue_36
    · replace h := (if_neg c8).symm.trans h
      refine v_iload_n dX6_glue_19 rfl ?_
      refine v_iload_n dX6_glue_20 rfl ?_
      refine v_icmp_ne (tgt := 37) dX6_glue_21 rfl (fun c11 => ?_) (fun c11 => ?_)
      · replace h := (if_neg c11).symm.trans h
        refine v_aload_n dX6_glue_37 rfl ?_
        refine v_getr dX6_glue_38 flX6_7 sh_49 rfl ?_
        refine v_bipush (v := 18) dX6_glue_41 rfl ?_
        refine v_iconst (v := 4) dX6_glue_43 rfl ?_
        refine v_iload_n dX6_glue_44 rfl ?_
        refine v_imul dX6_glue_45 ?_
        refine v_iadd dX6_glue_46 ?_
        refine v_iload_n dX6_glue_47 rfl ?_
        refine v_iadd dX6_glue_48 ?_
        obtain ⟨v12, e13, h⟩ := Option.bind_eq_some_iff.mp h
        refine v_ild e13 dX6_glue_49 sh_50 ?_
        refine v_if_gt (tgt := 70) dX6_glue_50 rfl (fun c14 => ?_) (fun c14 => ?_)
        · replace h := (if_pos c14).symm.trans h
          refine v_aload_n dX6_glue_70 rfl ?_
          refine v_ldc (v := -1000000005) dX6_glue_71 w_863 ?_
          obtain ⟨w15, e16, h⟩ := Option.bind_eq_some_iff.mp h
          refine v_callV (as := [.int (-1000000005 : Int32)]) (st := []) (sX6_finds e16) dX6_glue_73 mlX6_69 (CRn (by decide) (by decide)) sh_49 rfl rfl rfl (Nat.le_of_ble_eq_true rfl) ?_
          replace h := Option.some.inj h; subst h
          exact v_iret rfl dX6_glue_76
        · replace h := (if_neg c14).symm.trans h
          refine v_aload_n dX6_glue_53 rfl ?_
          refine v_getr dX6_glue_54 flX6_7 sh_49 rfl ?_
          refine v_bipush (v := 18) dX6_glue_57 rfl ?_
          refine v_iconst (v := 4) dX6_glue_59 rfl ?_
          refine v_iload_n dX6_glue_60 rfl ?_
          refine v_imul dX6_glue_61 ?_
          refine v_iadd dX6_glue_62 ?_
          refine v_iload dX6_glue_63 rfl ?_
          refine v_iadd dX6_glue_65 ?_
          obtain ⟨v17, e18, h⟩ := Option.bind_eq_some_iff.mp h
          refine v_ild e18 dX6_glue_66 sh_50 ?_
          refine v_if_le (tgt := 77) dX6_glue_67 rfl (fun c19 => ?_) (fun c19 => ?_)
          · replace h := (if_pos c19).symm.trans h
            refine v_aload_n dX6_glue_77 rfl ?_
            refine v_iconst (v := 4) dX6_glue_78 rfl ?_
            refine v_iload_n dX6_glue_79 rfl ?_
            refine v_imul dX6_glue_80 ?_
            refine v_iload_n dX6_glue_81 rfl ?_
            refine v_iadd dX6_glue_82 ?_
            refine v_iconst (v := 4) dX6_glue_83 rfl ?_
            refine v_iload_n dX6_glue_84 rfl ?_
            refine v_imul dX6_glue_85 ?_
            refine v_iload dX6_glue_86 rfl ?_
            refine v_iadd dX6_glue_88 ?_
            obtain ⟨w20, e21, h⟩ := Option.bind_eq_some_iff.mp h
            refine v_callV (as := [.int (((4 : Int32) * x1) + x2), .int (((4 : Int32) * x3) + x4)]) (st := []) (sX6_glues e21) dX6_glue_89 mlX6_93 (CRn (by decide) (by decide)) sh_49 rfl rfl rfl (Nat.le_of_ble_eq_true rfl) ?_
            refine v_iconst (v := 1) dX6_glue_92 rfl ?_
            replace h := Option.some.inj h; subst h
            exact v_iret rfl dX6_glue_93
          · replace h := (if_neg c19).symm.trans h
            refine v_aload_n dX6_glue_70 rfl ?_
            refine v_ldc (v := -1000000005) dX6_glue_71 w_863 ?_
            obtain ⟨w22, e23, h⟩ := Option.bind_eq_some_iff.mp h
            refine v_callV (as := [.int (-1000000005 : Int32)]) (st := []) (sX6_finds e23) dX6_glue_73 mlX6_69 (CRn (by decide) (by decide)) sh_49 rfl rfl rfl (Nat.le_of_ble_eq_true rfl) ?_
            replace h := Option.some.inj h; subst h
            exact v_iret rfl dX6_glue_76
      · replace h := (if_pos c11).symm.trans h
        refine v_iload_n dX6_glue_24 rfl ?_
        refine v_iload dX6_glue_25 rfl ?_
        refine v_icmp_ne (tgt := 37) dX6_glue_27 rfl (fun c24 => ?_) (fun c24 => ?_)
        · replace h := (if_neg c24).symm.trans h
          refine v_aload_n dX6_glue_37 rfl ?_
          refine v_getr dX6_glue_38 flX6_7 sh_49 rfl ?_
          refine v_bipush (v := 18) dX6_glue_41 rfl ?_
          refine v_iconst (v := 4) dX6_glue_43 rfl ?_
          refine v_iload_n dX6_glue_44 rfl ?_
          refine v_imul dX6_glue_45 ?_
          refine v_iadd dX6_glue_46 ?_
          refine v_iload_n dX6_glue_47 rfl ?_
          refine v_iadd dX6_glue_48 ?_
          obtain ⟨v25, e26, h⟩ := Option.bind_eq_some_iff.mp h
          refine v_ild e26 dX6_glue_49 sh_50 ?_
          refine v_if_gt (tgt := 70) dX6_glue_50 rfl (fun c27 => ?_) (fun c27 => ?_)
          · replace h := (if_pos c27).symm.trans h
            refine v_aload_n dX6_glue_70 rfl ?_
            refine v_ldc (v := -1000000005) dX6_glue_71 w_863 ?_
            obtain ⟨w28, e29, h⟩ := Option.bind_eq_some_iff.mp h
            refine v_callV (as := [.int (-1000000005 : Int32)]) (st := []) (sX6_finds e29) dX6_glue_73 mlX6_69 (CRn (by decide) (by decide)) sh_49 rfl rfl rfl (Nat.le_of_ble_eq_true rfl) ?_
            replace h := Option.some.inj h; subst h
            exact v_iret rfl dX6_glue_76
          · replace h := (if_neg c27).symm.trans h
            refine v_aload_n dX6_glue_53 rfl ?_
            refine v_getr dX6_glue_54 flX6_7 sh_49 rfl ?_
            refine v_bipush (v := 18) dX6_glue_57 rfl ?_
            refine v_iconst (v := 4) dX6_glue_59 rfl ?_
            refine v_iload_n dX6_glue_60 rfl ?_
            refine v_imul dX6_glue_61 ?_
            refine v_iadd dX6_glue_62 ?_
            refine v_iload dX6_glue_63 rfl ?_
            refine v_iadd dX6_glue_65 ?_
            obtain ⟨v30, e31, h⟩ := Option.bind_eq_some_iff.mp h
            refine v_ild e31 dX6_glue_66 sh_50 ?_
            refine v_if_le (tgt := 77) dX6_glue_67 rfl (fun c32 => ?_) (fun c32 => ?_)
            · replace h := (if_pos c32).symm.trans h
              refine v_aload_n dX6_glue_77 rfl ?_
              refine v_iconst (v := 4) dX6_glue_78 rfl ?_
              refine v_iload_n dX6_glue_79 rfl ?_
              refine v_imul dX6_glue_80 ?_
              refine v_iload_n dX6_glue_81 rfl ?_
              refine v_iadd dX6_glue_82 ?_
              refine v_iconst (v := 4) dX6_glue_83 rfl ?_
              refine v_iload_n dX6_glue_84 rfl ?_
              refine v_imul dX6_glue_85 ?_
              refine v_iload dX6_glue_86 rfl ?_
              refine v_iadd dX6_glue_88 ?_
              obtain ⟨w33, e34, h⟩ := Option.bind_eq_some_iff.mp h
              refine v_callV (as := [.int (((4 : Int32) * x1) + x2), .int (((4 : Int32) * x3) + x4)]) (st := []) (sX6_glues e34) dX6_glue_89 mlX6_93 (CRn (by decide) (by decide)) sh_49 rfl rfl rfl (Nat.le_of_ble_eq_true rfl) ?_
              refine v_iconst (v := 1) dX6_glue_92 rfl ?_
              replace h := Option.some.inj h; subst h
              exact v_iret rfl dX6_glue_93
            · replace h := (if_neg c32).symm.trans h
              refine v_aload_n dX6_glue_70 rfl ?_
              refine v_ldc (v := -1000000005) dX6_glue_71 w_863 ?_
              obtain ⟨w35, e36, h⟩ := Option.bind_eq_some_iff.mp h
              refine v_callV (as := [.int (-1000000005 : Int32)]) (st := []) (sX6_finds e36) dX6_glue_73 mlX6_69 (CRn (by decide) (by decide)) sh_49 rfl rfl rfl (Nat.le_of_ble_eq_true rfl) ?_
              replace h := Option.some.inj h; subst h
              exact v_iret rfl dX6_glue_76
        · replace h := (if_pos c24).symm.trans h
          refine v_aload_n dX6_glue_30 rfl ?_
          refine v_ldc (v := -1000000001) dX6_glue_31 w_809 ?_
          obtain ⟨w37, e38, h⟩ := Option.bind_eq_some_iff.mp h
          refine v_callV (as := [.int (-1000000001 : Int32)]) (st := []) (sX6_finds e38) dX6_glue_33 mlX6_69 (CRn (by decide) (by decide)) sh_49 rfl rfl rfl (Nat.le_of_ble_eq_true rfl) ?_
          replace h := Option.some.inj h; subst h
          exact v_iret rfl dX6_glue_36
