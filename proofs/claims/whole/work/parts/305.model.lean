/-! ===== BentPlainModel.isFirst(I)Z ===== -/
def fX6_isFirst_8 {ρ : Type} (kx : Int32 → Option ρ) (y1 : Int32) (M : Mem) : Nat → Int32 → Int32 → Option ρ
  | 0, _, _ => none
  | n + 1, y2, y3 => (if y3 = y1 then (kx y2) else (if y2 = 0 then (kx y2) else ((fX6_beside y3 M).bind fun v6 => (fX6_isFirst_8 kx y1 M n (if y3 ≤ y1 then (0 : Int32) else (1 : Int32)) v6))))
def fX6_isFirst (x1 : Int32) (M : Mem) : Option Int32 := ((fX6_beside x1 M).bind fun v1 => (fX6_isFirst_8 (fun u8 => (zck u8).bind fun v9 => some v9) x1 M FU (1 : Int32) v1))
set_option maxRecDepth 100000 in
set_option maxHeartbeats 4000000 in
theorem tX6_isFirst_8 {g : Wo} {ρ : Type} {kx : Int32 → Option ρ} {y1 : Int32} {M : Mem} {r : ρ} {rr : Option Value} {Mr : Mem} (hk : ∀ (z2 : Int32), kx z2 = some r → V g kX6_isFirst (jm g 1 rr Mr) 37 [none, none, some (.int z2), none] [] M) : ∀ (n : Nat) (y2 : Int32) (y3 : Int32), fX6_isFirst_8 kx y1 M n y2 y3 = some r → V g kX6_isFirst (jm g 1 rr Mr) 8 [some (.ref 49), some (.int y1), some (.int y2), some (.int y3)] [] M := by
  intro n
  induction n with
  | zero =>
    intro y2 y3 h
    rw [fX6_isFirst_8] at h
    cases h
  | succ n ih =>
    intro y2 y3 h
    rw [fX6_isFirst_8] at h
    refine v_iload_n dX6_isFirst_8 rfl ?_
    refine v_iload_n dX6_isFirst_9 rfl ?_
    refine v_icmp_eq (tgt := 37) dX6_isFirst_10 rfl (fun c3 => ?_) (fun c3 => ?_)
    · replace h := (if_pos c3).symm.trans h
      refine V.sub (ls' := [none, none, some (.int y2), none]) (And.intro rfl trivial) ?_
      exact hk _ h
    · replace h := (if_neg c3).symm.trans h
      refine v_iload_n dX6_isFirst_13 rfl ?_
      refine v_if_eq (tgt := 37) dX6_isFirst_14 rfl (fun c4 => ?_) (fun c4 => ?_)
      · replace h := (if_pos c4).symm.trans h
        refine V.sub (ls' := [none, none, some (.int y2), none]) (And.intro rfl trivial) ?_
        exact hk _ h
      · replace h := (if_neg c4).symm.trans h
        refine v_iload_n dX6_isFirst_17 rfl ?_
        refine v_iload_n dX6_isFirst_18 rfl ?_
        have hJ : V g kX6_isFirst (jm g 1 rr Mr) 27 [some (.ref 49), some (.int y1), none, some (.int y3)] [.int (if y3 ≤ y1 then (0 : Int32) else (1 : Int32))] M := by
          refine v_istore_n (ls1 := [some (.ref 49), some (.int y1), some (.int (if y3 ≤ y1 then (0 : Int32) else (1 : Int32))), some (.int y3)]) dX6_isFirst_27 (Nat.le_of_ble_eq_true rfl) rfl ?_
          refine v_aload_n dX6_isFirst_28 rfl ?_
          refine v_iload_n dX6_isFirst_29 rfl ?_
          obtain ⟨v6, e7, h⟩ := Option.bind_eq_some_iff.mp h
          refine v_callV (as := [.int y3]) (st := []) (sX6_beside e7) dX6_isFirst_30 mlX6_161 (CRn (by decide) (by decide)) sh_49 rfl rfl rfl (Nat.le_of_ble_eq_true rfl) ?_
          refine v_istore_n (ls1 := [some (.ref 49), some (.int y1), some (.int (if y3 ≤ y1 then (0 : Int32) else (1 : Int32))), some (.int v6)]) dX6_isFirst_33 (Nat.le_of_ble_eq_true rfl) rfl ?_
          refine v_goto (tgt := 8) dX6_isFirst_34 rfl ?_
          refine V.sub (ls' := [some (.ref 49), some (.int y1), some (.int (if y3 ≤ y1 then (0 : Int32) else (1 : Int32))), some (.int v6)]) (And.intro rfl (And.intro rfl (And.intro rfl (And.intro rfl trivial)))) ?_
          exact ih _ _ h
        refine v_icmp_le (tgt := 26) dX6_isFirst_19 rfl (fun c5 => ?_) (fun c5 => ?_)
        · refine v_iconst (v := 0) dX6_isFirst_26 rfl ?_
          refine V.sub (ls' := [some (.ref 49), some (.int y1), none, some (.int y3)]) (And.intro rfl (And.intro rfl (And.intro rfl trivial))) ?_
          first | (simp only [if_pos c5] at hJ; exact hJ) | exact hJ | (simp only [if_pos c5] at hJ ⊢; exact hJ)
        · refine v_iconst (v := 1) dX6_isFirst_22 rfl ?_
          refine v_goto (tgt := 27) dX6_isFirst_23 rfl ?_
          refine V.sub (ls' := [some (.ref 49), some (.int y1), none, some (.int y3)]) (And.intro rfl (And.intro rfl (And.intro rfl trivial))) ?_
          first | (simp only [if_neg c5] at hJ; exact hJ) | exact hJ | (simp only [if_neg c5] at hJ ⊢; exact hJ)
set_option maxRecDepth 100000 in
set_option maxHeartbeats 4000000 in
theorem sX6_isFirst {g : Wo} {M : Mem} {x1 : Int32} {r : Int32} (h : fX6_isFirst x1 M = some r) : Sp g kX6_isFirst 1 [.ref 49, .int x1] M (some (.int r)) M := by
  rw [fX6_isFirst] at h
  refine Sp_intro (by decide) [some (.ref 49), some (.int x1), none, none] rfl (Nat.le_of_ble_eq_true rfl) ?_
  refine v_iconst (v := 1) dX6_isFirst_0 rfl ?_
  refine v_istore_n (ls1 := [some (.ref 49), some (.int x1), some (.int (1 : Int32)), none]) dX6_isFirst_1 (Nat.le_of_ble_eq_true rfl) rfl ?_
  refine v_aload_n dX6_isFirst_2 rfl ?_
  refine v_iload_n dX6_isFirst_3 rfl ?_
  obtain ⟨v1, e2, h⟩ := Option.bind_eq_some_iff.mp h
  refine v_callV (as := [.int x1]) (st := []) (sX6_beside e2) dX6_isFirst_4 mlX6_161 (CRn (by decide) (by decide)) sh_49 rfl rfl rfl (Nat.le_of_ble_eq_true rfl) ?_
  refine v_istore_n (ls1 := [some (.ref 49), some (.int x1), some (.int (1 : Int32)), some (.int v1)]) dX6_isFirst_7 (Nat.le_of_ble_eq_true rfl) rfl ?_
  refine V.sub (ls' := [some (.ref 49), some (.int x1), some (.int (1 : Int32)), some (.int v1)]) (And.intro rfl (And.intro rfl (And.intro rfl (And.intro rfl trivial)))) ?_
  refine tX6_isFirst_8 (fun u8 h => ?_) FU _ _ h
  refine v_iload_n dX6_isFirst_37 rfl ?_
  obtain ⟨v9, e10, h⟩ := Option.bind_eq_some_iff.mp h
  replace h := Option.some.inj h; subst h
  obtain ⟨e10a, e10b⟩ := zck_is e10
  subst e10a
  exact v_zret rfl (z_nar e10b) dX6_isFirst_38
/-! ===== BentPlainModel.corners()I ===== -/
def fX6_corners_4 {ρ : Type} (kx : Int32 → Option ρ) (M : Mem) : Nat → Int32 → Int32 → Option ρ
  | 0, _, _ => none
  | n + 1, y1, y2 => ((ldI M 50 112 (0 : Int32)).bind fun v1 => (if ((4 : Int32) * v1) ≤ y2 then (kx y1) else ((fX6_aboutOf y2 M).bind fun v4 => ((if v4 ≤ 0 then some (0 : Int32) else ((fX6_isFirst y2 M).bind fun v10 => (if v10 = 0 then some (0 : Int32) else some (1 : Int32)))).bind fun t8 => (fX6_corners_4 kx M n (y1 + t8) (y2 + (1 : Int32)))))))
def fX6_corners (M : Mem) : Option Int32 := (fX6_corners_4 (fun u13 => some u13) M FU (0 : Int32) (0 : Int32))
set_option maxRecDepth 100000 in
set_option maxHeartbeats 4000000 in
theorem tX6_corners_4 {g : Wo} {ρ : Type} {kx : Int32 → Option ρ} {M : Mem} {r : ρ} {rr : Option Value} {Mr : Mem} (hk : ∀ (z1 : Int32), kx z1 = some r → V g kX6_corners (jm g 2 rr Mr) 46 [none, some (.int z1), none] [] M) : ∀ (n : Nat) (y1 : Int32) (y2 : Int32), fX6_corners_4 kx M n y1 y2 = some r → V g kX6_corners (jm g 2 rr Mr) 4 [some (.ref 49), some (.int y1), some (.int y2)] [] M := by
  intro n
  induction n with
  | zero =>
    intro y1 y2 h
    rw [fX6_corners_4] at h
    cases h
  | succ n ih =>
    intro y1 y2 h
    rw [fX6_corners_4] at h
    refine v_iload_n dX6_corners_4 rfl ?_
    refine v_iconst (v := 4) dX6_corners_5 rfl ?_
    refine v_aload_n dX6_corners_6 rfl ?_
    refine v_getr dX6_corners_7 flX6_7 sh_49 rfl ?_
    refine v_iconst (v := 0) dX6_corners_10 rfl ?_
    obtain ⟨v1, e2, h⟩ := Option.bind_eq_some_iff.mp h
    refine v_ild e2 dX6_corners_11 sh_50 ?_
    refine v_imul dX6_corners_12 ?_
    refine v_icmp_ge (tgt := 46) dX6_corners_13 rfl (fun c3 => ?_) (fun c3 => ?_)
    · replace h := (if_pos c3).symm.trans h
      refine V.sub (ls' := [none, some (.int y1), none]) (And.intro rfl trivial) ?_
      exact hk _ h
    · replace h := (if_neg c3).symm.trans h
      refine v_iload_n dX6_corners_16 rfl ?_
      refine v_aload_n dX6_corners_17 rfl ?_
      refine v_iload_n dX6_corners_18 rfl ?_
      obtain ⟨v4, e5, h⟩ := Option.bind_eq_some_iff.mp h
      refine v_callV (as := [.int y2]) (st := [.int y1]) (sX6_aboutOf e5) dX6_corners_19 mlX6_164 (CRn (by decide) (by decide)) sh_49 rfl rfl rfl (Nat.le_of_ble_eq_true rfl) ?_
      obtain ⟨t8, e9, h⟩ := Option.bind_eq_some_iff.mp h
      have hJ : V g kX6_corners (jm g 2 rr Mr) 38 [some (.ref 49), none, some (.int y2)] [.int t8, .int y1] M := by
        refine v_iadd dX6_corners_38 ?_
        refine v_istore_n (ls1 := [some (.ref 49), some (.int (y1 + t8)), some (.int y2)]) dX6_corners_39 (Nat.le_of_ble_eq_true rfl) rfl ?_
        refine v_iinc (v := 1) (ls1 := [some (.ref 49), some (.int (y1 + t8)), some (.int (y2 + (1 : Int32)))]) dX6_corners_40 rfl rfl (Nat.le_of_ble_eq_true rfl) rfl ?_
        refine v_goto (tgt := 4) dX6_corners_43 rfl ?_
        refine V.sub (ls' := [some (.ref 49), some (.int (y1 + t8)), some (.int (y2 + (1 : Int32)))]) (And.intro rfl (And.intro rfl (And.intro rfl trivial))) ?_
        exact ih _ _ h
      clear h
      have h := e9
      clear e9
      refine v_if_le (tgt := 37) dX6_corners_22 rfl (fun c7 => ?_) (fun c7 => ?_)
      · replace h := (if_pos c7).symm.trans h
        refine v_iconst (v := 0) dX6_corners_37 rfl ?_
        replace h := Option.some.inj h; subst h
        refine V.sub (ls' := [some (.ref 49), none, some (.int y2)]) (And.intro rfl (And.intro rfl trivial)) ?_
        exact hJ
      · replace h := (if_neg c7).symm.trans h
        refine v_aload_n dX6_corners_25 rfl ?_
        refine v_iload_n dX6_corners_26 rfl ?_
        obtain ⟨v10, e11, h⟩ := Option.bind_eq_some_iff.mp h
        refine v_callV (as := [.int y2]) (st := [.int y1]) (sX6_isFirst e11) dX6_corners_27 mlX6_167 (CRn (by decide) (by decide)) sh_49 rfl rfl rfl (Nat.le_of_ble_eq_true rfl) ?_
        refine v_if_eq (tgt := 37) dX6_corners_30 rfl (fun c12 => ?_) (fun c12 => ?_)
        · replace h := (if_pos c12).symm.trans h
          refine v_iconst (v := 0) dX6_corners_37 rfl ?_
          replace h := Option.some.inj h; subst h
          refine V.sub (ls' := [some (.ref 49), none, some (.int y2)]) (And.intro rfl (And.intro rfl trivial)) ?_
          exact hJ
        · replace h := (if_neg c12).symm.trans h
          refine v_iconst (v := 1) dX6_corners_33 rfl ?_
          refine v_goto (tgt := 38) dX6_corners_34 rfl ?_
          replace h := Option.some.inj h; subst h
          refine V.sub (ls' := [some (.ref 49), none, some (.int y2)]) (And.intro rfl (And.intro rfl trivial)) ?_
          exact hJ
set_option maxRecDepth 100000 in
set_option maxHeartbeats 4000000 in
theorem sX6_corners {g : Wo} {M : Mem} {r : Int32} (h : fX6_corners M = some r) : Sp g kX6_corners 2 [.ref 49] M (some (.int r)) M := by
  rw [fX6_corners] at h
  refine Sp_intro (by decide) [some (.ref 49), none, none] rfl (Nat.le_of_ble_eq_true rfl) ?_
  refine v_iconst (v := 0) dX6_corners_0 rfl ?_
  refine v_istore_n (ls1 := [some (.ref 49), some (.int (0 : Int32)), none]) dX6_corners_1 (Nat.le_of_ble_eq_true rfl) rfl ?_
  refine v_iconst (v := 0) dX6_corners_2 rfl ?_
  refine v_istore_n (ls1 := [some (.ref 49), some (.int (0 : Int32)), some (.int (0 : Int32))]) dX6_corners_3 (Nat.le_of_ble_eq_true rfl) rfl ?_
  refine V.sub (ls' := [some (.ref 49), some (.int (0 : Int32)), some (.int (0 : Int32))]) (And.intro rfl (And.intro rfl (And.intro rfl trivial))) ?_
  refine tX6_corners_4 (fun u13 h => ?_) FU _ _ h
  refine v_iload_n dX6_corners_46 rfl ?_
  replace h := Option.some.inj h; subst h
  exact v_iret rfl dX6_corners_47
/-! ===== BentPlainModel.excess()I ===== -/
def fX6_excess_4 {ρ : Type} (kx : Int32 → Option ρ) (M : Mem) : Nat → Int32 → Int32 → Option ρ
  | 0, _, _ => none
  | n + 1, y1, y2 => ((ldI M 50 112 (0 : Int32)).bind fun v1 => (if ((4 : Int32) * v1) ≤ y2 then (kx y1) else ((fX6_aboutOf y2 M).bind fun v4 => ((if v4 ≤ 0 then some (0 : Int32) else ((fX6_isFirst y2 M).bind fun v10 => (if v10 = 0 then some (0 : Int32) else ((fX6_aboutOf y2 M).bind fun v13 => some ((4 : Int32) - v13))))).bind fun t8 => (fX6_excess_4 kx M n (y1 + t8) (y2 + (1 : Int32)))))))
def fX6_excess (M : Mem) : Option Int32 := (fX6_excess_4 (fun u15 => some u15) M FU (0 : Int32) (0 : Int32))
set_option maxRecDepth 100000 in
set_option maxHeartbeats 4000000 in
theorem tX6_excess_4 {g : Wo} {ρ : Type} {kx : Int32 → Option ρ} {M : Mem} {r : ρ} {rr : Option Value} {Mr : Mem} (hk : ∀ (z1 : Int32), kx z1 = some r → V g kX6_excess (jm g 2 rr Mr) 52 [none, some (.int z1), none] [] M) : ∀ (n : Nat) (y1 : Int32) (y2 : Int32), fX6_excess_4 kx M n y1 y2 = some r → V g kX6_excess (jm g 2 rr Mr) 4 [some (.ref 49), some (.int y1), some (.int y2)] [] M := by
  intro n
  induction n with
  | zero =>
    intro y1 y2 h
    rw [fX6_excess_4] at h
    cases h
  | succ n ih =>
    intro y1 y2 h
    rw [fX6_excess_4] at h
    refine v_iload_n dX6_excess_4 rfl ?_
    refine v_iconst (v := 4) dX6_excess_5 rfl ?_
    refine v_aload_n dX6_excess_6 rfl ?_
    refine v_getr dX6_excess_7 flX6_7 sh_49 rfl ?_
    refine v_iconst (v := 0) dX6_excess_10 rfl ?_
    obtain ⟨v1, e2, h⟩ := Option.bind_eq_some_iff.mp h
    refine v_ild e2 dX6_excess_11 sh_50 ?_
    refine v_imul dX6_excess_12 ?_
    refine v_icmp_ge (tgt := 52) dX6_excess_13 rfl (fun c3 => ?_) (fun c3 => ?_)
    · replace h := (if_pos c3).symm.trans h
      refine V.sub (ls' := [none, some (.int y1), none]) (And.intro rfl trivial) ?_
      exact hk _ h
    · replace h := (if_neg c3).symm.trans h
      refine v_iload_n dX6_excess_16 rfl ?_
      refine v_aload_n dX6_excess_17 rfl ?_
      refine v_iload_n dX6_excess_18 rfl ?_
      obtain ⟨v4, e5, h⟩ := Option.bind_eq_some_iff.mp h
      refine v_callV (as := [.int y2]) (st := [.int y1]) (sX6_aboutOf e5) dX6_excess_19 mlX6_164 (CRn (by decide) (by decide)) sh_49 rfl rfl rfl (Nat.le_of_ble_eq_true rfl) ?_
      obtain ⟨t8, e9, h⟩ := Option.bind_eq_some_iff.mp h
      have hJ : V g kX6_excess (jm g 2 rr Mr) 44 [some (.ref 49), none, some (.int y2)] [.int t8, .int y1] M := by
        refine v_iadd dX6_excess_44 ?_
        refine v_istore_n (ls1 := [some (.ref 49), some (.int (y1 + t8)), some (.int y2)]) dX6_excess_45 (Nat.le_of_ble_eq_true rfl) rfl ?_
        refine v_iinc (v := 1) (ls1 := [some (.ref 49), some (.int (y1 + t8)), some (.int (y2 + (1 : Int32)))]) dX6_excess_46 rfl rfl (Nat.le_of_ble_eq_true rfl) rfl ?_
        refine v_goto (tgt := 4) dX6_excess_49 rfl ?_
        refine V.sub (ls' := [some (.ref 49), some (.int (y1 + t8)), some (.int (y2 + (1 : Int32)))]) (And.intro rfl (And.intro rfl (And.intro rfl trivial))) ?_
        exact ih _ _ h
      clear h
      have h := e9
      clear e9
      refine v_if_le (tgt := 43) dX6_excess_22 rfl (fun c7 => ?_) (fun c7 => ?_)
      · replace h := (if_pos c7).symm.trans h
        refine v_iconst (v := 0) dX6_excess_43 rfl ?_
        replace h := Option.some.inj h; subst h
        refine V.sub (ls' := [some (.ref 49), none, some (.int y2)]) (And.intro rfl (And.intro rfl trivial)) ?_
        exact hJ
      · replace h := (if_neg c7).symm.trans h
        refine v_aload_n dX6_excess_25 rfl ?_
        refine v_iload_n dX6_excess_26 rfl ?_
        obtain ⟨v10, e11, h⟩ := Option.bind_eq_some_iff.mp h
        refine v_callV (as := [.int y2]) (st := [.int y1]) (sX6_isFirst e11) dX6_excess_27 mlX6_167 (CRn (by decide) (by decide)) sh_49 rfl rfl rfl (Nat.le_of_ble_eq_true rfl) ?_
        refine v_if_eq (tgt := 43) dX6_excess_30 rfl (fun c12 => ?_) (fun c12 => ?_)
        · replace h := (if_pos c12).symm.trans h
          refine v_iconst (v := 0) dX6_excess_43 rfl ?_
          replace h := Option.some.inj h; subst h
          refine V.sub (ls' := [some (.ref 49), none, some (.int y2)]) (And.intro rfl (And.intro rfl trivial)) ?_
          exact hJ
        · replace h := (if_neg c12).symm.trans h
          refine v_iconst (v := 4) dX6_excess_33 rfl ?_
          refine v_aload_n dX6_excess_34 rfl ?_
          refine v_iload_n dX6_excess_35 rfl ?_
          obtain ⟨v13, e14, h⟩ := Option.bind_eq_some_iff.mp h
          refine v_callV (as := [.int y2]) (st := [.int (4 : Int32), .int y1]) (sX6_aboutOf e14) dX6_excess_36 mlX6_164 (CRn (by decide) (by decide)) sh_49 rfl rfl rfl (Nat.le_of_ble_eq_true rfl) ?_
          refine v_isub dX6_excess_39 ?_
          refine v_goto (tgt := 44) dX6_excess_40 rfl ?_
          replace h := Option.some.inj h; subst h
          refine V.sub (ls' := [some (.ref 49), none, some (.int y2)]) (And.intro rfl (And.intro rfl trivial)) ?_
          exact hJ
set_option maxRecDepth 100000 in
set_option maxHeartbeats 4000000 in
theorem sX6_excess {g : Wo} {M : Mem} {r : Int32} (h : fX6_excess M = some r) : Sp g kX6_excess 2 [.ref 49] M (some (.int r)) M := by
  rw [fX6_excess] at h
  refine Sp_intro (by decide) [some (.ref 49), none, none] rfl (Nat.le_of_ble_eq_true rfl) ?_
  refine v_iconst (v := 0) dX6_excess_0 rfl ?_
  refine v_istore_n (ls1 := [some (.ref 49), some (.int (0 : Int32)), none]) dX6_excess_1 (Nat.le_of_ble_eq_true rfl) rfl ?_
  refine v_iconst (v := 0) dX6_excess_2 rfl ?_
  refine v_istore_n (ls1 := [some (.ref 49), some (.int (0 : Int32)), some (.int (0 : Int32))]) dX6_excess_3 (Nat.le_of_ble_eq_true rfl) rfl ?_
  refine V.sub (ls' := [some (.ref 49), some (.int (0 : Int32)), some (.int (0 : Int32))]) (And.intro rfl (And.intro rfl (And.intro rfl trivial))) ?_
  refine tX6_excess_4 (fun u15 h => ?_) FU _ _ h
  refine v_iload_n dX6_excess_52 rfl ?_
  replace h := Option.some.inj h; subst h
  exact v_iret rfl dX6_excess_53
/-! ===== BentPlainModel.bent()I ===== -/
def fX6_bent_4 {ρ : Type} (kx : Int32 → Option ρ) (M : Mem) : Nat → Int32 → Int32 → Option ρ
  | 0, _, _ => none
  | n + 1, y1, y2 => ((ldI M 50 112 (0 : Int32)).bind fun v1 => (if ((4 : Int32) * v1) ≤ y2 then (kx y1) else ((fX6_aboutOf y2 M).bind fun v4 => ((if v4 ≤ 0 then some (0 : Int32) else ((fX6_aboutOf y2 M).bind fun v10 => (if v10 = (4 : Int32) then some (0 : Int32) else some ((1 : Int32) <<< ((y2 / (4 : Int32)) &&& 31))))).bind fun t8 => (fX6_bent_4 kx M n (y1 ||| t8) (y2 + (1 : Int32)))))))
def fX6_bent (M : Mem) : Option Int32 := (fX6_bent_4 (fun u13 => some u13) M FU (0 : Int32) (0 : Int32))
set_option maxRecDepth 100000 in
set_option maxHeartbeats 4000000 in
theorem tX6_bent_4 {g : Wo} {ρ : Type} {kx : Int32 → Option ρ} {M : Mem} {r : ρ} {rr : Option Value} {Mr : Mem} (hk : ∀ (z1 : Int32), kx z1 = some r → V g kX6_bent (jm g 2 rr Mr) 51 [none, some (.int z1), none] [] M) : ∀ (n : Nat) (y1 : Int32) (y2 : Int32), fX6_bent_4 kx M n y1 y2 = some r → V g kX6_bent (jm g 2 rr Mr) 4 [some (.ref 49), some (.int y1), some (.int y2)] [] M := by
  intro n
  induction n with
  | zero =>
    intro y1 y2 h
    rw [fX6_bent_4] at h
    cases h
  | succ n ih =>
    intro y1 y2 h
    rw [fX6_bent_4] at h
    refine v_iload_n dX6_bent_4 rfl ?_
    refine v_iconst (v := 4) dX6_bent_5 rfl ?_
    refine v_aload_n dX6_bent_6 rfl ?_
    refine v_getr dX6_bent_7 flX6_7 sh_49 rfl ?_
    refine v_iconst (v := 0) dX6_bent_10 rfl ?_
    obtain ⟨v1, e2, h⟩ := Option.bind_eq_some_iff.mp h
    refine v_ild e2 dX6_bent_11 sh_50 ?_
    refine v_imul dX6_bent_12 ?_
    refine v_icmp_ge (tgt := 51) dX6_bent_13 rfl (fun c3 => ?_) (fun c3 => ?_)
    · replace h := (if_pos c3).symm.trans h
      refine V.sub (ls' := [none, some (.int y1), none]) (And.intro rfl trivial) ?_
      exact hk _ h
    · replace h := (if_neg c3).symm.trans h
      refine v_iload_n dX6_bent_16 rfl ?_
      refine v_aload_n dX6_bent_17 rfl ?_
      refine v_iload_n dX6_bent_18 rfl ?_
      obtain ⟨v4, e5, h⟩ := Option.bind_eq_some_iff.mp h
      refine v_callV (as := [.int y2]) (st := [.int y1]) (sX6_aboutOf e5) dX6_bent_19 mlX6_164 (CRn (by decide) (by decide)) sh_49 rfl rfl rfl (Nat.le_of_ble_eq_true rfl) ?_
      obtain ⟨t8, e9, h⟩ := Option.bind_eq_some_iff.mp h
      have hJ : V g kX6_bent (jm g 2 rr Mr) 43 [some (.ref 49), none, some (.int y2)] [.int t8, .int y1] M := by
        refine v_ior dX6_bent_43 ?_
        refine v_istore_n (ls1 := [some (.ref 49), some (.int (y1 ||| t8)), some (.int y2)]) dX6_bent_44 (Nat.le_of_ble_eq_true rfl) rfl ?_
        refine v_iinc (v := 1) (ls1 := [some (.ref 49), some (.int (y1 ||| t8)), some (.int (y2 + (1 : Int32)))]) dX6_bent_45 rfl rfl (Nat.le_of_ble_eq_true rfl) rfl ?_
        refine v_goto (tgt := 4) dX6_bent_48 rfl ?_
        refine V.sub (ls' := [some (.ref 49), some (.int (y1 ||| t8)), some (.int (y2 + (1 : Int32)))]) (And.intro rfl (And.intro rfl (And.intro rfl trivial))) ?_
        exact ih _ _ h
      clear h
      have h := e9
      clear e9
      refine v_if_le (tgt := 42) dX6_bent_22 rfl (fun c7 => ?_) (fun c7 => ?_)
      · replace h := (if_pos c7).symm.trans h
        refine v_iconst (v := 0) dX6_bent_42 rfl ?_
        replace h := Option.some.inj h; subst h
        refine V.sub (ls' := [some (.ref 49), none, some (.int y2)]) (And.intro rfl (And.intro rfl trivial)) ?_
        exact hJ
      · replace h := (if_neg c7).symm.trans h
        refine v_aload_n dX6_bent_25 rfl ?_
        refine v_iload_n dX6_bent_26 rfl ?_
        obtain ⟨v10, e11, h⟩ := Option.bind_eq_some_iff.mp h
        refine v_callV (as := [.int y2]) (st := [.int y1]) (sX6_aboutOf e11) dX6_bent_27 mlX6_164 (CRn (by decide) (by decide)) sh_49 rfl rfl rfl (Nat.le_of_ble_eq_true rfl) ?_
        refine v_iconst (v := 4) dX6_bent_30 rfl ?_
        refine v_icmp_eq (tgt := 42) dX6_bent_31 rfl (fun c12 => ?_) (fun c12 => ?_)
        · replace h := (if_pos c12).symm.trans h
          refine v_iconst (v := 0) dX6_bent_42 rfl ?_
          replace h := Option.some.inj h; subst h
          refine V.sub (ls' := [some (.ref 49), none, some (.int y2)]) (And.intro rfl (And.intro rfl trivial)) ?_
          exact hJ
        · replace h := (if_neg c12).symm.trans h
          refine v_iconst (v := 1) dX6_bent_34 rfl ?_
          refine v_iload_n dX6_bent_35 rfl ?_
          refine v_iconst (v := 4) dX6_bent_36 rfl ?_
          refine v_idiv dX6_bent_37 (by decide) ?_
          refine v_ishl dX6_bent_38 ?_
          refine v_goto (tgt := 43) dX6_bent_39 rfl ?_
          replace h := Option.some.inj h; subst h
          refine V.sub (ls' := [some (.ref 49), none, some (.int y2)]) (And.intro rfl (And.intro rfl trivial)) ?_
          exact hJ
set_option maxRecDepth 100000 in
set_option maxHeartbeats 4000000 in
theorem sX6_bent {g : Wo} {M : Mem} {r : Int32} (h : fX6_bent M = some r) : Sp g kX6_bent 2 [.ref 49] M (some (.int r)) M := by
  rw [fX6_bent] at h
  refine Sp_intro (by decide) [some (.ref 49), none, none] rfl (Nat.le_of_ble_eq_true rfl) ?_
  refine v_iconst (v := 0) dX6_bent_0 rfl ?_
  refine v_istore_n (ls1 := [some (.ref 49), some (.int (0 : Int32)), none]) dX6_bent_1 (Nat.le_of_ble_eq_true rfl) rfl ?_
  refine v_iconst (v := 0) dX6_bent_2 rfl ?_
  refine v_istore_n (ls1 := [some (.ref 49), some (.int (0 : Int32)), some (.int (0 : Int32))]) dX6_bent_3 (Nat.le_of_ble_eq_true rfl) rfl ?_
  refine V.sub (ls' := [some (.ref 49), some (.int (0 : Int32)), some (.int (0 : Int32))]) (And.intro rfl (And.intro rfl (And.intro rfl trivial))) ?_
  refine tX6_bent_4 (fun u13 h => ?_) FU _ _ h
  refine v_iload_n dX6_bent_51 rfl ?_
  replace h := Option.some.inj h; subst h
  exact v_iret rfl dX6_bent_52
/-! ===== BentPlainModel.spread(I)I ===== -/
def fX6_spread_4 {ρ : Type} (kx : Int32 → Option ρ) (y1 : Int32) (M : Mem) : Nat → Int32 → Int32 → Option ρ
  | 0, _, _ => none
  | n + 1, y2, y3 => ((ldI M 50 112 (0 : Int32)).bind fun v1 => (if ((4 : Int32) * v1) ≤ y3 then (kx y2) else ((if ((y1 >>> ((y3 / (4 : Int32)) &&& 31)) &&& (1 : Int32)) = (1 : Int32) then ((ldI M 50 112 ((18 : Int32) + y3)).bind fun v8 => (if v8 ≤ 0 then some (0 : Int32) else ((ldI M 50 112 ((18 : Int32) + y3)).bind fun v11 => some ((1 : Int32) <<< (((v11 - (1 : Int32)) / (4 : Int32)) &&& 31))))) else some (0 : Int32)).bind fun t6 => (fX6_spread_4 kx y1 M n (y2 ||| t6) (y3 + (1 : Int32))))))
def fX6_spread (x1 : Int32) (M : Mem) : Option Int32 := (fX6_spread_4 (fun u13 => some u13) x1 M FU x1 (0 : Int32))
set_option maxRecDepth 100000 in
set_option maxHeartbeats 4000000 in
theorem tX6_spread_4 {g : Wo} {ρ : Type} {kx : Int32 → Option ρ} {y1 : Int32} {M : Mem} {r : ρ} {rr : Option Value} {Mr : Mem} (hk : ∀ (z2 : Int32), kx z2 = some r → V g kX6_spread (jm g 0 rr Mr) 67 [none, none, some (.int z2), none] [] M) : ∀ (n : Nat) (y2 : Int32) (y3 : Int32), fX6_spread_4 kx y1 M n y2 y3 = some r → V g kX6_spread (jm g 0 rr Mr) 4 [some (.ref 49), some (.int y1), some (.int y2), some (.int y3)] [] M := by
  intro n
  induction n with
  | zero =>
    intro y2 y3 h
    rw [fX6_spread_4] at h
    cases h
  | succ n ih =>
    intro y2 y3 h
    rw [fX6_spread_4] at h
    refine v_iload_n dX6_spread_4 rfl ?_
    refine v_iconst (v := 4) dX6_spread_5 rfl ?_
    refine v_aload_n dX6_spread_6 rfl ?_
    refine v_getr dX6_spread_7 flX6_7 sh_49 rfl ?_
    refine v_iconst (v := 0) dX6_spread_10 rfl ?_
    obtain ⟨v1, e2, h⟩ := Option.bind_eq_some_iff.mp h
    refine v_ild e2 dX6_spread_11 sh_50 ?_
    refine v_imul dX6_spread_12 ?_
    refine v_icmp_ge (tgt := 67) dX6_spread_13 rfl (fun c3 => ?_) (fun c3 => ?_)
    · replace h := (if_pos c3).symm.trans h
      refine V.sub (ls' := [none, none, some (.int y2), none]) (And.intro rfl trivial) ?_
      exact hk _ h
    · replace h := (if_neg c3).symm.trans h
      refine v_iload_n dX6_spread_16 rfl ?_
      refine v_iload_n dX6_spread_17 rfl ?_
      refine v_iload_n dX6_spread_18 rfl ?_
      refine v_iconst (v := 4) dX6_spread_19 rfl ?_
      refine v_idiv dX6_spread_20 (by decide) ?_
      refine v_ishr dX6_spread_21 ?_
      refine v_iconst (v := 1) dX6_spread_22 rfl ?_
      refine v_iand dX6_spread_23 ?_
      refine v_iconst (v := 1) dX6_spread_24 rfl ?_
      obtain ⟨t6, e7, h⟩ := Option.bind_eq_some_iff.mp h
      have hJ : V g kX6_spread (jm g 0 rr Mr) 59 [some (.ref 49), some (.int y1), none, some (.int y3)] [.int t6, .int y2] M := by
        refine v_ior dX6_spread_59 ?_
        refine v_istore_n (ls1 := [some (.ref 49), some (.int y1), some (.int (y2 ||| t6)), some (.int y3)]) dX6_spread_60 (Nat.le_of_ble_eq_true rfl) rfl ?_
        refine v_iinc (v := 1) (ls1 := [some (.ref 49), some (.int y1), some (.int (y2 ||| t6)), some (.int (y3 + (1 : Int32)))]) dX6_spread_61 rfl rfl (Nat.le_of_ble_eq_true rfl) rfl ?_
        refine v_goto (tgt := 4) dX6_spread_64 rfl ?_
        refine V.sub (ls' := [some (.ref 49), some (.int y1), some (.int (y2 ||| t6)), some (.int (y3 + (1 : Int32)))]) (And.intro rfl (And.intro rfl (And.intro rfl (And.intro rfl trivial)))) ?_
        exact ih _ _ h
      clear h
      have h := e7
      clear e7
      refine v_icmp_ne (tgt := 58) dX6_spread_25 rfl (fun c5 => ?_) (fun c5 => ?_)
      · replace h := (if_neg c5).symm.trans h
        refine v_iconst (v := 0) dX6_spread_58 rfl ?_
        replace h := Option.some.inj h; subst h
        refine V.sub (ls' := [some (.ref 49), some (.int y1), none, some (.int y3)]) (And.intro rfl (And.intro rfl (And.intro rfl trivial))) ?_
        exact hJ
      · replace h := (if_pos c5).symm.trans h
        refine v_aload_n dX6_spread_28 rfl ?_
        refine v_getr dX6_spread_29 flX6_7 sh_49 rfl ?_
        refine v_bipush (v := 18) dX6_spread_32 rfl ?_
        refine v_iload_n dX6_spread_34 rfl ?_
        refine v_iadd dX6_spread_35 ?_
        obtain ⟨v8, e9, h⟩ := Option.bind_eq_some_iff.mp h
        refine v_ild e9 dX6_spread_36 sh_50 ?_
        refine v_if_le (tgt := 58) dX6_spread_37 rfl (fun c10 => ?_) (fun c10 => ?_)
        · replace h := (if_pos c10).symm.trans h
          refine v_iconst (v := 0) dX6_spread_58 rfl ?_
          replace h := Option.some.inj h; subst h
          refine V.sub (ls' := [some (.ref 49), some (.int y1), none, some (.int y3)]) (And.intro rfl (And.intro rfl (And.intro rfl trivial))) ?_
          exact hJ
        · replace h := (if_neg c10).symm.trans h
          refine v_iconst (v := 1) dX6_spread_40 rfl ?_
          refine v_aload_n dX6_spread_41 rfl ?_
          refine v_getr dX6_spread_42 flX6_7 sh_49 rfl ?_
          refine v_bipush (v := 18) dX6_spread_45 rfl ?_
          refine v_iload_n dX6_spread_47 rfl ?_
          refine v_iadd dX6_spread_48 ?_
          obtain ⟨v11, e12, h⟩ := Option.bind_eq_some_iff.mp h
          refine v_ild e12 dX6_spread_49 sh_50 ?_
          refine v_iconst (v := 1) dX6_spread_50 rfl ?_
          refine v_isub dX6_spread_51 ?_
          refine v_iconst (v := 4) dX6_spread_52 rfl ?_
          refine v_idiv dX6_spread_53 (by decide) ?_
          refine v_ishl dX6_spread_54 ?_
          refine v_goto (tgt := 59) dX6_spread_55 rfl ?_
          replace h := Option.some.inj h; subst h
          refine V.sub (ls' := [some (.ref 49), some (.int y1), none, some (.int y3)]) (And.intro rfl (And.intro rfl (And.intro rfl trivial))) ?_
          exact hJ
set_option maxRecDepth 100000 in
set_option maxHeartbeats 4000000 in
theorem sX6_spread {g : Wo} {M : Mem} {x1 : Int32} {r : Int32} (h : fX6_spread x1 M = some r) : Sp g kX6_spread 0 [.ref 49, .int x1] M (some (.int r)) M := by
  rw [fX6_spread] at h
  refine Sp_intro (by decide) [some (.ref 49), some (.int x1), none, none] rfl (Nat.le_of_ble_eq_true rfl) ?_
  refine v_iload_n dX6_spread_0 rfl ?_
  refine v_istore_n (ls1 := [some (.ref 49), some (.int x1), some (.int x1), none]) dX6_spread_1 (Nat.le_of_ble_eq_true rfl) rfl ?_
  refine v_iconst (v := 0) dX6_spread_2 rfl ?_
  refine v_istore_n (ls1 := [some (.ref 49), some (.int x1), some (.int x1), some (.int (0 : Int32))]) dX6_spread_3 (Nat.le_of_ble_eq_true rfl) rfl ?_
  refine V.sub (ls' := [some (.ref 49), some (.int x1), some (.int x1), some (.int (0 : Int32))]) (And.intro rfl (And.intro rfl (And.intro rfl (And.intro rfl trivial)))) ?_
  refine tX6_spread_4 (fun u13 h => ?_) FU _ _ h
  refine v_iload_n dX6_spread_67 rfl ?_
  replace h := Option.some.inj h; subst h
  exact v_iret rfl dX6_spread_68
/-! ===== BentPlainModel.parts()I ===== -/
def fX6_parts_35 {ρ : Type} (kx : Int32 → Option ρ) (y1 : Int32) (y2 : Int32) (y3 : Int32) (M : Mem) : Nat → Int32 → Int32 → Option ρ
  | 0, _, _ => none
  | n + 1, y4, y5 => (if (16 : Int32) ≤ y5 then (kx y4) else ((fX6_spread y4 M).bind fun v9 => (fX6_parts_35 kx y1 y2 y3 M n v9 (y5 + (1 : Int32)))))
def fX6_parts_6 {ρ : Type} (kx : Int32 → Option ρ) (M : Mem) : Nat → Int32 → Int32 → Int32 → Option ρ
  | 0, _, _, _ => none
  | n + 1, y1, y2, y3 => ((ldI M 50 112 (0 : Int32)).bind fun v1 => (if v1 ≤ y3 then (kx y1) else ((if ((y2 >>> (y3 &&& 31)) &&& (1 : Int32)) = 0 then (fX6_parts_35 (fun u11 => some ((y1 + (1 : Int32)), (y2 ||| u11))) (y1 + (1 : Int32)) y2 y3 M FU ((1 : Int32) <<< (y3 &&& 31)) (0 : Int32)) else some (y1, y2)).bind fun t6 => (fX6_parts_6 kx M n t6.1 t6.2 (y3 + (1 : Int32))))))
def fX6_parts (M : Mem) : Option Int32 := (fX6_parts_6 (fun u12 => some u12) M FU (0 : Int32) (0 : Int32) (0 : Int32))
set_option maxRecDepth 100000 in
set_option maxHeartbeats 4000000 in
theorem tX6_parts_35 {g : Wo} {ρ : Type} {kx : Int32 → Option ρ} {y1 : Int32} {y2 : Int32} {y3 : Int32} {M : Mem} {r : ρ} {rr : Option Value} {Mr : Mem} (hk : ∀ (z4 : Int32), kx z4 = some r → V g kX6_parts (jm g 1 rr Mr) 56 [some (.ref 49), some (.int y1), some (.int y2), some (.int y3), some (.int z4), none] [] M) : ∀ (n : Nat) (y4 : Int32) (y5 : Int32), fX6_parts_35 kx y1 y2 y3 M n y4 y5 = some r → V g kX6_parts (jm g 1 rr Mr) 35 [some (.ref 49), some (.int y1), some (.int y2), some (.int y3), some (.int y4), some (.int y5)] [] M := by
  intro n
  induction n with
  | zero =>
    intro y4 y5 h
    rw [fX6_parts_35] at h
    cases h
  | succ n ih =>
    intro y4 y5 h
    rw [fX6_parts_35] at h
    refine v_iload dX6_parts_35 rfl ?_
    refine v_bipush (v := 16) dX6_parts_37 rfl ?_
    refine v_icmp_ge (tgt := 56) dX6_parts_39 rfl (fun c8 => ?_) (fun c8 => ?_)
    · replace h := (if_pos c8).symm.trans h
      refine V.sub (ls' := [some (.ref 49), some (.int y1), some (.int y2), some (.int y3), some (.int y4), none]) (And.intro rfl (And.intro rfl (And.intro rfl (And.intro rfl (And.intro rfl trivial))))) ?_
      exact hk _ h
    · replace h := (if_neg c8).symm.trans h
      refine v_aload_n dX6_parts_42 rfl ?_
      refine v_iload dX6_parts_43 rfl ?_
      obtain ⟨v9, e10, h⟩ := Option.bind_eq_some_iff.mp h
      refine v_callV (as := [.int y4]) (st := []) (sX6_spread e10) dX6_parts_45 mlX6_170 (CRn (by decide) (by decide)) sh_49 rfl rfl rfl (Nat.le_of_ble_eq_true rfl) ?_
      refine v_istore (ls1 := [some (.ref 49), some (.int y1), some (.int y2), some (.int y3), some (.int v9), some (.int y5)]) dX6_parts_48 (Nat.le_of_ble_eq_true rfl) rfl ?_
      refine v_iinc (v := 1) (ls1 := [some (.ref 49), some (.int y1), some (.int y2), some (.int y3), some (.int v9), some (.int (y5 + (1 : Int32)))]) dX6_parts_50 rfl rfl (Nat.le_of_ble_eq_true rfl) rfl ?_
      refine v_goto (tgt := 35) dX6_parts_53 rfl ?_
      refine V.sub (ls' := [some (.ref 49), some (.int y1), some (.int y2), some (.int y3), some (.int v9), some (.int (y5 + (1 : Int32)))]) (And.intro rfl (And.intro rfl (And.intro rfl (And.intro rfl (And.intro rfl (And.intro rfl trivial)))))) ?_
      exact ih _ _ h
set_option maxRecDepth 100000 in
set_option maxHeartbeats 4000000 in
theorem tX6_parts_6 {g : Wo} {ρ : Type} {kx : Int32 → Option ρ} {M : Mem} {r : ρ} {rr : Option Value} {Mr : Mem} (hk : ∀ (z1 : Int32), kx z1 = some r → V g kX6_parts (jm g 1 rr Mr) 67 [none, some (.int z1), none, none, none, none] [] M) : ∀ (n : Nat) (y1 : Int32) (y2 : Int32) (y3 : Int32), fX6_parts_6 kx M n y1 y2 y3 = some r → V g kX6_parts (jm g 1 rr Mr) 6 [some (.ref 49), some (.int y1), some (.int y2), some (.int y3), none, none] [] M := by
  intro n
  induction n with
  | zero =>
    intro y1 y2 y3 h
    rw [fX6_parts_6] at h
    cases h
  | succ n ih =>
    intro y1 y2 y3 h
    rw [fX6_parts_6] at h
    refine v_iload_n dX6_parts_6 rfl ?_
    refine v_aload_n dX6_parts_7 rfl ?_
    refine v_getr dX6_parts_8 flX6_7 sh_49 rfl ?_
    refine v_iconst (v := 0) dX6_parts_11 rfl ?_
    obtain ⟨v1, e2, h⟩ := Option.bind_eq_some_iff.mp h
    refine v_ild e2 dX6_parts_12 sh_50 ?_
    refine v_icmp_ge (tgt := 67) dX6_parts_13 rfl (fun c3 => ?_) (fun c3 => ?_)
    · replace h := (if_pos c3).symm.trans h
      refine V.sub (ls' := [none, some (.int y1), none, none, none, none]) (And.intro rfl trivial) ?_
      exact hk _ h
    · replace h := (if_neg c3).symm.trans h
      refine v_iload_n dX6_parts_16 rfl ?_
      refine v_iload_n dX6_parts_17 rfl ?_
      refine v_ishr dX6_parts_18 ?_
      refine v_iconst (v := 1) dX6_parts_19 rfl ?_
      refine v_iand dX6_parts_20 ?_
      obtain ⟨t6, e7, h⟩ := Option.bind_eq_some_iff.mp h
      have hJ : V g kX6_parts (jm g 1 rr Mr) 61 [some (.ref 49), some (.int t6.1), some (.int t6.2), some (.int y3), none, none] [] M := by
        refine v_iinc (v := 1) (ls1 := [some (.ref 49), some (.int t6.1), some (.int t6.2), some (.int (y3 + (1 : Int32))), none, none]) dX6_parts_61 rfl rfl (Nat.le_of_ble_eq_true rfl) rfl ?_
        refine v_goto (tgt := 6) dX6_parts_64 rfl ?_
        refine V.sub (ls' := [some (.ref 49), some (.int t6.1), some (.int t6.2), some (.int (y3 + (1 : Int32))), none, none]) (And.intro rfl (And.intro rfl (And.intro rfl (And.intro rfl trivial)))) ?_
        exact ih _ _ _ h
      clear h
      have h := e7
      clear e7
      refine v_if_ne (tgt := 61) dX6_parts_21 rfl (fun c5 => ?_) (fun c5 => ?_)
      · replace h := (if_neg c5).symm.trans h
        replace h := Option.some.inj h; subst h
        refine V.sub (ls' := [some (.ref 49), some (.int y1), some (.int y2), some (.int y3), none, none]) (And.intro rfl (And.intro rfl (And.intro rfl (And.intro rfl trivial)))) ?_
        exact hJ
      · replace h := (if_pos c5).symm.trans h
        refine v_iinc (v := 1) (ls1 := [some (.ref 49), some (.int (y1 + (1 : Int32))), some (.int y2), some (.int y3), none, none]) dX6_parts_24 rfl rfl (Nat.le_of_ble_eq_true rfl) rfl ?_
        refine v_iconst (v := 1) dX6_parts_27 rfl ?_
        refine v_iload_n dX6_parts_28 rfl ?_
        refine v_ishl dX6_parts_29 ?_
        refine v_istore (ls1 := [some (.ref 49), some (.int (y1 + (1 : Int32))), some (.int y2), some (.int y3), some (.int ((1 : Int32) <<< (y3 &&& 31))), none]) dX6_parts_30 (Nat.le_of_ble_eq_true rfl) rfl ?_
        refine v_iconst (v := 0) dX6_parts_32 rfl ?_
        refine v_istore (ls1 := [some (.ref 49), some (.int (y1 + (1 : Int32))), some (.int y2), some (.int y3), some (.int ((1 : Int32) <<< (y3 &&& 31))), some (.int (0 : Int32))]) dX6_parts_33 (Nat.le_of_ble_eq_true rfl) rfl ?_
        refine V.sub (ls' := [some (.ref 49), some (.int (y1 + (1 : Int32))), some (.int y2), some (.int y3), some (.int ((1 : Int32) <<< (y3 &&& 31))), some (.int (0 : Int32))]) (And.intro rfl (And.intro rfl (And.intro rfl (And.intro rfl (And.intro rfl (And.intro rfl trivial)))))) ?_
        refine tX6_parts_35 (fun u11 h => ?_) FU _ _ h
        refine v_iload_n dX6_parts_56 rfl ?_
        refine v_iload dX6_parts_57 rfl ?_
        refine v_ior dX6_parts_59 ?_
        refine v_istore_n (ls1 := [some (.ref 49), some (.int (y1 + (1 : Int32))), some (.int (y2 ||| u11)), some (.int y3), some (.int u11), none]) dX6_parts_60 (Nat.le_of_ble_eq_true rfl) rfl ?_
        replace h := Option.some.inj h; subst h
        refine V.sub (ls' := [some (.ref 49), some (.int (y1 + (1 : Int32))), some (.int (y2 ||| u11)), some (.int y3), none, none]) (And.intro rfl (And.intro rfl (And.intro rfl (And.intro rfl trivial)))) ?_
        exact hJ
set_option maxRecDepth 100000 in
set_option maxHeartbeats 4000000 in
theorem sX6_parts {g : Wo} {M : Mem} {r : Int32} (h : fX6_parts M = some r) : Sp g kX6_parts 1 [.ref 49] M (some (.int r)) M := by
  rw [fX6_parts] at h
  refine Sp_intro (by decide) [some (.ref 49), none, none, none, none, none] rfl (Nat.le_of_ble_eq_true rfl) ?_
  refine v_iconst (v := 0) dX6_parts_0 rfl ?_
  refine v_istore_n (ls1 := [some (.ref 49), some (.int (0 : Int32)), none, none, none, none]) dX6_parts_1 (Nat.le_of_ble_eq_true rfl) rfl ?_
  refine v_iconst (v := 0) dX6_parts_2 rfl ?_
  refine v_istore_n (ls1 := [some (.ref 49), some (.int (0 : Int32)), some (.int (0 : Int32)), none, none, none]) dX6_parts_3 (Nat.le_of_ble_eq_true rfl) rfl ?_
  refine v_iconst (v := 0) dX6_parts_4 rfl ?_
  refine v_istore_n (ls1 := [some (.ref 49), some (.int (0 : Int32)), some (.int (0 : Int32)), some (.int (0 : Int32)), none, none]) dX6_parts_5 (Nat.le_of_ble_eq_true rfl) rfl ?_
  refine V.sub (ls' := [some (.ref 49), some (.int (0 : Int32)), some (.int (0 : Int32)), some (.int (0 : Int32)), none, none]) (And.intro rfl (And.intro rfl (And.intro rfl (And.intro rfl trivial)))) ?_
  refine tX6_parts_6 (fun u12 h => ?_) FU _ _ _ h
  refine v_iload_n dX6_parts_67 rfl ?_
  replace h := Option.some.inj h; subst h
  exact v_iret rfl dX6_parts_68
/-! ===== BentPlainModel.farOf(II)I ===== -/
def fX6_farOf_7 (kx : Option Int32) (y2 : Int32) (M : Mem) : Nat → Int32 → Int32 → Option Int32
  | 0, _, _ => none
  | n + 1, y3, y4 => (if (16 : Int32) < y4 then kx else (if ((y3 >>> (y2 &&& 31)) &&& (1 : Int32)) = (1 : Int32) then some y4 else ((fX6_spread y3 M).bind fun v3 => (fX6_farOf_7 kx y2 M n v3 (y4 + (1 : Int32))))))
def fX6_farOf (x1 : Int32) (x2 : Int32) (M : Mem) : Option Int32 := (fX6_farOf_7 (some (1000000 : Int32)) x2 M FU ((1 : Int32) <<< (x1 &&& 31)) (0 : Int32))
set_option maxRecDepth 100000 in
set_option maxHeartbeats 4000000 in
theorem tX6_farOf_7 {g : Wo} {kx : Option Int32} {y2 : Int32} {M : Mem} {r : Int32} (hk : kx = some r → V g kX6_farOf (jm g 1 (some (.int r)) M) 38 [none, none, none, none, none] [] M) : ∀ (n : Nat) (y3 : Int32) (y4 : Int32), fX6_farOf_7 kx y2 M n y3 y4 = some r → V g kX6_farOf (jm g 1 (some (.int r)) M) 7 [some (.ref 49), none, some (.int y2), some (.int y3), some (.int y4)] [] M := by
  intro n
  induction n with
  | zero =>
    intro y3 y4 h
    rw [fX6_farOf_7] at h
    cases h
  | succ n ih =>
    intro y3 y4 h
    rw [fX6_farOf_7] at h
    refine v_iload dX6_farOf_7 rfl ?_
    refine v_bipush (v := 16) dX6_farOf_9 rfl ?_
    refine v_icmp_gt (tgt := 38) dX6_farOf_11 rfl (fun c1 => ?_) (fun c1 => ?_)
    · replace h := (if_pos c1).symm.trans h
      refine V.sub (ls' := [none, none, none, none, none]) trivial ?_
      exact hk h
    · replace h := (if_neg c1).symm.trans h
      refine v_iload_n dX6_farOf_14 rfl ?_
      refine v_iload_n dX6_farOf_15 rfl ?_
      refine v_ishr dX6_farOf_16 ?_
      refine v_iconst (v := 1) dX6_farOf_17 rfl ?_
      refine v_iand dX6_farOf_18 ?_
      refine v_iconst (v := 1) dX6_farOf_19 rfl ?_
      refine v_icmp_ne (tgt := 26) dX6_farOf_20 rfl (fun c2 => ?_) (fun c2 => ?_)
      · replace h := (if_neg c2).symm.trans h
        refine v_aload_n dX6_farOf_26 rfl ?_
        refine v_iload_n dX6_farOf_27 rfl ?_
        obtain ⟨v3, e4, h⟩ := Option.bind_eq_some_iff.mp h
        refine v_callV (as := [.int y3]) (st := []) (sX6_spread e4) dX6_farOf_28 mlX6_170 (CRn (by decide) (by decide)) sh_49 rfl rfl rfl (Nat.le_of_ble_eq_true rfl) ?_
        refine v_istore_n (ls1 := [some (.ref 49), none, some (.int y2), some (.int v3), some (.int y4)]) dX6_farOf_31 (Nat.le_of_ble_eq_true rfl) rfl ?_
        refine v_iinc (v := 1) (ls1 := [some (.ref 49), none, some (.int y2), some (.int v3), some (.int (y4 + (1 : Int32)))]) dX6_farOf_32 rfl rfl (Nat.le_of_ble_eq_true rfl) rfl ?_
        refine v_goto (tgt := 7) dX6_farOf_35 rfl ?_
        refine V.sub (ls' := [some (.ref 49), none, some (.int y2), some (.int v3), some (.int (y4 + (1 : Int32)))]) (And.intro rfl (And.intro rfl (And.intro rfl (And.intro rfl trivial)))) ?_
        exact ih _ _ h
      · replace h := (if_pos c2).symm.trans h
        refine v_iload dX6_farOf_23 rfl ?_
        replace h := Option.some.inj h; subst h
        exact v_iret rfl dX6_farOf_25
set_option maxRecDepth 100000 in
set_option maxHeartbeats 4000000 in
theorem sX6_farOf {g : Wo} {M : Mem} {x1 : Int32} {x2 : Int32} {r : Int32} (h : fX6_farOf x1 x2 M = some r) : Sp g kX6_farOf 1 [.ref 49, .int x1, .int x2] M (some (.int r)) M := by
  rw [fX6_farOf] at h
  refine Sp_intro (by decide) [some (.ref 49), some (.int x1), some (.int x2), none, none] rfl (Nat.le_of_ble_eq_true rfl) ?_
  refine v_iconst (v := 1) dX6_farOf_0 rfl ?_
  refine v_iload_n dX6_farOf_1 rfl ?_
  refine v_ishl dX6_farOf_2 ?_
  refine v_istore_n (ls1 := [some (.ref 49), some (.int x1), some (.int x2), some (.int ((1 : Int32) <<< (x1 &&& 31))), none]) dX6_farOf_3 (Nat.le_of_ble_eq_true rfl) rfl ?_
  refine v_iconst (v := 0) dX6_farOf_4 rfl ?_
  refine v_istore (ls1 := [some (.ref 49), some (.int x1), some (.int x2), some (.int ((1 : Int32) <<< (x1 &&& 31))), some (.int (0 : Int32))]) dX6_farOf_5 (Nat.le_of_ble_eq_true rfl) rfl ?_
  refine V.sub (ls' := [some (.ref 49), none, some (.int x2), some (.int ((1 : Int32) <<< (x1 &&& 31))), some (.int (0 : Int32))]) (And.intro rfl (And.intro rfl (And.intro rfl (And.intro rfl trivial)))) ?_
  refine tX6_farOf_7 (fun h => ?_) FU _ _ h
  refine v_ldc (v := 1000000) dX6_farOf_38 w_1066 ?_
  replace h := Option.some.inj h; subst h
  exact v_iret rfl dX6_farOf_40
/-! ===== BentPlainModel.far(II)I ===== -/
def fX6_far (x1 : Int32) (x2 : Int32) (M : Mem) : Option (Int32 × Mem) := ((fX6_isField x1 M).bind fun v1 => (if v1 = 0 then ((fX6_finds (-1000000001 : Int32) M).bind fun w4 => some (w4.1, w4.2)) else ((fX6_isField x2 M).bind fun v6 => (if v6 = 0 then ((fX6_finds (-1000000001 : Int32) M).bind fun w9 => some (w9.1, w9.2)) else ((fX6_farOf x1 x2 M).bind fun v11 => ((fX6_orNone v11 (999999 : Int32) M).bind fun w13 => some (w13.1, w13.2)))))))
set_option maxRecDepth 100000 in
set_option maxHeartbeats 4000000 in
theorem sX6_far {g : Wo} {M : Mem} {x1 : Int32} {x2 : Int32} {r : Int32 × Mem} (h : fX6_far x1 x2 M = some r) : Sp g kX6_far 2 [.ref 49, .int x1, .int x2] M (some (.int r.1)) r.2 := by
  rw [fX6_far] at h
  refine Sp_intro (by decide) [some (.ref 49), some (.int x1), some (.int x2)] rfl (Nat.le_of_ble_eq_true rfl) ?_
  refine v_aload_n dX6_far_0 rfl ?_
  refine v_iload_n dX6_far_1 rfl ?_
  obtain ⟨v1, e2, h⟩ := Option.bind_eq_some_iff.mp h
  refine v_callV (as := [.int x1]) (st := []) (sX6_isField e2) dX6_far_2 mlX6_53 (CRn (by decide) (by decide)) sh_49 rfl rfl rfl (Nat.le_of_ble_eq_true rfl) ?_
  refine v_if_eq (tgt := 31) dX6_far_5 rfl (fun c3 => ?_) (fun c3 => ?_)
  · replace h := (if_pos c3).symm.trans h
    refine v_aload_n dX6_far_31 rfl ?_
    refine v_ldc (v := -1000000001) dX6_far_32 w_809 ?_
    obtain ⟨w4, e5, h⟩ := Option.bind_eq_some_iff.mp h
    refine v_callV (as := [.int (-1000000001 : Int32)]) (st := []) (sX6_finds e5) dX6_far_34 mlX6_69 (CRn (by decide) (by decide)) sh_49 rfl rfl rfl (Nat.le_of_ble_eq_true rfl) ?_
    replace h := Option.some.inj h; subst h
    exact v_iret rfl dX6_far_37
  · replace h := (if_neg c3).symm.trans h
    refine v_aload_n dX6_far_8 rfl ?_
    refine v_iload_n dX6_far_9 rfl ?_
    obtain ⟨v6, e7, h⟩ := Option.bind_eq_some_iff.mp h
    refine v_callV (as := [.int x2]) (st := []) (sX6_isField e7) dX6_far_10 mlX6_53 (CRn (by decide) (by decide)) sh_49 rfl rfl rfl (Nat.le_of_ble_eq_true rfl) ?_
    refine v_if_eq (tgt := 31) dX6_far_13 rfl (fun c8 => ?_) (fun c8 => ?_)
    · replace h := (if_pos c8).symm.trans h
      refine v_aload_n dX6_far_31 rfl ?_
      refine v_ldc (v := -1000000001) dX6_far_32 w_809 ?_
      obtain ⟨w9, e10, h⟩ := Option.bind_eq_some_iff.mp h
      refine v_callV (as := [.int (-1000000001 : Int32)]) (st := []) (sX6_finds e10) dX6_far_34 mlX6_69 (CRn (by decide) (by decide)) sh_49 rfl rfl rfl (Nat.le_of_ble_eq_true rfl) ?_
      replace h := Option.some.inj h; subst h
      exact v_iret rfl dX6_far_37
    · replace h := (if_neg c8).symm.trans h
      refine v_aload_n dX6_far_16 rfl ?_
      refine v_aload_n dX6_far_17 rfl ?_
      refine v_iload_n dX6_far_18 rfl ?_
      refine v_iload_n dX6_far_19 rfl ?_
      obtain ⟨v11, e12, h⟩ := Option.bind_eq_some_iff.mp h
      refine v_callV (as := [.int x1, .int x2]) (st := [.ref 49]) (sX6_farOf e12) dX6_far_20 mlX6_174 (CRn (by decide) (by decide)) sh_49 rfl rfl rfl (Nat.le_of_ble_eq_true rfl) ?_
      refine v_ldc (v := 999999) dX6_far_23 w_1067 ?_
      obtain ⟨w13, e14, h⟩ := Option.bind_eq_some_iff.mp h
      refine v_callV (as := [.int v11, .int (999999 : Int32)]) (st := []) (sX6_orNone e14) dX6_far_25 mlX6_152 (CRn (by decide) (by decide)) sh_49 rfl rfl rfl (Nat.le_of_ble_eq_true rfl) ?_
      refine v_goto (tgt := 37) dX6_far_28 rfl ?_
      replace h := Option.some.inj h; subst h
      exact v_iret rfl dX6_far_37
