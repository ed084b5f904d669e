/-! ===== BentPlainModel.read(II)I ===== -/
def fX6_read_27 {ρ : Type} (kx : Int32 → Mem → Option ρ) (y1 : Int32) (y2 : Int32) : Nat → Int32 → Int32 → Mem → Option ρ
  | 0, _, _, _ => none
  | n + 1, y4, y5, M => ((ldI M 50 112 (0 : Int32)).bind fun v6 => (if ((4 : Int32) * v6) ≤ y5 then (kx y4 M) else ((fX6_stands y2 y5 M).bind fun w9 => ((fX6_isSo y1 y2 w9).bind fun w11 => ((fX6_takesBack w11.1 w11.2).bind fun w13 => (fX6_read_27 kx y1 y2 n (y4 + w13.1) (y5 + (1 : Int32)) w13.2))))))
def fX6_read (x1 : Int32) (x2 : Int32) (M : Mem) : Option (Int32 × Mem) := ((fX6_wrongBook x1 x2 M).bind fun v1 => (if v1 = 0 then ((fX6_laysAside M).bind fun w4 => (fX6_read_27 (fun u15 M16 => some (u15, M16)) x1 x2 FU (0 : Int32) (0 : Int32) w4)) else ((fX6_finds v1 M).bind fun w17 => some (w17.1, w17.2))))
set_option maxRecDepth 100000 in
set_option maxHeartbeats 4000000 in
theorem tX6_read_27 {g : Wo} {ρ : Type} {kx : Int32 → Mem → Option ρ} {y1 : Int32} {y2 : Int32} {r : ρ} {rr : Option Value} {Mr : Mem} (hk : ∀ (z4 : Int32) (Mx : Mem), kx z4 Mx = some r → V g kX6_read (jm g 5 rr Mr) 68 [none, none, none, none, some (.int z4), none] [] Mx) : ∀ (n : Nat) (y4 : Int32) (y5 : Int32) (M : Mem), fX6_read_27 kx y1 y2 n y4 y5 M = some r → V g kX6_read (jm g 5 rr Mr) 27 [some (.ref 49), some (.int y1), some (.int y2), none, some (.int y4), some (.int y5)] [] M := by
  intro n
  induction n with
  | zero =>
    intro y4 y5 M h
    rw [fX6_read_27] at h
    cases h
  | succ n ih =>
    intro y4 y5 M h
    rw [fX6_read_27] at h
    refine v_iload dX6_read_27 rfl ?_
    refine v_iconst (v := 4) dX6_read_29 rfl ?_
    refine v_aload_n dX6_read_30 rfl ?_
    refine v_getr dX6_read_31 flX6_7 sh_49 rfl ?_
    refine v_iconst (v := 0) dX6_read_34 rfl ?_
    obtain ⟨v6, e7, h⟩ := Option.bind_eq_some_iff.mp h
    refine v_ild e7 dX6_read_35 sh_50 ?_
    refine v_imul dX6_read_36 ?_
    refine v_icmp_ge (tgt := 68) dX6_read_37 rfl (fun c8 => ?_) (fun c8 => ?_)
    · replace h := (if_pos c8).symm.trans h
      refine V.sub (ls' := [none, none, none, none, some (.int y4), none]) (And.intro rfl trivial) ?_
      exact hk _ _ h
    · replace h := (if_neg c8).symm.trans h
      refine v_aload_n dX6_read_40 rfl ?_
      refine v_iload_n dX6_read_41 rfl ?_
      refine v_iload dX6_read_42 rfl ?_
      obtain ⟨w9, e10, h⟩ := Option.bind_eq_some_iff.mp h
      refine v_callV (as := [.int y2, .int y5]) (st := []) (sX6_stands e10) dX6_read_44 mlX6_127 (CRn (by decide) (by decide)) sh_49 rfl rfl rfl (Nat.le_of_ble_eq_true rfl) ?_
      refine v_iload dX6_read_47 rfl ?_
      refine v_aload_n dX6_read_49 rfl ?_
      refine v_aload_n dX6_read_50 rfl ?_
      refine v_iload_n dX6_read_51 rfl ?_
      refine v_iload_n dX6_read_52 rfl ?_
      obtain ⟨w11, e12, h⟩ := Option.bind_eq_some_iff.mp h
      refine v_callV (as := [.int y1, .int y2]) (st := [.ref 49, .int y4]) (sX6_isSo e12) dX6_read_53 mlX6_313 (CRn (by decide) (by decide)) sh_49 rfl rfl rfl (Nat.le_of_ble_eq_true rfl) ?_
      obtain ⟨w13, e14, h⟩ := Option.bind_eq_some_iff.mp h
      refine v_callV (as := [.int w11.1]) (st := [.int y4]) (sX6_takesBack e14) dX6_read_56 mlX6_149 (CRn (by decide) (by decide)) sh_49 rfl rfl rfl (Nat.le_of_ble_eq_true rfl) ?_
      refine v_iadd dX6_read_59 ?_
      refine v_istore (ls1 := [some (.ref 49), some (.int y1), some (.int y2), none, some (.int (y4 + w13.1)), some (.int y5)]) dX6_read_60 (Nat.le_of_ble_eq_true rfl) rfl ?_
      refine v_iinc (v := 1) (ls1 := [some (.ref 49), some (.int y1), some (.int y2), none, some (.int (y4 + w13.1)), some (.int (y5 + (1 : Int32)))]) dX6_read_62 rfl rfl (Nat.le_of_ble_eq_true rfl) rfl ?_
      refine v_goto (tgt := 27) dX6_read_65 rfl ?_
      refine V.sub (ls' := [some (.ref 49), some (.int y1), some (.int y2), none, some (.int (y4 + w13.1)), some (.int (y5 + (1 : Int32)))]) (And.intro rfl (And.intro rfl (And.intro rfl (And.intro rfl (And.intro rfl trivial))))) ?_
      exact ih _ _ _ h
set_option maxRecDepth 100000 in
set_option maxHeartbeats 4000000 in
theorem sX6_read {g : Wo} {M : Mem} {x1 : Int32} {x2 : Int32} {r : Int32 × Mem} (h : fX6_read x1 x2 M = some r) : Sp g kX6_read 5 [.ref 49, .int x1, .int x2] M (some (.int r.1)) r.2 := by
  rw [fX6_read] at h
  refine Sp_intro (by decide) [some (.ref 49), some (.int x1), some (.int x2), none, none, none] rfl (Nat.le_of_ble_eq_true rfl) ?_
  refine v_aload_n dX6_read_0 rfl ?_
  refine v_iload_n dX6_read_1 rfl ?_
  refine v_iload_n dX6_read_2 rfl ?_
  obtain ⟨v1, e2, h⟩ := Option.bind_eq_some_iff.mp h
  refine v_callV (as := [.int x1, .int x2]) (st := []) (sX6_wrongBook e2) dX6_read_3 mlX6_310 (CRn (by decide) (by decide)) sh_49 rfl rfl rfl (Nat.le_of_ble_eq_true rfl) ?_
  refine v_istore_n (ls1 := [some (.ref 49), some (.int x1), some (.int x2), some (.int v1), none, none]) dX6_read_6 (Nat.le_of_ble_eq_true rfl) rfl ?_
  refine v_iload_n dX6_read_7 rfl ?_
  refine v_if_eq (tgt := 17) dX6_read_8 rfl (fun c3 => ?_) (fun c3 => ?_)
  · replace h := (if_pos c3).symm.trans h
    refine v_aload_n dX6_read_17 rfl ?_
    obtain ⟨w4, e5, h⟩ := Option.bind_eq_some_iff.mp h
    refine v_callV (as := []) (st := []) (sX6_laysAside e5) dX6_read_18 mlX6_146 (CRn (by decide) (by decide)) sh_49 rfl rfl rfl (Nat.le_of_ble_eq_true rfl) ?_
    refine v_iconst (v := 0) dX6_read_21 rfl ?_
    refine v_istore (ls1 := [some (.ref 49), some (.int x1), some (.int x2), some (.int v1), some (.int (0 : Int32)), none]) dX6_read_22 (Nat.le_of_ble_eq_true rfl) rfl ?_
    refine v_iconst (v := 0) dX6_read_24 rfl ?_
    refine v_istore (ls1 := [some (.ref 49), some (.int x1), some (.int x2), some (.int v1), some (.int (0 : Int32)), some (.int (0 : Int32))]) dX6_read_25 (Nat.le_of_ble_eq_true rfl) rfl ?_
    refine V.sub (ls' := [some (.ref 49), some (.int x1), some (.int x2), none, some (.int (0 : Int32)), some (.int (0 : Int32))]) (And.intro rfl (And.intro rfl (And.intro rfl (And.intro rfl (And.intro rfl trivial))))) ?_
    refine tX6_read_27 (fun u15 M16 h => ?_) FU _ _ _ h
    refine v_iload dX6_read_68 rfl ?_
    replace h := Option.some.inj h; subst h
    exact v_iret rfl dX6_read_70
  · replace h := (if_neg c3).symm.trans h
    refine v_aload_n dX6_read_11 rfl ?_
    refine v_iload_n dX6_read_12 rfl ?_
    obtain ⟨w17, e18, h⟩ := Option.bind_eq_some_iff.mp h
    refine v_callV (as := [.int v1]) (st := []) (sX6_finds e18) dX6_read_13 mlX6_69 (CRn (by decide) (by decide)) sh_49 rfl rfl rfl (Nat.le_of_ble_eq_true rfl) ?_
    replace h := Option.some.inj h; subst h
    exact v_iret rfl dX6_read_16
/-! ===== BentPlainModel.image()I ===== -/
def fX6_image_2 {ρ : Type} (kx : Mem → Option ρ) : Nat → Int32 → Mem → Option ρ
  | 0, _, _ => none
  | n + 1, y1, M => (if (112 : Int32) ≤ y1 then (kx M) else ((ldI M 50 112 y1).bind fun v2 => ((stI M 51 112 y1 v2).bind fun M4 => (fX6_image_2 kx n (y1 + (1 : Int32)) M4))))
def fX6_image (M : Mem) : Option (Int32 × Mem) := (fX6_image_2 (fun M6 => some ((1 : Int32), (setI M6 49 5 (1 : Int32)))) FU (0 : Int32) M)
set_option maxRecDepth 100000 in
set_option maxHeartbeats 4000000 in
theorem tX6_image_2 {g : Wo} {ρ : Type} {kx : Mem → Option ρ} {r : ρ} {rr : Option Value} {Mr : Mem} (hk : ∀ (Mx : Mem), kx Mx = some r → V g kX6_image (jm g 0 rr Mr) 26 [some (.ref 49), none] [] Mx) : ∀ (n : Nat) (y1 : Int32) (M : Mem), fX6_image_2 kx n y1 M = some r → V g kX6_image (jm g 0 rr Mr) 2 [some (.ref 49), some (.int y1)] [] M := by
  intro n
  induction n with
  | zero =>
    intro y1 M h
    rw [fX6_image_2] at h
    cases h
  | succ n ih =>
    intro y1 M h
    rw [fX6_image_2] at h
    refine v_iload_n dX6_image_2 rfl ?_
    refine v_bipush (v := 112) dX6_image_3 rfl ?_
    refine v_icmp_ge (tgt := 26) dX6_image_5 rfl (fun c1 => ?_) (fun c1 => ?_)
    · replace h := (if_pos c1).symm.trans h
      refine V.sub (ls' := [some (.ref 49), none]) (And.intro rfl trivial) ?_
      exact hk _ h
    · replace h := (if_neg c1).symm.trans h
      refine v_aload_n dX6_image_8 rfl ?_
      refine v_getr dX6_image_9 flX6_13 sh_49 rfl ?_
      refine v_iload_n dX6_image_12 rfl ?_
      refine v_aload_n dX6_image_13 rfl ?_
      refine v_getr dX6_image_14 flX6_7 sh_49 rfl ?_
      refine v_iload_n dX6_image_17 rfl ?_
      obtain ⟨v2, e3, h⟩ := Option.bind_eq_some_iff.mp h
      refine v_ild e3 dX6_image_18 sh_50 ?_
      obtain ⟨M4, e5, h⟩ := Option.bind_eq_some_iff.mp h
      refine v_ist e5 dX6_image_19 sh_51 ?_
      refine v_iinc (v := 1) (ls1 := [some (.ref 49), some (.int (y1 + (1 : Int32)))]) dX6_image_20 rfl rfl (Nat.le_of_ble_eq_true rfl) rfl ?_
      refine v_goto (tgt := 2) dX6_image_23 rfl ?_
      refine V.sub (ls' := [some (.ref 49), some (.int (y1 + (1 : Int32)))]) (And.intro rfl (And.intro rfl trivial)) ?_
      exact ih _ _ h
set_option maxRecDepth 100000 in
set_option maxHeartbeats 4000000 in
theorem sX6_image {g : Wo} {M : Mem} {r : Int32 × Mem} (h : fX6_image M = some r) : Sp g kX6_image 0 [.ref 49] M (some (.int r.1)) r.2 := by
  rw [fX6_image] at h
  refine Sp_intro (by decide) [some (.ref 49), none] rfl (Nat.le_of_ble_eq_true rfl) ?_
  refine v_iconst (v := 0) dX6_image_0 rfl ?_
  refine v_istore_n (ls1 := [some (.ref 49), some (.int (0 : Int32))]) dX6_image_1 (Nat.le_of_ble_eq_true rfl) rfl ?_
  refine V.sub (ls' := [some (.ref 49), some (.int (0 : Int32))]) (And.intro rfl (And.intro rfl trivial)) ?_
  refine tX6_image_2 (fun M6 h => ?_) FU _ _ h
  refine v_aload_n dX6_image_26 rfl ?_
  refine v_iconst (v := 1) dX6_image_27 rfl ?_
  refine v_putz dX6_image_28 fpX6_316 sh_49 rfl z_1 ?_
  refine v_iconst (v := 1) dX6_image_31 rfl ?_
  replace h := Option.some.inj h; subst h
  exact v_iret rfl dX6_image_32
/-! ===== BentPlainModel.undo()I ===== -/
def fX6_undo_16 {ρ : Type} (kx : Mem → Option ρ) : Nat → Int32 → Mem → Option ρ
  | 0, _, _ => none
  | n + 1, y1, M => (if (112 : Int32) ≤ y1 then (kx M) else ((ldI M 51 112 y1).bind fun v3 => ((stI M 50 112 y1 v3).bind fun M5 => (fX6_undo_16 kx n (y1 + (1 : Int32)) M5))))
def fX6_undo (M : Mem) : Option (Int32 × Mem) := (if (M.1 49 5) = 0 then ((fX6_finds (-1000000004 : Int32) M).bind fun w10 => some (w10.1, w10.2)) else (fX6_undo_16 (fun M7 => ((ldI M7 50 112 (0 : Int32)).bind fun v8 => some (v8, M7))) FU (0 : Int32) M))
set_option maxRecDepth 100000 in
set_option maxHeartbeats 4000000 in
theorem tX6_undo_16 {g : Wo} {ρ : Type} {kx : Mem → Option ρ} {r : ρ} {rr : Option Value} {Mr : Mem} (hk : ∀ (Mx : Mem), kx Mx = some r → V g kX6_undo (jm g 1 rr Mr) 40 [some (.ref 49), none] [] Mx) : ∀ (n : Nat) (y1 : Int32) (M : Mem), fX6_undo_16 kx n y1 M = some r → V g kX6_undo (jm g 1 rr Mr) 16 [some (.ref 49), some (.int y1)] [] M := by
  intro n
  induction n with
  | zero =>
    intro y1 M h
    rw [fX6_undo_16] at h
    cases h
  | succ n ih =>
    intro y1 M h
    rw [fX6_undo_16] at h
    refine v_iload_n dX6_undo_16 rfl ?_
    refine v_bipush (v := 112) dX6_undo_17 rfl ?_
    refine v_icmp_ge (tgt := 40) dX6_undo_19 rfl (fun c2 => ?_) (fun c2 => ?_)
    · replace h := (if_pos c2).symm.trans h
      refine V.sub (ls' := [some (.ref 49), none]) (And.intro rfl trivial) ?_
      exact hk _ h
    · replace h := (if_neg c2).symm.trans h
      refine v_aload_n dX6_undo_22 rfl ?_
      refine v_getr dX6_undo_23 flX6_7 sh_49 rfl ?_
      refine v_iload_n dX6_undo_26 rfl ?_
      refine v_aload_n dX6_undo_27 rfl ?_
      refine v_getr dX6_undo_28 flX6_13 sh_49 rfl ?_
      refine v_iload_n dX6_undo_31 rfl ?_
      obtain ⟨v3, e4, h⟩ := Option.bind_eq_some_iff.mp h
      refine v_ild e4 dX6_undo_32 sh_51 ?_
      obtain ⟨M5, e6, h⟩ := Option.bind_eq_some_iff.mp h
      refine v_ist e6 dX6_undo_33 sh_50 ?_
      refine v_iinc (v := 1) (ls1 := [some (.ref 49), some (.int (y1 + (1 : Int32)))]) dX6_undo_34 rfl rfl (Nat.le_of_ble_eq_true rfl) rfl ?_
      refine v_goto (tgt := 16) dX6_undo_37 rfl ?_
      refine V.sub (ls' := [some (.ref 49), some (.int (y1 + (1 : Int32)))]) (And.intro rfl (And.intro rfl trivial)) ?_
      exact ih _ _ h
set_option maxRecDepth 100000 in
set_option maxHeartbeats 4000000 in
theorem sX6_undo {g : Wo} {M : Mem} {r : Int32 × Mem} (h : fX6_undo M = some r) : Sp g kX6_undo 1 [.ref 49] M (some (.int r.1)) r.2 := by
  rw [fX6_undo] at h
  refine Sp_intro (by decide) [some (.ref 49), none] rfl (Nat.le_of_ble_eq_true rfl) ?_
  refine v_aload_n dX6_undo_0 rfl ?_
  refine v_geti dX6_undo_1 flX6_316 sh_49 rfl ?_
  refine v_if_ne (tgt := 14) dX6_undo_4 rfl (fun c1 => ?_) (fun c1 => ?_)
  · replace h := (if_neg c1).symm.trans h
    refine v_iconst (v := 0) dX6_undo_14 rfl ?_
    refine v_istore_n (ls1 := [some (.ref 49), some (.int (0 : Int32))]) dX6_undo_15 (Nat.le_of_ble_eq_true rfl) rfl ?_
    refine V.sub (ls' := [some (.ref 49), some (.int (0 : Int32))]) (And.intro rfl (And.intro rfl trivial)) ?_
    refine tX6_undo_16 (fun M7 h => ?_) FU _ _ h
    refine v_aload_n dX6_undo_40 rfl ?_
    refine v_getr dX6_undo_41 flX6_7 sh_49 rfl ?_
    refine v_iconst (v := 0) dX6_undo_44 rfl ?_
    obtain ⟨v8, e9, h⟩ := Option.bind_eq_some_iff.mp h
    refine v_ild e9 dX6_undo_45 sh_50 ?_
    replace h := Option.some.inj h; subst h
    exact v_iret rfl dX6_undo_46
  · replace h := (if_pos c1).symm.trans h
    refine v_aload_n dX6_undo_7 rfl ?_
    refine v_ldc (v := -1000000004) dX6_undo_8 w_880 ?_
    obtain ⟨w10, e11, h⟩ := Option.bind_eq_some_iff.mp h
    refine v_callV (as := [.int (-1000000004 : Int32)]) (st := []) (sX6_finds e11) dX6_undo_10 mlX6_69 (CRn (by decide) (by decide)) sh_49 rfl rfl rfl (Nat.le_of_ble_eq_true rfl) ?_
    replace h := Option.some.inj h; subst h
    exact v_iret rfl dX6_undo_13
/-! ===== BentPlainModel.tear()I ===== -/
def fX6_tear (M : Mem) : Option (Int32 × Mem) := some ((if (M.1 49 5) = 0 then (0 : Int32) else (1 : Int32)), (setI M 49 5 (0 : Int32)))
set_option maxRecDepth 100000 in
set_option maxHeartbeats 4000000 in
theorem sX6_tear {g : Wo} {M : Mem} {r : Int32 × Mem} (h : fX6_tear M = some r) : Sp g kX6_tear 0 [.ref 49] M (some (.int r.1)) r.2 := by
  rw [fX6_tear] at h
  refine Sp_intro (by decide) [some (.ref 49), none] rfl (Nat.le_of_ble_eq_true rfl) ?_
  refine v_aload_n dX6_tear_0 rfl ?_
  refine v_geti dX6_tear_1 flX6_316 sh_49 rfl ?_
  have hJ : V g kX6_tear (jm g 0 (some (.int r.1)) r.2) 12 [some (.ref 49), none] [.int (if (M.1 49 5) = 0 then (0 : Int32) else (1 : Int32))] M := by
    refine v_istore_n (ls1 := [some (.ref 49), some (.int (if (M.1 49 5) = 0 then (0 : Int32) else (1 : Int32)))]) dX6_tear_12 (Nat.le_of_ble_eq_true rfl) rfl ?_
    refine v_aload_n dX6_tear_13 rfl ?_
    refine v_iconst (v := 0) dX6_tear_14 rfl ?_
    refine v_putz dX6_tear_15 fpX6_316 sh_49 rfl z_0 ?_
    refine v_iload_n dX6_tear_18 rfl ?_
    replace h := Option.some.inj h; subst h
    exact v_iret rfl dX6_tear_19
  refine v_if_eq (tgt := 11) dX6_tear_4 rfl (fun c1 => ?_) (fun c1 => ?_)
  · refine v_iconst (v := 0) dX6_tear_11 rfl ?_
    refine V.sub (ls' := [some (.ref 49), none]) (And.intro rfl trivial) ?_
    first | (simp only [if_pos c1] at hJ; exact hJ) | exact hJ | (simp only [if_pos c1] at hJ ⊢; exact hJ)
  · refine v_iconst (v := 1) dX6_tear_7 rfl ?_
    refine v_goto (tgt := 12) dX6_tear_8 rfl ?_
    refine V.sub (ls' := [some (.ref 49), none]) (And.intro rfl trivial) ?_
    first | (simp only [if_neg c1] at hJ; exact hJ) | exact hJ | (simp only [if_neg c1] at hJ ⊢; exact hJ)
/-! ===== BentPlainModel.gluedSides()I ===== -/
def fX6_gluedSides_4 {ρ : Type} (kx : Int32 → Option ρ) (M : Mem) : Nat → Int32 → Int32 → Option ρ
  | 0, _, _ => none
  | n + 1, y1, y2 => (if (64 : Int32) ≤ y2 then (kx y1) else ((ldI M 50 112 ((18 : Int32) + y2)).bind fun v2 => (fX6_gluedSides_4 kx M n (y1 + (if v2 ≤ 0 then (0 : Int32) else (1 : Int32))) (y2 + (1 : Int32)))))
def fX6_gluedSides (M : Mem) : Option Int32 := (fX6_gluedSides_4 (fun u5 => some u5) M FU (0 : Int32) (0 : Int32))
set_option maxRecDepth 100000 in
set_option maxHeartbeats 4000000 in
theorem tX6_gluedSides_4 {g : Wo} {ρ : Type} {kx : Int32 → Option ρ} {M : Mem} {r : ρ} {rr : Option Value} {Mr : Mem} (hk : ∀ (z1 : Int32), kx z1 = some r → V g kX6_gluedSides (jm g 0 rr Mr) 36 [none, some (.int z1), none] [] M) : ∀ (n : Nat) (y1 : Int32) (y2 : Int32), fX6_gluedSides_4 kx M n y1 y2 = some r → V g kX6_gluedSides (jm g 0 rr Mr) 4 [some (.ref 49), some (.int y1), some (.int y2)] [] M := by
  intro n
  induction n with
  | zero =>
    intro y1 y2 h
    rw [fX6_gluedSides_4] at h
    cases h
  | succ n ih =>
    intro y1 y2 h
    rw [fX6_gluedSides_4] at h
    refine v_iload_n dX6_gluedSides_4 rfl ?_
    refine v_bipush (v := 64) dX6_gluedSides_5 rfl ?_
    refine v_icmp_ge (tgt := 36) dX6_gluedSides_7 rfl (fun c1 => ?_) (fun c1 => ?_)
    · replace h := (if_pos c1).symm.trans h
      refine V.sub (ls' := [none, some (.int y1), none]) (And.intro rfl trivial) ?_
      exact hk _ h
    · replace h := (if_neg c1).symm.trans h
      refine v_iload_n dX6_gluedSides_10 rfl ?_
      refine v_aload_n dX6_gluedSides_11 rfl ?_
      refine v_getr dX6_gluedSides_12 flX6_7 sh_49 rfl ?_
      refine v_bipush (v := 18) dX6_gluedSides_15 rfl ?_
      refine v_iload_n dX6_gluedSides_17 rfl ?_
      refine v_iadd dX6_gluedSides_18 ?_
      obtain ⟨v2, e3, h⟩ := Option.bind_eq_some_iff.mp h
      refine v_ild e3 dX6_gluedSides_19 sh_50 ?_
      have hJ : V g kX6_gluedSides (jm g 0 rr Mr) 28 [some (.ref 49), none, some (.int y2)] [.int (if v2 ≤ 0 then (0 : Int32) else (1 : Int32)), .int y1] M := by
        refine v_iadd dX6_gluedSides_28 ?_
        refine v_istore_n (ls1 := [some (.ref 49), some (.int (y1 + (if v2 ≤ 0 then (0 : Int32) else (1 : Int32)))), some (.int y2)]) dX6_gluedSides_29 (Nat.le_of_ble_eq_true rfl) rfl ?_
        refine v_iinc (v := 1) (ls1 := [some (.ref 49), some (.int (y1 + (if v2 ≤ 0 then (0 : Int32) else (1 : Int32)))), some (.int (y2 + (1 : Int32)))]) dX6_gluedSides_30 rfl rfl (Nat.le_of_ble_eq_true rfl) rfl ?_
        refine v_goto (tgt := 4) dX6_gluedSides_33 rfl ?_
        refine V.sub (ls' := [some (.ref 49), some (.int (y1 + (if v2 ≤ 0 then (0 : Int32) else (1 : Int32)))), some (.int (y2 + (1 : Int32)))]) (And.intro rfl (And.intro rfl (And.intro rfl trivial))) ?_
        exact ih _ _ h
      refine v_if_le (tgt := 27) dX6_gluedSides_20 rfl (fun c4 => ?_) (fun c4 => ?_)
      · refine v_iconst (v := 0) dX6_gluedSides_27 rfl ?_
        refine V.sub (ls' := [some (.ref 49), none, some (.int y2)]) (And.intro rfl (And.intro rfl trivial)) ?_
        first | (simp only [if_pos c4] at hJ; exact hJ) | exact hJ | (simp only [if_pos c4] at hJ ⊢; exact hJ)
      · refine v_iconst (v := 1) dX6_gluedSides_23 rfl ?_
        refine v_goto (tgt := 28) dX6_gluedSides_24 rfl ?_
        refine V.sub (ls' := [some (.ref 49), none, some (.int y2)]) (And.intro rfl (And.intro rfl trivial)) ?_
        first | (simp only [if_neg c4] at hJ; exact hJ) | exact hJ | (simp only [if_neg c4] at hJ ⊢; exact hJ)
set_option maxRecDepth 100000 in
set_option maxHeartbeats 4000000 in
theorem sX6_gluedSides {g : Wo} {M : Mem} {r : Int32} (h : fX6_gluedSides M = some r) : Sp g kX6_gluedSides 0 [.ref 49] M (some (.int r)) M := by
  rw [fX6_gluedSides] at h
  refine Sp_intro (by decide) [some (.ref 49), none, none] rfl (Nat.le_of_ble_eq_true rfl) ?_
  refine v_iconst (v := 0) dX6_gluedSides_0 rfl ?_
  refine v_istore_n (ls1 := [some (.ref 49), some (.int (0 : Int32)), none]) dX6_gluedSides_1 (Nat.le_of_ble_eq_true rfl) rfl ?_
  refine v_iconst (v := 0) dX6_gluedSides_2 rfl ?_
  refine v_istore_n (ls1 := [some (.ref 49), some (.int (0 : Int32)), some (.int (0 : Int32))]) dX6_gluedSides_3 (Nat.le_of_ble_eq_true rfl) rfl ?_
  refine V.sub (ls' := [some (.ref 49), some (.int (0 : Int32)), some (.int (0 : Int32))]) (And.intro rfl (And.intro rfl (And.intro rfl trivial))) ?_
  refine tX6_gluedSides_4 (fun u5 h => ?_) FU _ _ h
  refine v_iload_n dX6_gluedSides_36 rfl ?_
  replace h := Option.some.inj h; subst h
  exact v_iret rfl dX6_gluedSides_37
/-! ===== BentPlainModel.count(I)I ===== -/
def fX6_count (x1 : Int32) (M : Mem) : Option (Int32 × Mem) := (if x1 = (0 : Int32) then ((ldI M 50 112 (0 : Int32)).bind fun v2 => some (v2, M)) else (if x1 = (1 : Int32) then ((ldI M 50 112 (1 : Int32)).bind fun v5 => some (v5, M)) else (if x1 = (2 : Int32) then some ((M.1 49 8), M) else (if x1 = (3 : Int32) then ((fX6_gluedSides M).bind fun v9 => some (v9, M)) else (if x1 = (4 : Int32) then ((fX6_allMiles M).bind fun v12 => some (v12, M)) else ((fX6_finds (-1000000001 : Int32) M).bind fun w14 => some (w14.1, w14.2)))))))
set_option maxRecDepth 100000 in
set_option maxHeartbeats 4000000 in
theorem sX6_count {g : Wo} {M : Mem} {x1 : Int32} {r : Int32 × Mem} (h : fX6_count x1 M = some r) : Sp g kX6_count 3 [.ref 49, .int x1] M (some (.int r.1)) r.2 := by
  rw [fX6_count] at h
  refine Sp_intro (by decide) [some (.ref 49), some (.int x1)] rfl (Nat.le_of_ble_eq_true rfl) ?_
  refine v_iload_n dX6_count_0 rfl ?_
  by_cases c1 : x1 = (0 : Int32)
  · replace h := (if_pos c1).symm.trans h
    refine v_tabIn (off := 35) (tgt := 36) dX6_count_1 (by rw [c1]; decide) (by rw [c1]; decide) (by rw [c1]; decide) rfl ?_
    refine v_aload_n dX6_count_36 rfl ?_
    refine v_getr dX6_count_37 flX6_7 sh_49 rfl ?_
    refine v_iconst (v := 0) dX6_count_40 rfl ?_
    obtain ⟨v2, e3, h⟩ := Option.bind_eq_some_iff.mp h
    refine v_ild e3 dX6_count_41 sh_50 ?_
    replace h := Option.some.inj h; subst h
    exact v_iret rfl dX6_count_42
  · replace h := (if_neg c1).symm.trans h
    by_cases c4 : x1 = (1 : Int32)
    · replace h := (if_pos c4).symm.trans h
      refine v_tabIn (off := 42) (tgt := 43) dX6_count_1 (by rw [c4]; decide) (by rw [c4]; decide) (by rw [c4]; decide) rfl ?_
      refine v_aload_n dX6_count_43 rfl ?_
      refine v_getr dX6_count_44 flX6_7 sh_49 rfl ?_
      refine v_iconst (v := 1) dX6_count_47 rfl ?_
      obtain ⟨v5, e6, h⟩ := Option.bind_eq_some_iff.mp h
      refine v_ild e6 dX6_count_48 sh_50 ?_
      replace h := Option.some.inj h; subst h
      exact v_iret rfl dX6_count_49
    · replace h := (if_neg c4).symm.trans h
      by_cases c7 : x1 = (2 : Int32)
      · replace h := (if_pos c7).symm.trans h
        refine v_tabIn (off := 49) (tgt := 50) dX6_count_1 (by rw [c7]; decide) (by rw [c7]; decide) (by rw [c7]; decide) rfl ?_
        refine v_aload_n dX6_count_50 rfl ?_
        refine v_geti dX6_count_51 flX6_182 sh_49 rfl ?_
        replace h := Option.some.inj h; subst h
        exact v_iret rfl dX6_count_54
      · replace h := (if_neg c7).symm.trans h
        by_cases c8 : x1 = (3 : Int32)
        · replace h := (if_pos c8).symm.trans h
          refine v_tabIn (off := 54) (tgt := 55) dX6_count_1 (by rw [c8]; decide) (by rw [c8]; decide) (by rw [c8]; decide) rfl ?_
          refine v_aload_n dX6_count_55 rfl ?_
          obtain ⟨v9, e10, h⟩ := Option.bind_eq_some_iff.mp h
          refine v_callV (as := []) (st := []) (sX6_gluedSides e10) dX6_count_56 mlX6_319 (CRn (by decide) (by decide)) sh_49 rfl rfl rfl (Nat.le_of_ble_eq_true rfl) ?_
          replace h := Option.some.inj h; subst h
          exact v_iret rfl dX6_count_59
        · replace h := (if_neg c8).symm.trans h
          by_cases c11 : x1 = (4 : Int32)
          · replace h := (if_pos c11).symm.trans h
            refine v_tabIn (off := 59) (tgt := 60) dX6_count_1 (by rw [c11]; decide) (by rw [c11]; decide) (by rw [c11]; decide) rfl ?_
            refine v_aload_n dX6_count_60 rfl ?_
            obtain ⟨v12, e13, h⟩ := Option.bind_eq_some_iff.mp h
            refine v_callV (as := []) (st := []) (sX6_allMiles e13) dX6_count_61 mlX6_142 (CRn (by decide) (by decide)) sh_49 rfl rfl rfl (Nat.le_of_ble_eq_true rfl) ?_
            replace h := Option.some.inj h; subst h
            exact v_iret rfl dX6_count_64
          · replace h := (if_neg c11).symm.trans h
            refine v_tabOut (tgt := 65) dX6_count_1 ?_ rfl ?_
            · have o0 := i32ne c1
              have o1 := i32ne c4
              have o2 := i32ne c7
              have o3 := i32ne c8
              have o4 := i32ne c11
              simp only [i32l_0, i32l_1, i32l_2, i32l_3, i32l_4] at o0 o1 o2 o3 o4
              omega
            · refine v_aload_n dX6_count_65 rfl ?_
              refine v_ldc (v := -1000000001) dX6_count_66 w_809 ?_
              obtain ⟨w14, e15, h⟩ := Option.bind_eq_some_iff.mp h
              refine v_callV (as := [.int (-1000000001 : Int32)]) (st := []) (sX6_finds e15) dX6_count_68 mlX6_69 (CRn (by decide) (by decide)) sh_49 rfl rfl rfl (Nat.le_of_ble_eq_true rfl) ?_
              replace h := Option.some.inj h; subst h
              exact v_iret rfl dX6_count_71
/-! ===== BentPlainModel.status(I)I ===== -/
def fX6_status_25 {ρ : Type} (kx : Int32 → Option ρ) (y1 : Int32) (M : Mem) : Nat → Int32 → Int32 → Option ρ
  | 0, _, _ => none
  | n + 1, y2, y3 => (if (7 : Int32) ≤ y3 then (kx y2) else ((if y1 < 0 then ((ldI M 54 7 y3).bind fun v7 => some v7) else (if y3 = y1 then ((ldI M 54 7 y3).bind fun v10 => some v10) else some (0 : Int32))).bind fun t5 => (fX6_status_25 kx y1 M n (y2 + t5) (y3 + (1 : Int32)))))
def fX6_status (x1 : Int32) (M : Mem) : Option (Int32 × Mem) := (if (fX6_in ((x1).toInt64) (-1 : Int64) (6 : Int64)) = 0 then ((fX6_finds (-1000000001 : Int32) M).bind fun w13 => some (w13.1, w13.2)) else (fX6_status_25 (fun u12 => some (u12, M)) x1 M FU (0 : Int32) (0 : Int32)))
set_option maxRecDepth 100000 in
set_option maxHeartbeats 4000000 in
theorem tX6_status_25 {g : Wo} {ρ : Type} {kx : Int32 → Option ρ} {y1 : Int32} {M : Mem} {r : ρ} {rr : Option Value} {Mr : Mem} (hk : ∀ (z2 : Int32), kx z2 = some r → V g kX6_status (jm g 1 rr Mr) 59 [none, none, some (.int z2), none] [] M) : ∀ (n : Nat) (y2 : Int32) (y3 : Int32), fX6_status_25 kx y1 M n y2 y3 = some r → V g kX6_status (jm g 1 rr Mr) 25 [some (.ref 49), some (.int y1), some (.int y2), some (.int y3)] [] M := by
  intro n
  induction n with
  | zero =>
    intro y2 y3 h
    rw [fX6_status_25] at h
    cases h
  | succ n ih =>
    intro y2 y3 h
    rw [fX6_status_25] at h
    refine v_iload_n dX6_status_25 rfl ?_
    refine v_bipush (v := 7) dX6_status_26 rfl ?_
    refine v_icmp_ge (tgt := 59) dX6_status_28 rfl (fun c2 => ?_) (fun c2 => ?_)
    · replace h := (if_pos c2).symm.trans h
      refine V.sub (ls' := [none, none, some (.int y2), none]) (And.intro rfl trivial) ?_
      exact hk _ h
    · replace h := (if_neg c2).symm.trans h
      refine v_iload_n dX6_status_31 rfl ?_
      refine v_iload_n dX6_status_32 rfl ?_
      obtain ⟨t5, e6, h⟩ := Option.bind_eq_some_iff.mp h
      have hJ : V g kX6_status (jm g 1 rr Mr) 51 [some (.ref 49), some (.int y1), none, some (.int y3)] [.int t5, .int y2] M := by
        refine v_iadd dX6_status_51 ?_
        refine v_istore_n (ls1 := [some (.ref 49), some (.int y1), some (.int (y2 + t5)), some (.int y3)]) dX6_status_52 (Nat.le_of_ble_eq_true rfl) rfl ?_
        refine v_iinc (v := 1) (ls1 := [some (.ref 49), some (.int y1), some (.int (y2 + t5)), some (.int (y3 + (1 : Int32)))]) dX6_status_53 rfl rfl (Nat.le_of_ble_eq_true rfl) rfl ?_
        refine v_goto (tgt := 25) dX6_status_56 rfl ?_
        refine V.sub (ls' := [some (.ref 49), some (.int y1), some (.int (y2 + t5)), some (.int (y3 + (1 : Int32)))]) (And.intro rfl (And.intro rfl (And.intro rfl (And.intro rfl trivial)))) ?_
        exact ih _ _ h
      clear h
      have h := e6
      clear e6
      refine v_if_lt (tgt := 41) dX6_status_33 rfl (fun c4 => ?_) (fun c4 => ?_)
      · replace h := (if_pos c4).symm.trans h
        refine v_aload_n dX6_status_41 rfl ?_
        refine v_getr dX6_status_42 flX6_22 sh_49 rfl ?_
        refine v_iload_n dX6_status_45 rfl ?_
        obtain ⟨v7, e8, h⟩ := Option.bind_eq_some_iff.mp h
        refine v_ild e8 dX6_status_46 sh_54 ?_
        refine v_goto (tgt := 51) dX6_status_47 rfl ?_
        replace h := Option.some.inj h; subst h
        refine V.sub (ls' := [some (.ref 49), some (.int y1), none, some (.int y3)]) (And.intro rfl (And.intro rfl (And.intro rfl trivial))) ?_
        exact hJ
      · replace h := (if_neg c4).symm.trans h
        refine v_iload_n dX6_status_36 rfl ?_
        refine v_iload_n dX6_status_37 rfl ?_
        refine v_icmp_ne (tgt := 50) dX6_status_38 rfl (fun c9 => ?_) (fun c9 => ?_)
        · replace h := (if_neg c9).symm.trans h
          refine v_iconst (v := 0) dX6_status_50 rfl ?_
          replace h := Option.some.inj h; subst h
          refine V.sub (ls' := [some (.ref 49), some (.int y1), none, some (.int y3)]) (And.intro rfl (And.intro rfl (And.intro rfl trivial))) ?_
          exact hJ
        · replace h := (if_pos c9).symm.trans h
          refine v_aload_n dX6_status_41 rfl ?_
          refine v_getr dX6_status_42 flX6_22 sh_49 rfl ?_
          refine v_iload_n dX6_status_45 rfl ?_
          obtain ⟨v10, e11, h⟩ := Option.bind_eq_some_iff.mp h
          refine v_ild e11 dX6_status_46 sh_54 ?_
          refine v_goto (tgt := 51) dX6_status_47 rfl ?_
          replace h := Option.some.inj h; subst h
          refine V.sub (ls' := [some (.ref 49), some (.int y1), none, some (.int y3)]) (And.intro rfl (And.intro rfl (And.intro rfl trivial))) ?_
          exact hJ
set_option maxRecDepth 100000 in
set_option maxHeartbeats 4000000 in
theorem sX6_status {g : Wo} {M : Mem} {x1 : Int32} {r : Int32 × Mem} (h : fX6_status x1 M = some r) : Sp g kX6_status 1 [.ref 49, .int x1] M (some (.int r.1)) r.2 := by
  rw [fX6_status] at h
  refine Sp_intro (by decide) [some (.ref 49), some (.int x1), none, none] rfl (Nat.le_of_ble_eq_true rfl) ?_
  refine v_iload_n dX6_status_0 rfl ?_
  refine v_i2l dX6_status_1 ?_
  refine v_ldc2 (v := -1) dX6_status_2 w_1257 ?_
  refine v_ldc2 (v := 6) dX6_status_5 w_1258 ?_
  refine v_callS (as := [.long ((x1).toInt64), .long (-1 : Int64), .long (6 : Int64)]) (st := []) (sX6_in rfl) dX6_status_8 mlX6_45 (CRn (by decide) (by decide)) rfl rfl (Nat.le_of_ble_eq_true rfl) ?_
  refine v_if_ne (tgt := 21) dX6_status_11 rfl (fun c1 => ?_) (fun c1 => ?_)
  · replace h := (if_neg c1).symm.trans h
    refine v_iconst (v := 0) dX6_status_21 rfl ?_
    refine v_istore_n (ls1 := [some (.ref 49), some (.int x1), some (.int (0 : Int32)), none]) dX6_status_22 (Nat.le_of_ble_eq_true rfl) rfl ?_
    refine v_iconst (v := 0) dX6_status_23 rfl ?_
    refine v_istore_n (ls1 := [some (.ref 49), some (.int x1), some (.int (0 : Int32)), some (.int (0 : Int32))]) dX6_status_24 (Nat.le_of_ble_eq_true rfl) rfl ?_
    refine V.sub (ls' := [some (.ref 49), some (.int x1), some (.int (0 : Int32)), some (.int (0 : Int32))]) (And.intro rfl (And.intro rfl (And.intro rfl (And.intro rfl trivial)))) ?_
    refine tX6_status_25 (fun u12 h => ?_) FU _ _ h
    refine v_iload_n dX6_status_59 rfl ?_
    replace h := Option.some.inj h; subst h
    exact v_iret rfl dX6_status_60
  · replace h := (if_pos c1).symm.trans h
    refine v_aload_n dX6_status_14 rfl ?_
    refine v_ldc (v := -1000000001) dX6_status_15 w_809 ?_
    obtain ⟨w13, e14, h⟩ := Option.bind_eq_some_iff.mp h
    refine v_callV (as := [.int (-1000000001 : Int32)]) (st := []) (sX6_finds e14) dX6_status_17 mlX6_69 (CRn (by decide) (by decide)) sh_49 rfl rfl rfl (Nat.le_of_ble_eq_true rfl) ?_
    replace h := Option.some.inj h; subst h
    exact v_iret rfl dX6_status_20
