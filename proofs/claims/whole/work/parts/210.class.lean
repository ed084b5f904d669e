/-! ===== BentPlain.image()I ===== -/
def fX5_image (M : Mem) : Option (Int32 × Mem) := ((fX0_become 11 1 M).bind fun w1 => some ((1 : Int32), (setI w1 0 11 (1 : Int32))))
set_option maxRecDepth 100000 in
set_option maxHeartbeats 4000000 in
theorem sX5_image {g : Wo} {M : Mem} {r : Int32 × Mem} (h : fX5_image M = some r) : Sp g kX5_image 2 [.ref 0] M (some (.int r.1)) r.2 := by
  rw [fX5_image] at h
  refine Sp_intro (by decide) [some (.ref 0)] rfl (Nat.le_of_ble_eq_true rfl) ?_
  refine v_aload_n dX5_image_0 rfl ?_
  refine v_getr dX5_image_1 flX5_16 sh_0 rfl ?_
  refine v_aload_n dX5_image_4 rfl ?_
  refine v_getr dX5_image_5 flX5_12 sh_0 rfl ?_
  obtain ⟨w1, e2, h⟩ := Option.bind_eq_some_iff.mp h
  refine v_callV (as := [.ref 1]) (st := []) (sX0_become isG_11 isG_1 e2) dX5_image_8 mlX5_241 (CRn (by decide) (by decide)) sh_11 rfl rfl rfl (Nat.le_of_ble_eq_true rfl) ?_
  refine v_aload_n dX5_image_11 rfl ?_
  refine v_iconst (v := 1) dX5_image_12 rfl ?_
  refine v_putz dX5_image_13 fpX5_292 sh_0 rfl z_1 ?_
  refine v_iconst (v := 1) dX5_image_16 rfl ?_
  replace h := Option.some.inj h; subst h
  exact v_iret rfl dX5_image_17
/-! ===== BentPlain.undo()I ===== -/
def fX5_undo (M : Mem) : Option (Int32 × Mem) := (if (M.1 0 11) = 0 then ((fX5_tell (-1000000004 : Int32) M).bind fun w4 => some (w4.1, w4.2)) else ((fX0_become 1 11 M).bind fun w2 => some ((w2.1 1 0), w2)))
set_option maxRecDepth 100000 in
set_option maxHeartbeats 4000000 in
theorem sX5_undo {g : Wo} {M : Mem} {r : Int32 × Mem} (h : fX5_undo M = some r) : Sp g kX5_undo 2 [.ref 0] M (some (.int r.1)) r.2 := by
  rw [fX5_undo] at h
  refine Sp_intro (by decide) [some (.ref 0)] rfl (Nat.le_of_ble_eq_true rfl) ?_
  refine v_aload_n dX5_undo_0 rfl ?_
  refine v_geti dX5_undo_1 flX5_292 sh_0 rfl ?_
  refine v_if_ne (tgt := 14) dX5_undo_4 rfl (fun c1 => ?_) (fun c1 => ?_)
  · replace h := (if_neg c1).symm.trans h
    refine v_aload_n dX5_undo_14 rfl ?_
    refine v_getr dX5_undo_15 flX5_12 sh_0 rfl ?_
    refine v_aload_n dX5_undo_18 rfl ?_
    refine v_getr dX5_undo_19 flX5_16 sh_0 rfl ?_
    obtain ⟨w2, e3, h⟩ := Option.bind_eq_some_iff.mp h
    refine v_callV (as := [.ref 11]) (st := []) (sX0_become isG_1 isG_11 e3) dX5_undo_22 mlX5_241 (CRn (by decide) (by decide)) sh_1 rfl rfl rfl (Nat.le_of_ble_eq_true rfl) ?_
    refine v_aload_n dX5_undo_25 rfl ?_
    refine v_getr dX5_undo_26 flX5_12 sh_0 rfl ?_
    refine v_geti dX5_undo_29 flX5_68 sh_1 rfl ?_
    replace h := Option.some.inj h; subst h
    exact v_iret rfl dX5_undo_32
  · replace h := (if_pos c1).symm.trans h
    refine v_aload_n dX5_undo_7 rfl ?_
    refine v_ldc (v := -1000000004) dX5_undo_8 w_264 ?_
    obtain ⟨w4, e5, h⟩ := Option.bind_eq_some_iff.mp h
    refine v_callV (as := [.int (-1000000004 : Int32)]) (st := []) (sX5_tell e5) dX5_undo_10 mlX5_64 (CRn (by decide) (by decide)) sh_0 rfl rfl rfl (Nat.le_of_ble_eq_true rfl) ?_
    replace h := Option.some.inj h; subst h
    exact v_iret rfl dX5_undo_13
/-! ===== BentPlain.tear()I ===== -/
def fX5_tear (M : Mem) : Option (Int32 × Mem) := some ((if (M.1 0 11) = 0 then (0 : Int32) else (1 : Int32)), (setI M 0 11 (0 : Int32)))
set_option maxRecDepth 100000 in
set_option maxHeartbeats 4000000 in
theorem sX5_tear {g : Wo} {M : Mem} {r : Int32 × Mem} (h : fX5_tear M = some r) : Sp g kX5_tear 0 [.ref 0] M (some (.int r.1)) r.2 := by
  rw [fX5_tear] at h
  refine Sp_intro (by decide) [some (.ref 0), none] rfl (Nat.le_of_ble_eq_true rfl) ?_
  refine v_aload_n dX5_tear_0 rfl ?_
  refine v_geti dX5_tear_1 flX5_292 sh_0 rfl ?_
  have hJ : V g kX5_tear (jm g 0 (some (.int r.1)) r.2) 12 [some (.ref 0), none] [.int (if (M.1 0 11) = 0 then (0 : Int32) else (1 : Int32))] M := by
    refine v_istore_n (ls1 := [some (.ref 0), some (.int (if (M.1 0 11) = 0 then (0 : Int32) else (1 : Int32)))]) dX5_tear_12 (Nat.le_of_ble_eq_true rfl) rfl ?_
    refine v_aload_n dX5_tear_13 rfl ?_
    refine v_iconst (v := 0) dX5_tear_14 rfl ?_
    refine v_putz dX5_tear_15 fpX5_292 sh_0 rfl z_0 ?_
    refine v_iload_n dX5_tear_18 rfl ?_
    replace h := Option.some.inj h; subst h
    exact v_iret rfl dX5_tear_19
  refine v_if_eq (tgt := 11) dX5_tear_4 rfl (fun c1 => ?_) (fun c1 => ?_)
  · refine v_iconst (v := 0) dX5_tear_11 rfl ?_
    refine V.sub (ls' := [some (.ref 0), none]) (And.intro rfl trivial) ?_
    first | (simp only [if_pos c1] at hJ; exact hJ) | exact hJ | (simp only [if_pos c1] at hJ ⊢; exact hJ)
  · refine v_iconst (v := 1) dX5_tear_7 rfl ?_
    refine v_goto (tgt := 12) dX5_tear_8 rfl ?_
    refine V.sub (ls' := [some (.ref 0), none]) (And.intro rfl trivial) ?_
    first | (simp only [if_neg c1] at hJ; exact hJ) | exact hJ | (simp only [if_neg c1] at hJ ⊢; exact hJ)
/-! ===== BentPlain$Ground.gluedSides()I ===== -/
def fX0_gluedSides_4 {ρ : Type} (kx : Int32 → Option ρ) (M : Mem) : Nat → Int32 → Int32 → Option ρ
  | 0, _, _ => none
  | n + 1, y1, y2 => (if (fX0_ways M) ≤ y2 then (kx y1) else ((fX0_isFree y2 M).bind fun v2 => (fX0_gluedSides_4 kx M n (if v2 = 0 then (y1 + (1 : Int32)) else y1) (y2 + (1 : Int32)))))
def fX0_gluedSides (M : Mem) : Option Int32 := (fX0_gluedSides_4 (fun u5 => some u5) M FU (0 : Int32) (0 : Int32))
set_option maxRecDepth 100000 in
set_option maxHeartbeats 4000000 in
theorem tX0_gluedSides_4 {g : Wo} {ρ : Type} {kx : Int32 → Option ρ} {M : Mem} {r : ρ} {rr : Option Value} {Mr : Mem} (hk : ∀ (z1 : Int32), kx z1 = some r → V g kX0_gluedSides (jm g 3 rr Mr) 29 [none, some (.int z1), none] [] M) : ∀ (n : Nat) (y1 : Int32) (y2 : Int32), fX0_gluedSides_4 kx M n y1 y2 = some r → V g kX0_gluedSides (jm g 3 rr Mr) 4 [some (.ref 1), some (.int y1), some (.int y2)] [] M := by
  intro n
  induction n with
  | zero =>
    intro y1 y2 h
    rw [fX0_gluedSides_4] at h
    cases h
  | succ n ih =>
    intro y1 y2 h
    rw [fX0_gluedSides_4] at h
    refine v_iload_n dX0_gluedSides_4 rfl ?_
    refine v_aload_n dX0_gluedSides_5 rfl ?_
    refine v_callV (as := []) (st := [.int y2]) (sX0_ways rfl) dX0_gluedSides_6 mlX0_54 (CRn (by decide) (by decide)) sh_1 rfl rfl rfl (Nat.le_of_ble_eq_true rfl) ?_
    refine v_icmp_ge (tgt := 29) dX0_gluedSides_9 rfl (fun c1 => ?_) (fun c1 => ?_)
    · replace h := (if_pos c1).symm.trans h
      refine V.sub (ls' := [none, some (.int y1), none]) (And.intro rfl trivial) ?_
      exact hk _ h
    · replace h := (if_neg c1).symm.trans h
      refine v_aload_n dX0_gluedSides_12 rfl ?_
      refine v_iload_n dX0_gluedSides_13 rfl ?_
      obtain ⟨v2, e3, h⟩ := Option.bind_eq_some_iff.mp h
      refine v_callV (as := [.int y2]) (st := []) (sX0_isFree e3) dX0_gluedSides_14 mlX0_62 (CRn (by decide) (by decide)) sh_1 rfl rfl rfl (Nat.le_of_ble_eq_true rfl) ?_
      have hJ : V g kX0_gluedSides (jm g 3 rr Mr) 23 [some (.ref 1), some (.int (if v2 = 0 then (y1 + (1 : Int32)) else y1)), some (.int y2)] [] M := by
        refine v_iinc (v := 1) (ls1 := [some (.ref 1), some (.int (if v2 = 0 then (y1 + (1 : Int32)) else y1)), some (.int (y2 + (1 : Int32)))]) dX0_gluedSides_23 rfl rfl (Nat.le_of_ble_eq_true rfl) rfl ?_
        refine v_goto (tgt := 4) dX0_gluedSides_26 rfl ?_
        refine V.sub (ls' := [some (.ref 1), some (.int (if v2 = 0 then (y1 + (1 : Int32)) else y1)), some (.int (y2 + (1 : Int32)))]) (And.intro rfl (And.intro rfl (And.intro rfl trivial))) ?_
        exact ih _ _ h
      refine v_if_ne (tgt := 23) dX0_gluedSides_17 rfl (fun c4 => ?_) (fun c4 => ?_)
      · refine V.sub (ls' := [some (.ref 1), some (.int y1), some (.int y2)]) (And.intro rfl (And.intro rfl (And.intro rfl trivial))) ?_
        first | (simp only [if_neg c4] at hJ; exact hJ) | exact hJ | (simp only [if_neg c4] at hJ ⊢; exact hJ)
      · refine v_iinc (v := 1) (ls1 := [some (.ref 1), some (.int (y1 + (1 : Int32))), some (.int y2)]) dX0_gluedSides_20 rfl rfl (Nat.le_of_ble_eq_true rfl) rfl ?_
        refine V.sub (ls' := [some (.ref 1), some (.int (y1 + (1 : Int32))), some (.int y2)]) (And.intro rfl (And.intro rfl (And.intro rfl trivial))) ?_
        first | (simp only [if_pos c4] at hJ; exact hJ) | exact hJ | (simp only [if_pos c4] at hJ ⊢; exact hJ)
set_option maxRecDepth 100000 in
set_option maxHeartbeats 4000000 in
theorem sX0_gluedSides {g : Wo} {M : Mem} {r : Int32} (h : fX0_gluedSides M = some r) : Sp g kX0_gluedSides 3 [.ref 1] M (some (.int r)) M := by
  rw [fX0_gluedSides] at h
  refine Sp_intro (by decide) [some (.ref 1), none, none] rfl (Nat.le_of_ble_eq_true rfl) ?_
  refine v_iconst (v := 0) dX0_gluedSides_0 rfl ?_
  refine v_istore_n (ls1 := [some (.ref 1), some (.int (0 : Int32)), none]) dX0_gluedSides_1 (Nat.le_of_ble_eq_true rfl) rfl ?_
  refine v_iconst (v := 0) dX0_gluedSides_2 rfl ?_
  refine v_istore_n (ls1 := [some (.ref 1), some (.int (0 : Int32)), some (.int (0 : Int32))]) dX0_gluedSides_3 (Nat.le_of_ble_eq_true rfl) rfl ?_
  refine V.sub (ls' := [some (.ref 1), some (.int (0 : Int32)), some (.int (0 : Int32))]) (And.intro rfl (And.intro rfl (And.intro rfl trivial))) ?_
  refine tX0_gluedSides_4 (fun u5 h => ?_) FU _ _ h
  refine v_iload_n dX0_gluedSides_29 rfl ?_
  replace h := Option.some.inj h; subst h
  exact v_iret rfl dX0_gluedSides_30
/-! ===== BentPlain.count(I)I ===== -/
def fX5_count (x1 : Int32) (M : Mem) : Option (Int32 × Mem) := (if x1 = (0 : Int32) then some ((M.1 1 0), M) else (if x1 = (1 : Int32) then some ((M.1 1 1), M) else (if x1 = (2 : Int32) then some ((M.1 36 0), M) else (if x1 = (3 : Int32) then ((fX0_gluedSides M).bind fun v5 => some (v5, M)) else (if x1 = (4 : Int32) then ((fX0_milesOfAll M).bind fun v8 => some (v8, M)) else ((fX5_tell (-1000000001 : Int32) M).bind fun w10 => some (w10.1, w10.2)))))))
set_option maxRecDepth 100000 in
set_option maxHeartbeats 4000000 in
theorem sX5_count {g : Wo} {M : Mem} {x1 : Int32} {r : Int32 × Mem} (h : fX5_count x1 M = some r) : Sp g kX5_count 4 [.ref 0, .int x1] M (some (.int r.1)) r.2 := by
  rw [fX5_count] at h
  refine Sp_intro (by decide) [some (.ref 0), some (.int x1)] rfl (Nat.le_of_ble_eq_true rfl) ?_
  refine v_iload_n dX5_count_0 rfl ?_
  by_cases c1 : x1 = (0 : Int32)
  · replace h := (if_pos c1).symm.trans h
    refine v_tabIn (off := 35) (tgt := 36) dX5_count_1 (by rw [c1]; decide) (by rw [c1]; decide) (by rw [c1]; decide) rfl ?_
    refine v_aload_n dX5_count_36 rfl ?_
    refine v_getr dX5_count_37 flX5_12 sh_0 rfl ?_
    refine v_geti dX5_count_40 flX5_68 sh_1 rfl ?_
    replace h := Option.some.inj h; subst h
    exact v_iret rfl dX5_count_43
  · replace h := (if_neg c1).symm.trans h
    by_cases c2 : x1 = (1 : Int32)
    · replace h := (if_pos c2).symm.trans h
      refine v_tabIn (off := 43) (tgt := 44) dX5_count_1 (by rw [c2]; decide) (by rw [c2]; decide) (by rw [c2]; decide) rfl ?_
      refine v_aload_n dX5_count_44 rfl ?_
      refine v_getr dX5_count_45 flX5_12 sh_0 rfl ?_
      refine v_geti dX5_count_48 flX5_120 sh_1 rfl ?_
      replace h := Option.some.inj h; subst h
      exact v_iret rfl dX5_count_51
    · replace h := (if_neg c2).symm.trans h
      by_cases c3 : x1 = (2 : Int32)
      · replace h := (if_pos c3).symm.trans h
        refine v_tabIn (off := 51) (tgt := 52) dX5_count_1 (by rw [c3]; decide) (by rw [c3]; decide) (by rw [c3]; decide) rfl ?_
        refine v_aload_n dX5_count_52 rfl ?_
        refine v_getr dX5_count_53 flX5_45 sh_0 rfl ?_
        refine v_geti dX5_count_56 flX5_235 sh_36 rfl ?_
        replace h := Option.some.inj h; subst h
        exact v_iret rfl dX5_count_59
      · replace h := (if_neg c3).symm.trans h
        by_cases c4 : x1 = (3 : Int32)
        · replace h := (if_pos c4).symm.trans h
          refine v_tabIn (off := 59) (tgt := 60) dX5_count_1 (by rw [c4]; decide) (by rw [c4]; decide) (by rw [c4]; decide) rfl ?_
          refine v_aload_n dX5_count_60 rfl ?_
          refine v_getr dX5_count_61 flX5_12 sh_0 rfl ?_
          obtain ⟨v5, e6, h⟩ := Option.bind_eq_some_iff.mp h
          refine v_callV (as := []) (st := []) (sX0_gluedSides e6) dX5_count_64 mlX5_296 (CRn (by decide) (by decide)) sh_1 rfl rfl rfl (Nat.le_of_ble_eq_true rfl) ?_
          replace h := Option.some.inj h; subst h
          exact v_iret rfl dX5_count_67
        · replace h := (if_neg c4).symm.trans h
          by_cases c7 : x1 = (4 : Int32)
          · replace h := (if_pos c7).symm.trans h
            refine v_tabIn (off := 67) (tgt := 68) dX5_count_1 (by rw [c7]; decide) (by rw [c7]; decide) (by rw [c7]; decide) rfl ?_
            refine v_aload_n dX5_count_68 rfl ?_
            refine v_getr dX5_count_69 flX5_12 sh_0 rfl ?_
            obtain ⟨v8, e9, h⟩ := Option.bind_eq_some_iff.mp h
            refine v_callV (as := []) (st := []) (sX0_milesOfAll e9) dX5_count_72 mlX5_166 (CRn (by decide) (by decide)) sh_1 rfl rfl rfl (Nat.le_of_ble_eq_true rfl) ?_
            replace h := Option.some.inj h; subst h
            exact v_iret rfl dX5_count_75
          · replace h := (if_neg c7).symm.trans h
            refine v_tabOut (tgt := 76) dX5_count_1 ?_ rfl ?_
            · have o0 := i32ne c1
              have o1 := i32ne c2
              have o2 := i32ne c3
              have o3 := i32ne c4
              have o4 := i32ne c7
              simp only [i32l_0, i32l_1, i32l_2, i32l_3, i32l_4] at o0 o1 o2 o3 o4
              omega
            · refine v_aload_n dX5_count_76 rfl ?_
              refine v_ldc (v := -1000000001) dX5_count_77 w_175 ?_
              obtain ⟨w10, e11, h⟩ := Option.bind_eq_some_iff.mp h
              refine v_callV (as := [.int (-1000000001 : Int32)]) (st := []) (sX5_tell e11) dX5_count_79 mlX5_64 (CRn (by decide) (by decide)) sh_0 rfl rfl rfl (Nat.le_of_ble_eq_true rfl) ?_
              replace h := Option.some.inj h; subst h
              exact v_iret rfl dX5_count_82
/-! ===== BentPlain.status(I)I ===== -/
def fX5_status_33 {ρ : Type} (kx : Int32 → Option ρ) (M : Mem) : Nat → Int32 → Int32 → Option ρ
  | 0, _, _ => none
  | n + 1, y2, y3 => (if (7 : Int32) ≤ y3 then (kx y2) else ((ldI M 48 7 y3).bind fun v7 => (fX5_status_33 kx M n (y2 + v7) (y3 + (1 : Int32)))))
def fX5_status (x1 : Int32) (M : Mem) : Option (Int32 × Mem) := (if x1 < (-1 : Int32) then ((fX5_tell (-1000000001 : Int32) M).bind fun w2 => some (w2.1, w2.2)) else (if x1 < (7 : Int32) then (if x1 < 0 then (fX5_status_33 (fun u9 => some (u9, M)) M FU (0 : Int32) (0 : Int32)) else ((ldI M 48 7 x1).bind fun v10 => some (v10, M))) else ((fX5_tell (-1000000001 : Int32) M).bind fun w12 => some (w12.1, w12.2))))
set_option maxRecDepth 100000 in
set_option maxHeartbeats 4000000 in
theorem tX5_status_33 {g : Wo} {ρ : Type} {kx : Int32 → Option ρ} {M : Mem} {r : ρ} {rr : Option Value} {Mr : Mem} (hk : ∀ (z2 : Int32), kx z2 = some r → V g kX5_status (jm g 1 rr Mr) 54 [none, none, some (.int z2), none] [] M) : ∀ (n : Nat) (y2 : Int32) (y3 : Int32), fX5_status_33 kx M n y2 y3 = some r → V g kX5_status (jm g 1 rr Mr) 33 [some (.ref 0), none, some (.int y2), some (.int y3)] [] M := by
  intro n
  induction n with
  | zero =>
    intro y2 y3 h
    rw [fX5_status_33] at h
    cases h
  | succ n ih =>
    intro y2 y3 h
    rw [fX5_status_33] at h
    refine v_iload_n dX5_status_33 rfl ?_
    refine v_bipush (v := 7) dX5_status_34 rfl ?_
    refine v_icmp_ge (tgt := 54) dX5_status_36 rfl (fun c6 => ?_) (fun c6 => ?_)
    · replace h := (if_pos c6).symm.trans h
      refine V.sub (ls' := [none, none, some (.int y2), none]) (And.intro rfl trivial) ?_
      exact hk _ h
    · replace h := (if_neg c6).symm.trans h
      refine v_iload_n dX5_status_39 rfl ?_
      refine v_aload_n dX5_status_40 rfl ?_
      refine v_getr dX5_status_41 flX5_55 sh_0 rfl ?_
      refine v_iload_n dX5_status_44 rfl ?_
      obtain ⟨v7, e8, h⟩ := Option.bind_eq_some_iff.mp h
      refine v_ild e8 dX5_status_45 sh_48 ?_
      refine v_iadd dX5_status_46 ?_
      refine v_istore_n (ls1 := [some (.ref 0), none, some (.int (y2 + v7)), some (.int y3)]) dX5_status_47 (Nat.le_of_ble_eq_true rfl) rfl ?_
      refine v_iinc (v := 1) (ls1 := [some (.ref 0), none, some (.int (y2 + v7)), some (.int (y3 + (1 : Int32)))]) dX5_status_48 rfl rfl (Nat.le_of_ble_eq_true rfl) rfl ?_
      refine v_goto (tgt := 33) dX5_status_51 rfl ?_
      refine V.sub (ls' := [some (.ref 0), none, some (.int (y2 + v7)), some (.int (y3 + (1 : Int32)))]) (And.intro rfl (And.intro rfl (And.intro rfl trivial))) ?_
      exact ih _ _ h
set_option maxRecDepth 100000 in
set_option maxHeartbeats 4000000 in
theorem sX5_status {g : Wo} {M : Mem} {x1 : Int32} {r : Int32 × Mem} (h : fX5_status x1 M = some r) : Sp g kX5_status 1 [.ref 0, .int x1] M (some (.int r.1)) r.2 := by
  rw [fX5_status] at h
  refine Sp_intro (by decide) [some (.ref 0), some (.int x1), none, none] rfl (Nat.le_of_ble_eq_true rfl) ?_
  refine v_iload_n dX5_status_0 rfl ?_
  refine v_iconst (v := -1) dX5_status_1 rfl ?_
  refine v_icmp_lt (tgt := 11) dX5_status_2 rfl (fun c1 => ?_) (fun c1 => ?_)
  · replace h := (if_pos c1).symm.trans h
    refine v_aload_n dX5_status_11 rfl ?_
    refine v_ldc (v := -1000000001) dX5_status_12 w_175 ?_
    obtain ⟨w2, e3, h⟩ := Option.bind_eq_some_iff.mp h
    refine v_callV (as := [.int (-1000000001 : Int32)]) (st := []) (sX5_tell e3) dX5_status_14 mlX5_64 (CRn (by decide) (by decide)) sh_0 rfl rfl rfl (Nat.le_of_ble_eq_true rfl) ?_
    replace h := Option.some.inj h; subst h
    exact v_iret rfl dX5_status_17
  · replace h := (if_neg c1).symm.trans h
    refine v_iload_n dX5_status_5 rfl ?_
    refine v_bipush (v := 7) dX5_status_6 rfl ?_
    refine v_icmp_lt (tgt := 18) dX5_status_8 rfl (fun c4 => ?_) (fun c4 => ?_)
    · replace h := (if_pos c4).symm.trans h
      refine v_iload_n dX5_status_18 rfl ?_
      refine v_if_lt (tgt := 29) dX5_status_19 rfl (fun c5 => ?_) (fun c5 => ?_)
      · replace h := (if_pos c5).symm.trans h
        refine v_iconst (v := 0) dX5_status_29 rfl ?_
        refine v_istore_n (ls1 := [some (.ref 0), some (.int x1), some (.int (0 : Int32)), none]) dX5_status_30 (Nat.le_of_ble_eq_true rfl) rfl ?_
        refine v_iconst (v := 0) dX5_status_31 rfl ?_
        refine v_istore_n (ls1 := [some (.ref 0), some (.int x1), some (.int (0 : Int32)), some (.int (0 : Int32))]) dX5_status_32 (Nat.le_of_ble_eq_true rfl) rfl ?_
        refine V.sub (ls' := [some (.ref 0), none, some (.int (0 : Int32)), some (.int (0 : Int32))]) (And.intro rfl (And.intro rfl (And.intro rfl trivial))) ?_
        refine tX5_status_33 (fun u9 h => ?_) FU _ _ h
        refine v_iload_n dX5_status_54 rfl ?_
        replace h := Option.some.inj h; subst h
        exact v_iret rfl dX5_status_55
      · replace h := (if_neg c5).symm.trans h
        refine v_aload_n dX5_status_22 rfl ?_
        refine v_getr dX5_status_23 flX5_55 sh_0 rfl ?_
        refine v_iload_n dX5_status_26 rfl ?_
        obtain ⟨v10, e11, h⟩ := Option.bind_eq_some_iff.mp h
        refine v_ild e11 dX5_status_27 sh_48 ?_
        replace h := Option.some.inj h; subst h
        exact v_iret rfl dX5_status_28
    · replace h := (if_neg c4).symm.trans h
      refine v_aload_n dX5_status_11 rfl ?_
      refine v_ldc (v := -1000000001) dX5_status_12 w_175 ?_
      obtain ⟨w12, e13, h⟩ := Option.bind_eq_some_iff.mp h
      refine v_callV (as := [.int (-1000000001 : Int32)]) (st := []) (sX5_tell e13) dX5_status_14 mlX5_64 (CRn (by decide) (by decide)) sh_0 rfl rfl rfl (Nat.le_of_ble_eq_true rfl) ?_
      replace h := Option.some.inj h; subst h
      exact v_iret rfl dX5_status_17
