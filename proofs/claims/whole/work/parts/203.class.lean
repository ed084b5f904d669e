/-! ===== BentPlain.steps(I)I ===== -/
def fX5_steps_20 {ρ : Type} (kx : Mem → Option ρ) (y1 : Int32) : Nat → Int32 → Mem → Option ρ
  | 0, _, _ => none
  | n + 1, y2, M => (if (M.1 1 1) ≤ y2 then (kx M) else ((ldW 1 y2).bind fun q6 => ((fX4_moveOften q6 y1 M).bind fun w8 => (fX5_steps_20 kx y1 n (y2 + (1 : Int32)) w8))))
def fX5_steps (x1 : Int32) (M : Mem) : Option (Int32 × Mem) := (if x1 < (1 : Int32) then ((fX5_tell (-1000000001 : Int32) M).bind fun w2 => some (w2.1, w2.2)) else (if x1 ≤ (100 : Int32) then (fX5_steps_20 (fun M10 => ((fX0_milesOfAll M10).bind fun v11 => some (v11, M10))) x1 FU (0 : Int32) M) else ((fX5_tell (-1000000001 : Int32) M).bind fun w13 => some (w13.1, w13.2))))
set_option maxRecDepth 100000 in
set_option maxHeartbeats 4000000 in
theorem tX5_steps_20 {g : Wo} {ρ : Type} {kx : Mem → Option ρ} {y1 : Int32} {r : ρ} {rr : Option Value} {Mr : Mem} (hk : ∀ (Mx : Mem), kx Mx = some r → V g kX5_steps (jm g 7 rr Mr) 54 [some (.ref 0), none, none] [] Mx) : ∀ (n : Nat) (y2 : Int32) (M : Mem), fX5_steps_20 kx y1 n y2 M = some r → V g kX5_steps (jm g 7 rr Mr) 20 [some (.ref 0), some (.int y1), some (.int y2)] [] M := by
  intro n
  induction n with
  | zero =>
    intro y2 M h
    rw [fX5_steps_20] at h
    cases h
  | succ n ih =>
    intro y2 M h
    rw [fX5_steps_20] at h
    refine v_iload_n dX5_steps_20 rfl ?_
    refine v_aload_n dX5_steps_21 rfl ?_
    refine v_getr dX5_steps_22 flX5_12 sh_0 rfl ?_
    refine v_geti dX5_steps_25 flX5_120 sh_1 rfl ?_
    refine v_icmp_ge (tgt := 54) dX5_steps_28 rfl (fun c5 => ?_) (fun c5 => ?_)
    · replace h := (if_pos c5).symm.trans h
      refine V.sub (ls' := [some (.ref 0), none, none]) (And.intro rfl trivial) ?_
      exact hk _ h
    · replace h := (if_neg c5).symm.trans h
      refine v_aload_n dX5_steps_31 rfl ?_
      refine v_getr dX5_steps_32 flX5_12 sh_0 rfl ?_
      refine v_getr dX5_steps_35 flX5_129 sh_1 rfl ?_
      refine v_iload_n dX5_steps_38 rfl ?_
      obtain ⟨q6, e7, h⟩ := Option.bind_eq_some_iff.mp h
      refine v_wld (r := 1) e7 dX5_steps_39 isG_1 ?_
      refine v_aload_n dX5_steps_40 rfl ?_
      refine v_getr dX5_steps_41 flX5_12 sh_0 rfl ?_
      refine v_iload_n dX5_steps_44 rfl ?_
      obtain ⟨w8, e9, h⟩ := Option.bind_eq_some_iff.mp h
      refine v_callV (as := [.ref 1, .int y1]) (st := []) (sX4_moveOften (ldW_is isG_1 e7) e9) dX5_steps_45 mlX5_162 (CRn (by decide) (by decide)) (ldW_is isG_1 e7) rfl rfl rfl (Nat.le_of_ble_eq_true rfl) ?_
      refine v_iinc (v := 1) (ls1 := [some (.ref 0), some (.int y1), some (.int (y2 + (1 : Int32)))]) dX5_steps_48 rfl rfl (Nat.le_of_ble_eq_true rfl) rfl ?_
      refine v_goto (tgt := 20) dX5_steps_51 rfl ?_
      refine V.sub (ls' := [some (.ref 0), some (.int y1), some (.int (y2 + (1 : Int32)))]) (And.intro rfl (And.intro rfl (And.intro rfl trivial))) ?_
      exact ih _ _ h
set_option maxRecDepth 100000 in
set_option maxHeartbeats 4000000 in
theorem sX5_steps {g : Wo} {M : Mem} {x1 : Int32} {r : Int32 × Mem} (h : fX5_steps x1 M = some r) : Sp g kX5_steps 7 [.ref 0, .int x1] M (some (.int r.1)) r.2 := by
  rw [fX5_steps] at h
  refine Sp_intro (by decide) [some (.ref 0), some (.int x1), none] rfl (Nat.le_of_ble_eq_true rfl) ?_
  refine v_iload_n dX5_steps_0 rfl ?_
  refine v_iconst (v := 1) dX5_steps_1 rfl ?_
  refine v_icmp_lt (tgt := 11) dX5_steps_2 rfl (fun c1 => ?_) (fun c1 => ?_)
  · replace h := (if_pos c1).symm.trans h
    refine v_aload_n dX5_steps_11 rfl ?_
    refine v_ldc (v := -1000000001) dX5_steps_12 w_175 ?_
    obtain ⟨w2, e3, h⟩ := Option.bind_eq_some_iff.mp h
    refine v_callV (as := [.int (-1000000001 : Int32)]) (st := []) (sX5_tell e3) dX5_steps_14 mlX5_64 (CRn (by decide) (by decide)) sh_0 rfl rfl rfl (Nat.le_of_ble_eq_true rfl) ?_
    replace h := Option.some.inj h; subst h
    exact v_iret rfl dX5_steps_17
  · replace h := (if_neg c1).symm.trans h
    refine v_iload_n dX5_steps_5 rfl ?_
    refine v_bipush (v := 100) dX5_steps_6 rfl ?_
    refine v_icmp_le (tgt := 18) dX5_steps_8 rfl (fun c4 => ?_) (fun c4 => ?_)
    · replace h := (if_pos c4).symm.trans h
      refine v_iconst (v := 0) dX5_steps_18 rfl ?_
      refine v_istore_n (ls1 := [some (.ref 0), some (.int x1), some (.int (0 : Int32))]) dX5_steps_19 (Nat.le_of_ble_eq_true rfl) rfl ?_
      refine V.sub (ls' := [some (.ref 0), some (.int x1), some (.int (0 : Int32))]) (And.intro rfl (And.intro rfl (And.intro rfl trivial))) ?_
      refine tX5_steps_20 (fun M10 h => ?_) FU _ _ h
      refine v_aload_n dX5_steps_54 rfl ?_
      refine v_getr dX5_steps_55 flX5_12 sh_0 rfl ?_
      obtain ⟨v11, e12, h⟩ := Option.bind_eq_some_iff.mp h
      refine v_callV (as := []) (st := []) (sX0_milesOfAll e12) dX5_steps_58 mlX5_166 (CRn (by decide) (by decide)) sh_1 rfl rfl rfl (Nat.le_of_ble_eq_true rfl) ?_
      replace h := Option.some.inj h; subst h
      exact v_iret rfl dX5_steps_61
    · replace h := (if_neg c4).symm.trans h
      refine v_aload_n dX5_steps_11 rfl ?_
      refine v_ldc (v := -1000000001) dX5_steps_12 w_175 ?_
      obtain ⟨w13, e14, h⟩ := Option.bind_eq_some_iff.mp h
      refine v_callV (as := [.int (-1000000001 : Int32)]) (st := []) (sX5_tell e14) dX5_steps_14 mlX5_64 (CRn (by decide) (by decide)) sh_0 rfl rfl rfl (Nat.le_of_ble_eq_true rfl) ?_
      replace h := Option.some.inj h; subst h
      exact v_iret rfl dX5_steps_17
/-! ===== BentPlain.isStepsOn(I)Z ===== -/
def fX5_isStepsOn (x0 : Int32) : Int32 := (if x0 < 0 then (0 : Int32) else (if (100 : Int32) < x0 then (0 : Int32) else (1 : Int32)))
set_option maxRecDepth 100000 in
set_option maxHeartbeats 4000000 in
theorem sX5_isStepsOn {g : Wo} {M : Mem} {x0 : Int32} {r : Int32} (h : fX5_isStepsOn x0 = r) : Sp g kX5_isStepsOn 0 [.int x0] M (some (.int r)) M := by
  rw [fX5_isStepsOn] at h
  refine Sp_intro (by decide) [some (.int x0)] rfl (Nat.le_of_ble_eq_true rfl) ?_
  refine v_iload_n dX5_isStepsOn_0 rfl ?_
  refine v_if_lt (tgt := 14) dX5_isStepsOn_1 rfl (fun c1 => ?_) (fun c1 => ?_)
  · replace h := (if_pos c1).symm.trans h
    refine v_iconst (v := 0) dX5_isStepsOn_14 rfl ?_
    subst h
    exact v_zret rfl (z_nar z_0) dX5_isStepsOn_15
  · replace h := (if_neg c1).symm.trans h
    refine v_iload_n dX5_isStepsOn_4 rfl ?_
    refine v_bipush (v := 100) dX5_isStepsOn_5 rfl ?_
    refine v_icmp_gt (tgt := 14) dX5_isStepsOn_7 rfl (fun c2 => ?_) (fun c2 => ?_)
    · replace h := (if_pos c2).symm.trans h
      refine v_iconst (v := 0) dX5_isStepsOn_14 rfl ?_
      subst h
      exact v_zret rfl (z_nar z_0) dX5_isStepsOn_15
    · replace h := (if_neg c2).symm.trans h
      refine v_iconst (v := 1) dX5_isStepsOn_10 rfl ?_
      refine v_goto (tgt := 15) dX5_isStepsOn_11 rfl ?_
      subst h
      exact v_zret rfl (z_nar z_1) dX5_isStepsOn_15
/-! ===== BentPlain$Walker.become(LBentPlain$Walker;)V ===== -/
def fX4_become (x0 : Nat) (x1 : Nat) (M : Mem) : Option Mem := some (setI (setI (setI (setI M x0 0 (M.1 x1 0)) x0 1 ((setI M x0 0 (M.1 x1 0)).1 x1 1)) x0 2 ((setI (setI M x0 0 (M.1 x1 0)) x0 1 ((setI M x0 0 (M.1 x1 0)).1 x1 1)).1 x1 2)) x0 3 ((setI (setI (setI M x0 0 (M.1 x1 0)) x0 1 ((setI M x0 0 (M.1 x1 0)).1 x1 1)) x0 2 ((setI (setI M x0 0 (M.1 x1 0)) x0 1 ((setI M x0 0 (M.1 x1 0)).1 x1 1)).1 x1 2)).1 x1 3))
set_option maxRecDepth 100000 in
set_option maxHeartbeats 4000000 in
theorem sX4_become {g : Wo} {M : Mem} {x0 : Nat} {x1 : Nat} {r : Mem} (hx0 : isW x0) (hx1 : isW x1) (h : fX4_become x0 x1 M = some r) : Sp g kX4_become 0 [.ref x0, .ref x1] M none r := by
  rw [fX4_become] at h
  refine Sp_intro (by decide) [some (.ref x0), some (.ref x1)] rfl (Nat.le_of_ble_eq_true rfl) ?_
  refine v_aload_n dX4_become_0 rfl ?_
  refine v_aload_n dX4_become_1 rfl ?_
  refine v_geti dX4_become_2 flX4_9 hx1 rfl ?_
  refine v_puti dX4_become_5 fpX4_9 hx0 rfl ?_
  refine v_aload_n dX4_become_8 rfl ?_
  refine v_aload_n dX4_become_9 rfl ?_
  refine v_geti dX4_become_10 flX4_15 hx1 rfl ?_
  refine v_puti dX4_become_13 fpX4_15 hx0 rfl ?_
  refine v_aload_n dX4_become_16 rfl ?_
  refine v_aload_n dX4_become_17 rfl ?_
  refine v_geti dX4_become_18 flX4_18 hx1 rfl ?_
  refine v_puti dX4_become_21 fpX4_18 hx0 rfl ?_
  refine v_aload_n dX4_become_24 rfl ?_
  refine v_aload_n dX4_become_25 rfl ?_
  refine v_geti dX4_become_26 flX4_21 hx1 rfl ?_
  refine v_puti dX4_become_29 fpX4_21 hx0 rfl ?_
  replace h := Option.some.inj h; subst h
  exact v_vret rfl dX4_become_32
/-! ===== BentPlain.on(III)I ===== -/
def fX5_on (x1 : Int32) (x2 : Int32) (x3 : Int32) (M : Mem) : Option (Int32 × Mem) := (if (fX0_hasWalker x1 M) = 0 then ((fX5_tell (-1000000001 : Int32) M).bind fun w2 => some (w2.1, w2.2)) else (if (fX5_isStepsOn x2) = 0 then ((fX5_tell (-1000000001 : Int32) M).bind fun w17 => some (w17.1, w17.2)) else ((ldW 1 x1).bind fun q5 => ((fX4_become 31 q5 M).bind fun w7 => ((fX4_moveOften 31 x2 w7).bind fun w9 => (if x3 = (0 : Int32) then some ((fX5_fieldOf (w9.1 31 1)), w9) else (if x3 = (1 : Int32) then some ((fX5_headingOf (w9.1 31 1)), w9) else (if x3 = (2 : Int32) then some ((w9.1 31 2), w9) else (if x3 = (3 : Int32) then some ((w9.1 31 3), w9) else ((fX5_tell (-1000000001 : Int32) w9).bind fun w15 => some (w15.1, w15.2)))))))))))
set_option maxRecDepth 100000 in
set_option maxHeartbeats 4000000 in
theorem sX5_on {g : Wo} {M : Mem} {x1 : Int32} {x2 : Int32} {x3 : Int32} {r : Int32 × Mem} (h : fX5_on x1 x2 x3 M = some r) : Sp g kX5_on 7 [.ref 0, .int x1, .int x2, .int x3] M (some (.int r.1)) r.2 := by
  rw [fX5_on] at h
  refine Sp_intro (by decide) [some (.ref 0), some (.int x1), some (.int x2), some (.int x3)] rfl (Nat.le_of_ble_eq_true rfl) ?_
  refine v_aload_n dX5_on_0 rfl ?_
  refine v_getr dX5_on_1 flX5_12 sh_0 rfl ?_
  refine v_iload_n dX5_on_4 rfl ?_
  refine v_callV (as := [.int x1]) (st := []) (sX0_hasWalker rfl) dX5_on_5 mlX5_126 (CRn (by decide) (by decide)) sh_1 rfl rfl rfl (Nat.le_of_ble_eq_true rfl) ?_
  refine v_if_eq (tgt := 18) dX5_on_8 rfl (fun c1 => ?_) (fun c1 => ?_)
  · replace h := (if_pos c1).symm.trans h
    refine v_aload_n dX5_on_18 rfl ?_
    refine v_ldc (v := -1000000001) dX5_on_19 w_175 ?_
    obtain ⟨w2, e3, h⟩ := Option.bind_eq_some_iff.mp h
    refine v_callV (as := [.int (-1000000001 : Int32)]) (st := []) (sX5_tell e3) dX5_on_21 mlX5_64 (CRn (by decide) (by decide)) sh_0 rfl rfl rfl (Nat.le_of_ble_eq_true rfl) ?_
    replace h := Option.some.inj h; subst h
    exact v_iret rfl dX5_on_24
  · replace h := (if_neg c1).symm.trans h
    refine v_iload_n dX5_on_11 rfl ?_
    refine v_callS (as := [.int x2]) (st := []) (sX5_isStepsOn rfl) dX5_on_12 mlX5_170 (CRn (by decide) (by decide)) rfl rfl (Nat.le_of_ble_eq_true rfl) ?_
    refine v_if_ne (tgt := 25) dX5_on_15 rfl (fun c4 => ?_) (fun c4 => ?_)
    · replace h := (if_neg c4).symm.trans h
      refine v_aload_n dX5_on_25 rfl ?_
      refine v_getr dX5_on_26 flX5_25 sh_0 rfl ?_
      refine v_aload_n dX5_on_29 rfl ?_
      refine v_getr dX5_on_30 flX5_12 sh_0 rfl ?_
      refine v_getr dX5_on_33 flX5_129 sh_1 rfl ?_
      refine v_iload_n dX5_on_36 rfl ?_
      obtain ⟨q5, e6, h⟩ := Option.bind_eq_some_iff.mp h
      refine v_wld (r := 1) e6 dX5_on_37 isG_1 ?_
      obtain ⟨w7, e8, h⟩ := Option.bind_eq_some_iff.mp h
      refine v_callV (as := [.ref q5]) (st := []) (sX4_become isW_31 (ldW_is isG_1 e6) e8) dX5_on_38 mlX5_173 (CRn (by decide) (by decide)) sh_31 rfl rfl rfl (Nat.le_of_ble_eq_true rfl) ?_
      refine v_aload_n dX5_on_41 rfl ?_
      refine v_getr dX5_on_42 flX5_25 sh_0 rfl ?_
      refine v_aload_n dX5_on_45 rfl ?_
      refine v_getr dX5_on_46 flX5_12 sh_0 rfl ?_
      refine v_iload_n dX5_on_49 rfl ?_
      obtain ⟨w9, e10, h⟩ := Option.bind_eq_some_iff.mp h
      refine v_callV (as := [.ref 1, .int x2]) (st := []) (sX4_moveOften isW_31 e10) dX5_on_50 mlX5_162 (CRn (by decide) (by decide)) sh_31 rfl rfl rfl (Nat.le_of_ble_eq_true rfl) ?_
      refine v_iload_n dX5_on_53 rfl ?_
      by_cases c11 : x3 = (0 : Int32)
      · replace h := (if_pos c11).symm.trans h
        refine v_tabIn (off := 30) (tgt := 84) dX5_on_54 (by rw [c11]; decide) (by rw [c11]; decide) (by rw [c11]; decide) rfl ?_
        refine v_aload_n dX5_on_84 rfl ?_
        refine v_getr dX5_on_85 flX5_25 sh_0 rfl ?_
        refine v_geti dX5_on_88 flX5_136 sh_31 rfl ?_
        refine v_callS (as := [.int (w9.1 31 1)]) (st := []) (sX5_fieldOf rfl) dX5_on_91 mlX5_139 (CRn (by decide) (by decide)) rfl rfl (Nat.le_of_ble_eq_true rfl) ?_
        replace h := Option.some.inj h; subst h
        exact v_iret rfl dX5_on_94
      · replace h := (if_neg c11).symm.trans h
        by_cases c12 : x3 = (1 : Int32)
        · replace h := (if_pos c12).symm.trans h
          refine v_tabIn (off := 41) (tgt := 95) dX5_on_54 (by rw [c12]; decide) (by rw [c12]; decide) (by rw [c12]; decide) rfl ?_
          refine v_aload_n dX5_on_95 rfl ?_
          refine v_getr dX5_on_96 flX5_25 sh_0 rfl ?_
          refine v_geti dX5_on_99 flX5_136 sh_31 rfl ?_
          refine v_callS (as := [.int (w9.1 31 1)]) (st := []) (sX5_headingOf rfl) dX5_on_102 mlX5_142 (CRn (by decide) (by decide)) rfl rfl (Nat.le_of_ble_eq_true rfl) ?_
          replace h := Option.some.inj h; subst h
          exact v_iret rfl dX5_on_105
        · replace h := (if_neg c12).symm.trans h
          by_cases c13 : x3 = (2 : Int32)
          · replace h := (if_pos c13).symm.trans h
            refine v_tabIn (off := 52) (tgt := 106) dX5_on_54 (by rw [c13]; decide) (by rw [c13]; decide) (by rw [c13]; decide) rfl ?_
            refine v_aload_n dX5_on_106 rfl ?_
            refine v_getr dX5_on_107 flX5_25 sh_0 rfl ?_
            refine v_geti dX5_on_110 flX5_145 sh_31 rfl ?_
            replace h := Option.some.inj h; subst h
            exact v_iret rfl dX5_on_113
          · replace h := (if_neg c13).symm.trans h
            by_cases c14 : x3 = (3 : Int32)
            · replace h := (if_pos c14).symm.trans h
              refine v_tabIn (off := 60) (tgt := 114) dX5_on_54 (by rw [c14]; decide) (by rw [c14]; decide) (by rw [c14]; decide) rfl ?_
              refine v_aload_n dX5_on_114 rfl ?_
              refine v_getr dX5_on_115 flX5_25 sh_0 rfl ?_
              refine v_geti dX5_on_118 flX5_148 sh_31 rfl ?_
              replace h := Option.some.inj h; subst h
              exact v_iret rfl dX5_on_121
            · replace h := (if_neg c14).symm.trans h
              refine v_tabOut (tgt := 122) dX5_on_54 ?_ rfl ?_
              · have o0 := i32ne c11
                have o1 := i32ne c12
                have o2 := i32ne c13
                have o3 := i32ne c14
                simp only [i32l_0, i32l_1, i32l_2, i32l_3] at o0 o1 o2 o3
                omega
              · refine v_aload_n dX5_on_122 rfl ?_
                refine v_ldc (v := -1000000001) dX5_on_123 w_175 ?_
                obtain ⟨w15, e16, h⟩ := Option.bind_eq_some_iff.mp h
                refine v_callV (as := [.int (-1000000001 : Int32)]) (st := []) (sX5_tell e16) dX5_on_125 mlX5_64 (CRn (by decide) (by decide)) sh_0 rfl rfl rfl (Nat.le_of_ble_eq_true rfl) ?_
                replace h := Option.some.inj h; subst h
                exact v_iret rfl dX5_on_128
    · replace h := (if_pos c4).symm.trans h
      refine v_aload_n dX5_on_18 rfl ?_
      refine v_ldc (v := -1000000001) dX5_on_19 w_175 ?_
      obtain ⟨w17, e18, h⟩ := Option.bind_eq_some_iff.mp h
      refine v_callV (as := [.int (-1000000001 : Int32)]) (st := []) (sX5_tell e18) dX5_on_21 mlX5_64 (CRn (by decide) (by decide)) sh_0 rfl rfl rfl (Nat.le_of_ble_eq_true rfl) ?_
      replace h := Option.some.inj h; subst h
      exact v_iret rfl dX5_on_24
/-! ===== BentPlain.when(II)I ===== -/
def fX5_when_47 (kx : Mem → Option (Int32 × Mem)) (y2 : Int32) : Nat → Int32 → Mem → Option (Int32 × Mem)
  | 0, _, _ => none
  | n + 1, y3, M => (if (100 : Int32) < y3 then (kx M) else (if (fX5_fieldOf (M.1 31 1)) = y2 then some (y3, M) else ((fX4_move 31 M).bind fun w11 => (fX5_when_47 kx y2 n (y3 + (1 : Int32)) w11))))
def fX5_when (x1 : Int32) (x2 : Int32) (M : Mem) : Option (Int32 × Mem) := (if (fX0_hasWalker x1 M) = 0 then ((fX5_tell (-1000000001 : Int32) M).bind fun w2 => some (w2.1, w2.2)) else (if (fX0_hasField x2 M) = 0 then ((fX5_tell (-1000000001 : Int32) M).bind fun w16 => some (w16.1, w16.2)) else ((ldW 1 x1).bind fun q5 => ((fX4_become 31 q5 M).bind fun w7 => (fX5_when_47 (fun M13 => ((fX5_tell (-1000000004 : Int32) M13).bind fun w14 => some (w14.1, w14.2))) x2 FU (0 : Int32) w7)))))
set_option maxRecDepth 100000 in
set_option maxHeartbeats 4000000 in
theorem tX5_when_47 {g : Wo} {kx : Mem → Option (Int32 × Mem)} {y2 : Int32} {r : Int32 × Mem} (hk : ∀ (Mx : Mem), kx Mx = some r → V g kX5_when (jm g 6 (some (.int r.1)) r.2) 86 [some (.ref 0), none, none, none] [] Mx) : ∀ (n : Nat) (y3 : Int32) (M : Mem), fX5_when_47 kx y2 n y3 M = some r → V g kX5_when (jm g 6 (some (.int r.1)) r.2) 47 [some (.ref 0), none, some (.int y2), some (.int y3)] [] M := by
  intro n
  induction n with
  | zero =>
    intro y3 M h
    rw [fX5_when_47] at h
    cases h
  | succ n ih =>
    intro y3 M h
    rw [fX5_when_47] at h
    refine v_iload_n dX5_when_47 rfl ?_
    refine v_bipush (v := 100) dX5_when_48 rfl ?_
    refine v_icmp_gt (tgt := 86) dX5_when_50 rfl (fun c9 => ?_) (fun c9 => ?_)
    · replace h := (if_pos c9).symm.trans h
      refine V.sub (ls' := [some (.ref 0), none, none, none]) (And.intro rfl trivial) ?_
      exact hk _ h
    · replace h := (if_neg c9).symm.trans h
      refine v_aload_n dX5_when_53 rfl ?_
      refine v_getr dX5_when_54 flX5_25 sh_0 rfl ?_
      refine v_geti dX5_when_57 flX5_136 sh_31 rfl ?_
      refine v_callS (as := [.int (M.1 31 1)]) (st := []) (sX5_fieldOf rfl) dX5_when_60 mlX5_139 (CRn (by decide) (by decide)) rfl rfl (Nat.le_of_ble_eq_true rfl) ?_
      refine v_iload_n dX5_when_63 rfl ?_
      refine v_icmp_ne (tgt := 69) dX5_when_64 rfl (fun c10 => ?_) (fun c10 => ?_)
      · replace h := (if_neg c10).symm.trans h
        refine v_aload_n dX5_when_69 rfl ?_
        refine v_getr dX5_when_70 flX5_25 sh_0 rfl ?_
        refine v_aload_n dX5_when_73 rfl ?_
        refine v_getr dX5_when_74 flX5_12 sh_0 rfl ?_
        obtain ⟨w11, e12, h⟩ := Option.bind_eq_some_iff.mp h
        refine v_callV (as := [.ref 1]) (st := []) (sX4_move isW_31 e12) dX5_when_77 mlX5_158 (CRn (by decide) (by decide)) sh_31 rfl rfl rfl (Nat.le_of_ble_eq_true rfl) ?_
        refine v_iinc (v := 1) (ls1 := [some (.ref 0), none, some (.int y2), some (.int (y3 + (1 : Int32)))]) dX5_when_80 rfl rfl (Nat.le_of_ble_eq_true rfl) rfl ?_
        refine v_goto (tgt := 47) dX5_when_83 rfl ?_
        refine V.sub (ls' := [some (.ref 0), none, some (.int y2), some (.int (y3 + (1 : Int32)))]) (And.intro rfl (And.intro rfl (And.intro rfl trivial))) ?_
        exact ih _ _ h
      · replace h := (if_pos c10).symm.trans h
        refine v_iload_n dX5_when_67 rfl ?_
        replace h := Option.some.inj h; subst h
        exact v_iret rfl dX5_when_68
set_option maxRecDepth 100000 in
set_option maxHeartbeats 4000000 in
theorem sX5_when {g : Wo} {M : Mem} {x1 : Int32} {x2 : Int32} {r : Int32 × Mem} (h : fX5_when x1 x2 M = some r) : Sp g kX5_when 6 [.ref 0, .int x1, .int x2] M (some (.int r.1)) r.2 := by
  rw [fX5_when] at h
  refine Sp_intro (by decide) [some (.ref 0), some (.int x1), some (.int x2), none] rfl (Nat.le_of_ble_eq_true rfl) ?_
  refine v_aload_n dX5_when_0 rfl ?_
  refine v_getr dX5_when_1 flX5_12 sh_0 rfl ?_
  refine v_iload_n dX5_when_4 rfl ?_
  refine v_callV (as := [.int x1]) (st := []) (sX0_hasWalker rfl) dX5_when_5 mlX5_126 (CRn (by decide) (by decide)) sh_1 rfl rfl rfl (Nat.le_of_ble_eq_true rfl) ?_
  refine v_if_eq (tgt := 22) dX5_when_8 rfl (fun c1 => ?_) (fun c1 => ?_)
  · replace h := (if_pos c1).symm.trans h
    refine v_aload_n dX5_when_22 rfl ?_
    refine v_ldc (v := -1000000001) dX5_when_23 w_175 ?_
    obtain ⟨w2, e3, h⟩ := Option.bind_eq_some_iff.mp h
    refine v_callV (as := [.int (-1000000001 : Int32)]) (st := []) (sX5_tell e3) dX5_when_25 mlX5_64 (CRn (by decide) (by decide)) sh_0 rfl rfl rfl (Nat.le_of_ble_eq_true rfl) ?_
    replace h := Option.some.inj h; subst h
    exact v_iret rfl dX5_when_28
  · replace h := (if_neg c1).symm.trans h
    refine v_aload_n dX5_when_11 rfl ?_
    refine v_getr dX5_when_12 flX5_12 sh_0 rfl ?_
    refine v_iload_n dX5_when_15 rfl ?_
    refine v_callV (as := [.int x2]) (st := []) (sX0_hasField rfl) dX5_when_16 mlX5_76 (CRn (by decide) (by decide)) sh_1 rfl rfl rfl (Nat.le_of_ble_eq_true rfl) ?_
    refine v_if_ne (tgt := 29) dX5_when_19 rfl (fun c4 => ?_) (fun c4 => ?_)
    · replace h := (if_neg c4).symm.trans h
      refine v_aload_n dX5_when_29 rfl ?_
      refine v_getr dX5_when_30 flX5_25 sh_0 rfl ?_
      refine v_aload_n dX5_when_33 rfl ?_
      refine v_getr dX5_when_34 flX5_12 sh_0 rfl ?_
      refine v_getr dX5_when_37 flX5_129 sh_1 rfl ?_
      refine v_iload_n dX5_when_40 rfl ?_
      obtain ⟨q5, e6, h⟩ := Option.bind_eq_some_iff.mp h
      refine v_wld (r := 1) e6 dX5_when_41 isG_1 ?_
      obtain ⟨w7, e8, h⟩ := Option.bind_eq_some_iff.mp h
      refine v_callV (as := [.ref q5]) (st := []) (sX4_become isW_31 (ldW_is isG_1 e6) e8) dX5_when_42 mlX5_173 (CRn (by decide) (by decide)) sh_31 rfl rfl rfl (Nat.le_of_ble_eq_true rfl) ?_
      refine v_iconst (v := 0) dX5_when_45 rfl ?_
      refine v_istore_n (ls1 := [some (.ref 0), some (.int x1), some (.int x2), some (.int (0 : Int32))]) dX5_when_46 (Nat.le_of_ble_eq_true rfl) rfl ?_
      refine V.sub (ls' := [some (.ref 0), none, some (.int x2), some (.int (0 : Int32))]) (And.intro rfl (And.intro rfl (And.intro rfl trivial))) ?_
      refine tX5_when_47 (fun M13 h => ?_) FU _ _ h
      refine v_aload_n dX5_when_86 rfl ?_
      refine v_ldc (v := -1000000004) dX5_when_87 w_264 ?_
      obtain ⟨w14, e15, h⟩ := Option.bind_eq_some_iff.mp h
      refine v_callV (as := [.int (-1000000004 : Int32)]) (st := []) (sX5_tell e15) dX5_when_89 mlX5_64 (CRn (by decide) (by decide)) sh_0 rfl rfl rfl (Nat.le_of_ble_eq_true rfl) ?_
      replace h := Option.some.inj h; subst h
      exact v_iret rfl dX5_when_92
    · replace h := (if_pos c4).symm.trans h
      refine v_aload_n dX5_when_22 rfl ?_
      refine v_ldc (v := -1000000001) dX5_when_23 w_175 ?_
      obtain ⟨w16, e17, h⟩ := Option.bind_eq_some_iff.mp h
      refine v_callV (as := [.int (-1000000001 : Int32)]) (st := []) (sX5_tell e17) dX5_when_25 mlX5_64 (CRn (by decide) (by decide)) sh_0 rfl rfl rfl (Nat.le_of_ble_eq_true rfl) ?_
      replace h := Option.some.inj h; subst h
      exact v_iret rfl dX5_when_28
/-! ===== BentPlain.back(I)I ===== -/
def fX5_back_44 (kx : Mem → Option (Int32 × Mem)) (y2 : Int32) : Nat → Int32 → Mem → Option (Int32 × Mem)
  | 0, _, _ => none
  | n + 1, y3, M => (if (200 : Int32) < y3 then (kx M) else ((fX4_move 31 M).bind fun w7 => (if (w7.1 31 1) = y2 then some (y3, w7) else (fX5_back_44 kx y2 n (y3 + (1 : Int32)) w7))))
def fX5_back (x1 : Int32) (M : Mem) : Option (Int32 × Mem) := (if (fX0_hasWalker x1 M) = 0 then ((fX5_tell (-1000000001 : Int32) M).bind fun w13 => some (w13.1, w13.2)) else ((ldW 1 x1).bind fun q2 => ((fX4_become 31 q2 M).bind fun w4 => (fX5_back_44 (fun M10 => ((fX5_tell (-1000000004 : Int32) M10).bind fun w11 => some (w11.1, w11.2))) (w4.1 31 1) FU (1 : Int32) w4))))
set_option maxRecDepth 100000 in
set_option maxHeartbeats 4000000 in
theorem tX5_back_44 {g : Wo} {kx : Mem → Option (Int32 × Mem)} {y2 : Int32} {r : Int32 × Mem} (hk : ∀ (Mx : Mem), kx Mx = some r → V g kX5_back (jm g 6 (some (.int r.1)) r.2) 81 [some (.ref 0), none, none, none] [] Mx) : ∀ (n : Nat) (y3 : Int32) (M : Mem), fX5_back_44 kx y2 n y3 M = some r → V g kX5_back (jm g 6 (some (.int r.1)) r.2) 44 [some (.ref 0), none, some (.int y2), some (.int y3)] [] M := by
  intro n
  induction n with
  | zero =>
    intro y3 M h
    rw [fX5_back_44] at h
    cases h
  | succ n ih =>
    intro y3 M h
    rw [fX5_back_44] at h
    refine v_iload_n dX5_back_44 rfl ?_
    refine v_sipush (v := 200) dX5_back_45 rfl ?_
    refine v_icmp_gt (tgt := 81) dX5_back_48 rfl (fun c6 => ?_) (fun c6 => ?_)
    · replace h := (if_pos c6).symm.trans h
      refine V.sub (ls' := [some (.ref 0), none, none, none]) (And.intro rfl trivial) ?_
      exact hk _ h
    · replace h := (if_neg c6).symm.trans h
      refine v_aload_n dX5_back_51 rfl ?_
      refine v_getr dX5_back_52 flX5_25 sh_0 rfl ?_
      refine v_aload_n dX5_back_55 rfl ?_
      refine v_getr dX5_back_56 flX5_12 sh_0 rfl ?_
      obtain ⟨w7, e8, h⟩ := Option.bind_eq_some_iff.mp h
      refine v_callV (as := [.ref 1]) (st := []) (sX4_move isW_31 e8) dX5_back_59 mlX5_158 (CRn (by decide) (by decide)) sh_31 rfl rfl rfl (Nat.le_of_ble_eq_true rfl) ?_
      refine v_aload_n dX5_back_62 rfl ?_
      refine v_getr dX5_back_63 flX5_25 sh_0 rfl ?_
      refine v_geti dX5_back_66 flX5_136 sh_31 rfl ?_
      refine v_iload_n dX5_back_69 rfl ?_
      refine v_icmp_ne (tgt := 75) dX5_back_70 rfl (fun c9 => ?_) (fun c9 => ?_)
      · replace h := (if_neg c9).symm.trans h
        refine v_iinc (v := 1) (ls1 := [some (.ref 0), none, some (.int y2), some (.int (y3 + (1 : Int32)))]) dX5_back_75 rfl rfl (Nat.le_of_ble_eq_true rfl) rfl ?_
        refine v_goto (tgt := 44) dX5_back_78 rfl ?_
        refine V.sub (ls' := [some (.ref 0), none, some (.int y2), some (.int (y3 + (1 : Int32)))]) (And.intro rfl (And.intro rfl (And.intro rfl trivial))) ?_
        exact ih _ _ h
      · replace h := (if_pos c9).symm.trans h
        refine v_iload_n dX5_back_73 rfl ?_
        replace h := Option.some.inj h; subst h
        exact v_iret rfl dX5_back_74
set_option maxRecDepth 100000 in
set_option maxHeartbeats 4000000 in
theorem sX5_back {g : Wo} {M : Mem} {x1 : Int32} {r : Int32 × Mem} (h : fX5_back x1 M = some r) : Sp g kX5_back 6 [.ref 0, .int x1] M (some (.int r.1)) r.2 := by
  rw [fX5_back] at h
  refine Sp_intro (by decide) [some (.ref 0), some (.int x1), none, none] rfl (Nat.le_of_ble_eq_true rfl) ?_
  refine v_aload_n dX5_back_0 rfl ?_
  refine v_getr dX5_back_1 flX5_12 sh_0 rfl ?_
  refine v_iload_n dX5_back_4 rfl ?_
  refine v_callV (as := [.int x1]) (st := []) (sX0_hasWalker rfl) dX5_back_5 mlX5_126 (CRn (by decide) (by decide)) sh_1 rfl rfl rfl (Nat.le_of_ble_eq_true rfl) ?_
  refine v_if_ne (tgt := 18) dX5_back_8 rfl (fun c1 => ?_) (fun c1 => ?_)
  · replace h := (if_neg c1).symm.trans h
    refine v_aload_n dX5_back_18 rfl ?_
    refine v_getr dX5_back_19 flX5_25 sh_0 rfl ?_
    refine v_aload_n dX5_back_22 rfl ?_
    refine v_getr dX5_back_23 flX5_12 sh_0 rfl ?_
    refine v_getr dX5_back_26 flX5_129 sh_1 rfl ?_
    refine v_iload_n dX5_back_29 rfl ?_
    obtain ⟨q2, e3, h⟩ := Option.bind_eq_some_iff.mp h
    refine v_wld (r := 1) e3 dX5_back_30 isG_1 ?_
    obtain ⟨w4, e5, h⟩ := Option.bind_eq_some_iff.mp h
    refine v_callV (as := [.ref q2]) (st := []) (sX4_become isW_31 (ldW_is isG_1 e3) e5) dX5_back_31 mlX5_173 (CRn (by decide) (by decide)) sh_31 rfl rfl rfl (Nat.le_of_ble_eq_true rfl) ?_
    refine v_aload_n dX5_back_34 rfl ?_
    refine v_getr dX5_back_35 flX5_25 sh_0 rfl ?_
    refine v_geti dX5_back_38 flX5_136 sh_31 rfl ?_
    refine v_istore_n (ls1 := [some (.ref 0), some (.int x1), some (.int (w4.1 31 1)), none]) dX5_back_41 (Nat.le_of_ble_eq_true rfl) rfl ?_
    refine v_iconst (v := 1) dX5_back_42 rfl ?_
    refine v_istore_n (ls1 := [some (.ref 0), some (.int x1), some (.int (w4.1 31 1)), some (.int (1 : Int32))]) dX5_back_43 (Nat.le_of_ble_eq_true rfl) rfl ?_
    refine V.sub (ls' := [some (.ref 0), none, some (.int (w4.1 31 1)), some (.int (1 : Int32))]) (And.intro rfl (And.intro rfl (And.intro rfl trivial))) ?_
    refine tX5_back_44 (fun M10 h => ?_) FU _ _ h
    refine v_aload_n dX5_back_81 rfl ?_
    refine v_ldc (v := -1000000004) dX5_back_82 w_264 ?_
    obtain ⟨w11, e12, h⟩ := Option.bind_eq_some_iff.mp h
    refine v_callV (as := [.int (-1000000004 : Int32)]) (st := []) (sX5_tell e12) dX5_back_84 mlX5_64 (CRn (by decide) (by decide)) sh_0 rfl rfl rfl (Nat.le_of_ble_eq_true rfl) ?_
    replace h := Option.some.inj h; subst h
    exact v_iret rfl dX5_back_87
  · replace h := (if_pos c1).symm.trans h
    refine v_aload_n dX5_back_11 rfl ?_
    refine v_ldc (v := -1000000001) dX5_back_12 w_175 ?_
    obtain ⟨w13, e14, h⟩ := Option.bind_eq_some_iff.mp h
    refine v_callV (as := [.int (-1000000001 : Int32)]) (st := []) (sX5_tell e14) dX5_back_14 mlX5_64 (CRn (by decide) (by decide)) sh_0 rfl rfl rfl (Nat.le_of_ble_eq_true rfl) ?_
    replace h := Option.some.inj h; subst h
    exact v_iret rfl dX5_back_17
/-! ===== BentPlain.meet(II)I ===== -/
def fX5_meet_68 (kx : Mem → Option (Int32 × Mem)) : Nat → Int32 → Mem → Option (Int32 × Mem)
  | 0, _, _ => none
  | n + 1, y3, M => (if (100 : Int32) < y3 then (kx M) else (if (fX5_fieldOf (M.1 31 1)) = (fX5_fieldOf (M.1 32 1)) then some (y3, M) else ((fX4_move 31 M).bind fun w18 => ((fX4_move 32 w18).bind fun w20 => (fX5_meet_68 kx n (y3 + (1 : Int32)) w20)))))
def fX5_meet (x1 : Int32) (x2 : Int32) (M : Mem) : Option (Int32 × Mem) := (if (fX0_hasWalker x1 M) = 0 then ((fX5_tell (-1000000001 : Int32) M).bind fun w2 => some (w2.1, w2.2)) else (if (fX0_hasWalker x2 M) = 0 then ((fX5_tell (-1000000001 : Int32) M).bind fun w5 => some (w5.1, w5.2)) else (if x1 = x2 then ((fX5_tell (-1000000001 : Int32) M).bind fun w25 => some (w25.1, w25.2)) else ((ldW 1 x1).bind fun q8 => ((fX4_become 31 q8 M).bind fun w10 => ((ldW 1 x2).bind fun q12 => ((fX4_become 32 q12 w10).bind fun w14 => (fX5_meet_68 (fun M22 => ((fX5_tell (-1000000004 : Int32) M22).bind fun w23 => some (w23.1, w23.2))) FU (0 : Int32) w14))))))))
set_option maxRecDepth 100000 in
set_option maxHeartbeats 4000000 in
theorem tX5_meet_68 {g : Wo} {kx : Mem → Option (Int32 × Mem)} {r : Int32 × Mem} (hk : ∀ (Mx : Mem), kx Mx = some r → V g kX5_meet (jm g 6 (some (.int r.1)) r.2) 127 [some (.ref 0), none, none, none] [] Mx) : ∀ (n : Nat) (y3 : Int32) (M : Mem), fX5_meet_68 kx n y3 M = some r → V g kX5_meet (jm g 6 (some (.int r.1)) r.2) 68 [some (.ref 0), none, none, some (.int y3)] [] M := by
  intro n
  induction n with
  | zero =>
    intro y3 M h
    rw [fX5_meet_68] at h
    cases h
  | succ n ih =>
    intro y3 M h
    rw [fX5_meet_68] at h
    refine v_iload_n dX5_meet_68 rfl ?_
    refine v_bipush (v := 100) dX5_meet_69 rfl ?_
    refine v_icmp_gt (tgt := 127) dX5_meet_71 rfl (fun c16 => ?_) (fun c16 => ?_)
    · replace h := (if_pos c16).symm.trans h
      refine V.sub (ls' := [some (.ref 0), none, none, none]) (And.intro rfl trivial) ?_
      exact hk _ h
    · replace h := (if_neg c16).symm.trans h
      refine v_aload_n dX5_meet_74 rfl ?_
      refine v_getr dX5_meet_75 flX5_25 sh_0 rfl ?_
      refine v_geti dX5_meet_78 flX5_136 sh_31 rfl ?_
      refine v_callS (as := [.int (M.1 31 1)]) (st := []) (sX5_fieldOf rfl) dX5_meet_81 mlX5_139 (CRn (by decide) (by decide)) rfl rfl (Nat.le_of_ble_eq_true rfl) ?_
      refine v_aload_n dX5_meet_84 rfl ?_
      refine v_getr dX5_meet_85 flX5_29 sh_0 rfl ?_
      refine v_geti dX5_meet_88 flX5_136 sh_32 rfl ?_
      refine v_callS (as := [.int (M.1 32 1)]) (st := [.int (fX5_fieldOf (M.1 31 1))]) (sX5_fieldOf rfl) dX5_meet_91 mlX5_139 (CRn (by decide) (by decide)) rfl rfl (Nat.le_of_ble_eq_true rfl) ?_
      refine v_icmp_ne (tgt := 99) dX5_meet_94 rfl (fun c17 => ?_) (fun c17 => ?_)
      · replace h := (if_neg c17).symm.trans h
        refine v_aload_n dX5_meet_99 rfl ?_
        refine v_getr dX5_meet_100 flX5_25 sh_0 rfl ?_
        refine v_aload_n dX5_meet_103 rfl ?_
        refine v_getr dX5_meet_104 flX5_12 sh_0 rfl ?_
        obtain ⟨w18, e19, h⟩ := Option.bind_eq_some_iff.mp h
        refine v_callV (as := [.ref 1]) (st := []) (sX4_move isW_31 e19) dX5_meet_107 mlX5_158 (CRn (by decide) (by decide)) sh_31 rfl rfl rfl (Nat.le_of_ble_eq_true rfl) ?_
        refine v_aload_n dX5_meet_110 rfl ?_
        refine v_getr dX5_meet_111 flX5_29 sh_0 rfl ?_
        refine v_aload_n dX5_meet_114 rfl ?_
        refine v_getr dX5_meet_115 flX5_12 sh_0 rfl ?_
        obtain ⟨w20, e21, h⟩ := Option.bind_eq_some_iff.mp h
        refine v_callV (as := [.ref 1]) (st := []) (sX4_move isW_32 e21) dX5_meet_118 mlX5_158 (CRn (by decide) (by decide)) sh_32 rfl rfl rfl (Nat.le_of_ble_eq_true rfl) ?_
        refine v_iinc (v := 1) (ls1 := [some (.ref 0), none, none, some (.int (y3 + (1 : Int32)))]) dX5_meet_121 rfl rfl (Nat.le_of_ble_eq_true rfl) rfl ?_
        refine v_goto (tgt := 68) dX5_meet_124 rfl ?_
        refine V.sub (ls' := [some (.ref 0), none, none, some (.int (y3 + (1 : Int32)))]) (And.intro rfl (And.intro rfl trivial)) ?_
        exact ih _ _ h
      · replace h := (if_pos c17).symm.trans h
        refine v_iload_n dX5_meet_97 rfl ?_
        replace h := Option.some.inj h; subst h
        exact v_iret rfl dX5_meet_98
set_option maxRecDepth 100000 in
set_option maxHeartbeats 4000000 in
theorem sX5_meet {g : Wo} {M : Mem} {x1 : Int32} {x2 : Int32} {r : Int32 × Mem} (h : fX5_meet x1 x2 M = some r) : Sp g kX5_meet 6 [.ref 0, .int x1, .int x2] M (some (.int r.1)) r.2 := by
  rw [fX5_meet] at h
  refine Sp_intro (by decide) [some (.ref 0), some (.int x1), some (.int x2), none] rfl (Nat.le_of_ble_eq_true rfl) ?_
  refine v_aload_n dX5_meet_0 rfl ?_
  refine v_getr dX5_meet_1 flX5_12 sh_0 rfl ?_
  refine v_iload_n dX5_meet_4 rfl ?_
  refine v_callV (as := [.int x1]) (st := []) (sX0_hasWalker rfl) dX5_meet_5 mlX5_126 (CRn (by decide) (by decide)) sh_1 rfl rfl rfl (Nat.le_of_ble_eq_true rfl) ?_
  refine v_if_eq (tgt := 27) dX5_meet_8 rfl (fun c1 => ?_) (fun c1 => ?_)
  · replace h := (if_pos c1).symm.trans h
    refine v_aload_n dX5_meet_27 rfl ?_
    refine v_ldc (v := -1000000001) dX5_meet_28 w_175 ?_
    obtain ⟨w2, e3, h⟩ := Option.bind_eq_some_iff.mp h
    refine v_callV (as := [.int (-1000000001 : Int32)]) (st := []) (sX5_tell e3) dX5_meet_30 mlX5_64 (CRn (by decide) (by decide)) sh_0 rfl rfl rfl (Nat.le_of_ble_eq_true rfl) ?_
    replace h := Option.some.inj h; subst h
    exact v_iret rfl dX5_meet_33
  · replace h := (if_neg c1).symm.trans h
    refine v_aload_n dX5_meet_11 rfl ?_
    refine v_getr dX5_meet_12 flX5_12 sh_0 rfl ?_
    refine v_iload_n dX5_meet_15 rfl ?_
    refine v_callV (as := [.int x2]) (st := []) (sX0_hasWalker rfl) dX5_meet_16 mlX5_126 (CRn (by decide) (by decide)) sh_1 rfl rfl rfl (Nat.le_of_ble_eq_true rfl) ?_
    refine v_if_eq (tgt := 27) dX5_meet_19 rfl (fun c4 => ?_) (fun c4 => ?_)
    · replace h := (if_pos c4).symm.trans h
      refine v_aload_n dX5_meet_27 rfl ?_
      refine v_ldc (v := -1000000001) dX5_meet_28 w_175 ?_
      obtain ⟨w5, e6, h⟩ := Option.bind_eq_some_iff.mp h
      refine v_callV (as := [.int (-1000000001 : Int32)]) (st := []) (sX5_tell e6) dX5_meet_30 mlX5_64 (CRn (by decide) (by decide)) sh_0 rfl rfl rfl (Nat.le_of_ble_eq_true rfl) ?_
      replace h := Option.some.inj h; subst h
      exact v_iret rfl dX5_meet_33
    · replace h := (if_neg c4).symm.trans h
      refine v_iload_n dX5_meet_22 rfl ?_
      refine v_iload_n dX5_meet_23 rfl ?_
      refine v_icmp_ne (tgt := 34) dX5_meet_24 rfl (fun c7 => ?_) (fun c7 => ?_)
      · replace h := (if_neg c7).symm.trans h
        refine v_aload_n dX5_meet_34 rfl ?_
        refine v_getr dX5_meet_35 flX5_25 sh_0 rfl ?_
        refine v_aload_n dX5_meet_38 rfl ?_
        refine v_getr dX5_meet_39 flX5_12 sh_0 rfl ?_
        refine v_getr dX5_meet_42 flX5_129 sh_1 rfl ?_
        refine v_iload_n dX5_meet_45 rfl ?_
        obtain ⟨q8, e9, h⟩ := Option.bind_eq_some_iff.mp h
        refine v_wld (r := 1) e9 dX5_meet_46 isG_1 ?_
        obtain ⟨w10, e11, h⟩ := Option.bind_eq_some_iff.mp h
        refine v_callV (as := [.ref q8]) (st := []) (sX4_become isW_31 (ldW_is isG_1 e9) e11) dX5_meet_47 mlX5_173 (CRn (by decide) (by decide)) sh_31 rfl rfl rfl (Nat.le_of_ble_eq_true rfl) ?_
        refine v_aload_n dX5_meet_50 rfl ?_
        refine v_getr dX5_meet_51 flX5_29 sh_0 rfl ?_
        refine v_aload_n dX5_meet_54 rfl ?_
        refine v_getr dX5_meet_55 flX5_12 sh_0 rfl ?_
        refine v_getr dX5_meet_58 flX5_129 sh_1 rfl ?_
        refine v_iload_n dX5_meet_61 rfl ?_
        obtain ⟨q12, e13, h⟩ := Option.bind_eq_some_iff.mp h
        refine v_wld (r := 1) e13 dX5_meet_62 isG_1 ?_
        obtain ⟨w14, e15, h⟩ := Option.bind_eq_some_iff.mp h
        refine v_callV (as := [.ref q12]) (st := []) (sX4_become isW_32 (ldW_is isG_1 e13) e15) dX5_meet_63 mlX5_173 (CRn (by decide) (by decide)) sh_32 rfl rfl rfl (Nat.le_of_ble_eq_true rfl) ?_
        refine v_iconst (v := 0) dX5_meet_66 rfl ?_
        refine v_istore_n (ls1 := [some (.ref 0), some (.int x1), some (.int x2), some (.int (0 : Int32))]) dX5_meet_67 (Nat.le_of_ble_eq_true rfl) rfl ?_
        refine V.sub (ls' := [some (.ref 0), none, none, some (.int (0 : Int32))]) (And.intro rfl (And.intro rfl trivial)) ?_
        refine tX5_meet_68 (fun M22 h => ?_) FU _ _ h
        refine v_aload_n dX5_meet_127 rfl ?_
        refine v_ldc (v := -1000000004) dX5_meet_128 w_264 ?_
        obtain ⟨w23, e24, h⟩ := Option.bind_eq_some_iff.mp h
        refine v_callV (as := [.int (-1000000004 : Int32)]) (st := []) (sX5_tell e24) dX5_meet_130 mlX5_64 (CRn (by decide) (by decide)) sh_0 rfl rfl rfl (Nat.le_of_ble_eq_true rfl) ?_
        replace h := Option.some.inj h; subst h
        exact v_iret rfl dX5_meet_133
      · replace h := (if_pos c7).symm.trans h
        refine v_aload_n dX5_meet_27 rfl ?_
        refine v_ldc (v := -1000000001) dX5_meet_28 w_175 ?_
        obtain ⟨w25, e26, h⟩ := Option.bind_eq_some_iff.mp h
        refine v_callV (as := [.int (-1000000001 : Int32)]) (st := []) (sX5_tell e26) dX5_meet_30 mlX5_64 (CRn (by decide) (by decide)) sh_0 rfl rfl rfl (Nat.le_of_ble_eq_true rfl) ?_
        replace h := Option.some.inj h; subst h
        exact v_iret rfl dX5_meet_33
/-! ===== BentPlain.spares(I)I ===== -/
def fX5_spares_21 {ρ : Type} (kx : Int32 → Mem → Option ρ) (y1 : Int32) : Nat → Int32 → Int32 → Int32 → Mem → Option ρ
  | 0, _, _, _, _ => none
  | n + 1, y2, y3, y4, M => (if (M.1 1 1) ≤ y4 then (kx y2 M) else ((ldW 1 y4).bind fun q3 => ((fX4_become 31 q3 M).bind fun w5 => ((fX4_moveOften 31 y1 w5).bind fun w7 => (fX5_spares_21 kx y1 n (if y2 = (-1 : Int32) then y4 else (if y3 ≤ (w7.1 31 2) then y2 else y4)) (if y2 = (-1 : Int32) then (w7.1 31 2) else (if y3 ≤ (w7.1 31 2) then y3 else (w7.1 31 2))) (y4 + (1 : Int32)) w7)))))
def fX5_spares (x1 : Int32) (M : Mem) : Option (Int32 × Mem) := (if (fX5_isStepsOn x1) = 0 then ((fX5_tell (-1000000001 : Int32) M).bind fun w15 => some (w15.1, w15.2)) else (fX5_spares_21 (fun u11 M12 => ((fX5_numberOrNone u11 M12).bind fun w13 => some (w13.1, w13.2))) x1 FU (-1 : Int32) (0 : Int32) (0 : Int32) M))
set_option maxRecDepth 100000 in
set_option maxHeartbeats 4000000 in
theorem tX5_spares_21 {g : Wo} {ρ : Type} {kx : Int32 → Mem → Option ρ} {y1 : Int32} {r : ρ} {rr : Option Value} {Mr : Mem} (hk : ∀ (z2 : Int32) (Mx : Mem), kx z2 Mx = some r → V g kX5_spares (jm g 7 rr Mr) 95 [some (.ref 0), none, some (.int z2), none, none] [] Mx) : ∀ (n : Nat) (y2 : Int32) (y3 : Int32) (y4 : Int32) (M : Mem), fX5_spares_21 kx y1 n y2 y3 y4 M = some r → V g kX5_spares (jm g 7 rr Mr) 21 [some (.ref 0), some (.int y1), some (.int y2), some (.int y3), some (.int y4)] [] M := by
  intro n
  induction n with
  | zero =>
    intro y2 y3 y4 M h
    rw [fX5_spares_21] at h
    cases h
  | succ n ih =>
    intro y2 y3 y4 M h
    rw [fX5_spares_21] at h
    refine v_iload dX5_spares_21 rfl ?_
    refine v_aload_n dX5_spares_23 rfl ?_
    refine v_getr dX5_spares_24 flX5_12 sh_0 rfl ?_
    refine v_geti dX5_spares_27 flX5_120 sh_1 rfl ?_
    refine v_icmp_ge (tgt := 95) dX5_spares_30 rfl (fun c2 => ?_) (fun c2 => ?_)
    · replace h := (if_pos c2).symm.trans h
      refine V.sub (ls' := [some (.ref 0), none, some (.int y2), none, none]) (And.intro rfl (And.intro rfl trivial)) ?_
      exact hk _ _ h
    · replace h := (if_neg c2).symm.trans h
      refine v_aload_n dX5_spares_33 rfl ?_
      refine v_getr dX5_spares_34 flX5_25 sh_0 rfl ?_
      refine v_aload_n dX5_spares_37 rfl ?_
      refine v_getr dX5_spares_38 flX5_12 sh_0 rfl ?_
      refine v_getr dX5_spares_41 flX5_129 sh_1 rfl ?_
      refine v_iload dX5_spares_44 rfl ?_
      obtain ⟨q3, e4, h⟩ := Option.bind_eq_some_iff.mp h
      refine v_wld (r := 1) e4 dX5_spares_46 isG_1 ?_
      obtain ⟨w5, e6, h⟩ := Option.bind_eq_some_iff.mp h
      refine v_callV (as := [.ref q3]) (st := []) (sX4_become isW_31 (ldW_is isG_1 e4) e6) dX5_spares_47 mlX5_173 (CRn (by decide) (by decide)) sh_31 rfl rfl rfl (Nat.le_of_ble_eq_true rfl) ?_
      refine v_aload_n dX5_spares_50 rfl ?_
      refine v_getr dX5_spares_51 flX5_25 sh_0 rfl ?_
      refine v_aload_n dX5_spares_54 rfl ?_
      refine v_getr dX5_spares_55 flX5_12 sh_0 rfl ?_
      refine v_iload_n dX5_spares_58 rfl ?_
      obtain ⟨w7, e8, h⟩ := Option.bind_eq_some_iff.mp h
      refine v_callV (as := [.ref 1, .int y1]) (st := []) (sX4_moveOften isW_31 e8) dX5_spares_59 mlX5_162 (CRn (by decide) (by decide)) sh_31 rfl rfl rfl (Nat.le_of_ble_eq_true rfl) ?_
      refine v_iload_n dX5_spares_62 rfl ?_
      refine v_iconst (v := -1) dX5_spares_63 rfl ?_
      have hJ : V g kX5_spares (jm g 7 rr Mr) 89 [some (.ref 0), some (.int y1), some (.int (if y2 = (-1 : Int32) then y4 else (if y3 ≤ (w7.1 31 2) then y2 else y4))), some (.int (if y2 = (-1 : Int32) then (w7.1 31 2) else (if y3 ≤ (w7.1 31 2) then y3 else (w7.1 31 2)))), some (.int y4)] [] w7 := by
        refine v_iinc (v := 1) (ls1 := [some (.ref 0), some (.int y1), some (.int (if y2 = (-1 : Int32) then y4 else (if y3 ≤ (w7.1 31 2) then y2 else y4))), some (.int (if y2 = (-1 : Int32) then (w7.1 31 2) else (if y3 ≤ (w7.1 31 2) then y3 else (w7.1 31 2)))), some (.int (y4 + (1 : Int32)))]) dX5_spares_89 rfl rfl (Nat.le_of_ble_eq_true rfl) rfl ?_
        refine v_goto (tgt := 21) dX5_spares_92 rfl ?_
        refine V.sub (ls' := [some (.ref 0), some (.int y1), some (.int (if y2 = (-1 : Int32) then y4 else (if y3 ≤ (w7.1 31 2) then y2 else y4))), some (.int (if y2 = (-1 : Int32) then (w7.1 31 2) else (if y3 ≤ (w7.1 31 2) then y3 else (w7.1 31 2)))), some (.int (y4 + (1 : Int32)))]) (And.intro rfl (And.intro rfl (And.intro rfl (And.intro rfl (And.intro rfl trivial))))) ?_
        exact ih _ _ _ _ h
      refine v_icmp_eq (tgt := 78) dX5_spares_64 rfl (fun c9 => ?_) (fun c9 => ?_)
      · refine v_iload dX5_spares_78 rfl ?_
        refine v_istore_n (ls1 := [some (.ref 0), some (.int y1), some (.int y4), some (.int y3), some (.int y4)]) dX5_spares_80 (Nat.le_of_ble_eq_true rfl) rfl ?_
        refine v_aload_n dX5_spares_81 rfl ?_
        refine v_getr dX5_spares_82 flX5_25 sh_0 rfl ?_
        refine v_geti dX5_spares_85 flX5_145 sh_31 rfl ?_
        refine v_istore_n (ls1 := [some (.ref 0), some (.int y1), some (.int y4), some (.int (w7.1 31 2)), some (.int y4)]) dX5_spares_88 (Nat.le_of_ble_eq_true rfl) rfl ?_
        refine V.sub (ls' := [some (.ref 0), some (.int y1), some (.int y4), some (.int (w7.1 31 2)), some (.int y4)]) (And.intro rfl (And.intro rfl (And.intro rfl (And.intro rfl (And.intro rfl trivial))))) ?_
        first | (simp only [if_pos c9] at hJ; exact hJ) | exact hJ | (simp only [if_pos c9] at hJ ⊢; exact hJ)
      · refine v_aload_n dX5_spares_67 rfl ?_
        refine v_getr dX5_spares_68 flX5_25 sh_0 rfl ?_
        refine v_geti dX5_spares_71 flX5_145 sh_31 rfl ?_
        refine v_iload_n dX5_spares_74 rfl ?_
        refine v_icmp_ge (tgt := 89) dX5_spares_75 rfl (fun c10 => ?_) (fun c10 => ?_)
        · refine V.sub (ls' := [some (.ref 0), some (.int y1), some (.int y2), some (.int y3), some (.int y4)]) (And.intro rfl (And.intro rfl (And.intro rfl (And.intro rfl (And.intro rfl trivial))))) ?_
          first | (simp only [if_neg c9, if_pos c10] at hJ; exact hJ) | exact hJ | (simp only [if_neg c9, if_pos c10] at hJ ⊢; exact hJ)
        · refine v_iload dX5_spares_78 rfl ?_
          refine v_istore_n (ls1 := [some (.ref 0), some (.int y1), some (.int y4), some (.int y3), some (.int y4)]) dX5_spares_80 (Nat.le_of_ble_eq_true rfl) rfl ?_
          refine v_aload_n dX5_spares_81 rfl ?_
          refine v_getr dX5_spares_82 flX5_25 sh_0 rfl ?_
          refine v_geti dX5_spares_85 flX5_145 sh_31 rfl ?_
          refine v_istore_n (ls1 := [some (.ref 0), some (.int y1), some (.int y4), some (.int (w7.1 31 2)), some (.int y4)]) dX5_spares_88 (Nat.le_of_ble_eq_true rfl) rfl ?_
          refine V.sub (ls' := [some (.ref 0), some (.int y1), some (.int y4), some (.int (w7.1 31 2)), some (.int y4)]) (And.intro rfl (And.intro rfl (And.intro rfl (And.intro rfl (And.intro rfl trivial))))) ?_
          first | (simp only [if_neg c9, if_neg c10] at hJ; exact hJ) | exact hJ | (simp only [if_neg c9, if_neg c10] at hJ ⊢; exact hJ)
set_option maxRecDepth 100000 in
set_option maxHeartbeats 4000000 in
theorem sX5_spares {g : Wo} {M : Mem} {x1 : Int32} {r : Int32 × Mem} (h : fX5_spares x1 M = some r) : Sp g kX5_spares 7 [.ref 0, .int x1] M (some (.int r.1)) r.2 := by
  rw [fX5_spares] at h
  refine Sp_intro (by decide) [some (.ref 0), some (.int x1), none, none, none] rfl (Nat.le_of_ble_eq_true rfl) ?_
  refine v_iload_n dX5_spares_0 rfl ?_
  refine v_callS (as := [.int x1]) (st := []) (sX5_isStepsOn rfl) dX5_spares_1 mlX5_170 (CRn (by decide) (by decide)) rfl rfl (Nat.le_of_ble_eq_true rfl) ?_
  refine v_if_ne (tgt := 14) dX5_spares_4 rfl (fun c1 => ?_) (fun c1 => ?_)
  · replace h := (if_neg c1).symm.trans h
    refine v_iconst (v := -1) dX5_spares_14 rfl ?_
    refine v_istore_n (ls1 := [some (.ref 0), some (.int x1), some (.int (-1 : Int32)), none, none]) dX5_spares_15 (Nat.le_of_ble_eq_true rfl) rfl ?_
    refine v_iconst (v := 0) dX5_spares_16 rfl ?_
    refine v_istore_n (ls1 := [some (.ref 0), some (.int x1), some (.int (-1 : Int32)), some (.int (0 : Int32)), none]) dX5_spares_17 (Nat.le_of_ble_eq_true rfl) rfl ?_
    refine v_iconst (v := 0) dX5_spares_18 rfl ?_
    refine v_istore (ls1 := [some (.ref 0), some (.int x1), some (.int (-1 : Int32)), some (.int (0 : Int32)), some (.int (0 : Int32))]) dX5_spares_19 (Nat.le_of_ble_eq_true rfl) rfl ?_
    refine V.sub (ls' := [some (.ref 0), some (.int x1), some (.int (-1 : Int32)), some (.int (0 : Int32)), some (.int (0 : Int32))]) (And.intro rfl (And.intro rfl (And.intro rfl (And.intro rfl (And.intro rfl trivial))))) ?_
    refine tX5_spares_21 (fun u11 M12 h => ?_) FU _ _ _ _ h
    refine v_aload_n dX5_spares_95 rfl ?_
    refine v_iload_n dX5_spares_96 rfl ?_
    obtain ⟨w13, e14, h⟩ := Option.bind_eq_some_iff.mp h
    refine v_callV (as := [.int u11]) (st := []) (sX5_numberOrNone e14) dX5_spares_97 mlX5_114 (CRn (by decide) (by decide)) sh_0 rfl rfl rfl (Nat.le_of_ble_eq_true rfl) ?_
    replace h := Option.some.inj h; subst h
    exact v_iret rfl dX5_spares_100
  · replace h := (if_pos c1).symm.trans h
    refine v_aload_n dX5_spares_7 rfl ?_
    refine v_ldc (v := -1000000001) dX5_spares_8 w_175 ?_
    obtain ⟨w15, e16, h⟩ := Option.bind_eq_some_iff.mp h
    refine v_callV (as := [.int (-1000000001 : Int32)]) (st := []) (sX5_tell e16) dX5_spares_10 mlX5_64 (CRn (by decide) (by decide)) sh_0 rfl rfl rfl (Nat.le_of_ble_eq_true rfl) ?_
    replace h := Option.some.inj h; subst h
    exact v_iret rfl dX5_spares_13
