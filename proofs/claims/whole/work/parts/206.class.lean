/-! ===== BentPlain.far(II)I ===== -/
def fX5_far (x1 : Int32) (x2 : Int32) (M : Mem) : Option (Int32 × Mem) := ((fX5_least x1 x2 (0 : Int32) M).bind fun w1 => some (w1.1, w1.2))
set_option maxRecDepth 100000 in
set_option maxHeartbeats 4000000 in
theorem sX5_far {g : Wo} {M : Mem} {x1 : Int32} {x2 : Int32} {r : Int32 × Mem} (h : fX5_far x1 x2 M = some r) : Sp g kX5_far 5 [.ref 0, .int x1, .int x2] M (some (.int r.1)) r.2 := by
  rw [fX5_far] at h
  refine Sp_intro (by decide) [some (.ref 0), some (.int x1), some (.int x2)] rfl (Nat.le_of_ble_eq_true rfl) ?_
  refine v_aload_n dX5_far_0 rfl ?_
  refine v_iload_n dX5_far_1 rfl ?_
  refine v_iload_n dX5_far_2 rfl ?_
  refine v_iconst (v := 0) dX5_far_3 rfl ?_
  obtain ⟨w1, e2, h⟩ := Option.bind_eq_some_iff.mp h
  refine v_callV (as := [.int x1, .int x2, .int (0 : Int32)]) (st := []) (sX5_least e2) dX5_far_4 mlX5_218 (CRn (by decide) (by decide)) sh_0 rfl rfl rfl (Nat.le_of_ble_eq_true rfl) ?_
  replace h := Option.some.inj h; subst h
  exact v_iret rfl dX5_far_7
/-! ===== BentPlain.smooth(II)I ===== -/
def fX5_smooth (x1 : Int32) (x2 : Int32) (M : Mem) : Option (Int32 × Mem) := ((fX5_least x1 x2 (1 : Int32) M).bind fun w1 => some (w1.1, w1.2))
set_option maxRecDepth 100000 in
set_option maxHeartbeats 4000000 in
theorem sX5_smooth {g : Wo} {M : Mem} {x1 : Int32} {x2 : Int32} {r : Int32 × Mem} (h : fX5_smooth x1 x2 M = some r) : Sp g kX5_smooth 5 [.ref 0, .int x1, .int x2] M (some (.int r.1)) r.2 := by
  rw [fX5_smooth] at h
  refine Sp_intro (by decide) [some (.ref 0), some (.int x1), some (.int x2)] rfl (Nat.le_of_ble_eq_true rfl) ?_
  refine v_aload_n dX5_smooth_0 rfl ?_
  refine v_iload_n dX5_smooth_1 rfl ?_
  refine v_iload_n dX5_smooth_2 rfl ?_
  refine v_iconst (v := 1) dX5_smooth_3 rfl ?_
  obtain ⟨w1, e2, h⟩ := Option.bind_eq_some_iff.mp h
  refine v_callV (as := [.int x1, .int x2, .int (1 : Int32)]) (st := []) (sX5_least e2) dX5_smooth_4 mlX5_218 (CRn (by decide) (by decide)) sh_0 rfl rfl rfl (Nat.le_of_ble_eq_true rfl) ?_
  replace h := Option.some.inj h; subst h
  exact v_iret rfl dX5_smooth_7
/-! ===== BentPlain$Ground.spreadTurning([II)V ===== -/
def fX0_spreadTurning_34 {ρ : Type} (kx : Int32 → Mem → Option ρ) (y1 : Nat) (y4 : Int32) : Nat → Int32 → Int32 → Mem → Option ρ
  | 0, _, _, _ => none
  | n + 1, y3, y5, M => (if (fX0_ways M) ≤ y5 then (kx y3 M) else ((fX0_goOn y5 M).bind fun v8 => ((ldI M y1 (alen y1) y5).bind fun v10 => ((fX0_lower y1 v8 v10 M).bind fun w12 => ((ldI w12.2 y1 (alen y1) y5).bind fun v14 => ((fX0_lower y1 (fX5_turned y5 (1 : Int32)) (v14 + (1 : Int32)) w12.2).bind fun w16 => ((ldI w16.2 y1 (alen y1) y5).bind fun v18 => ((fX0_lower y1 (fX5_turned y5 (3 : Int32)) (v18 + (1 : Int32)) w16.2).bind fun w20 => (fX0_spreadTurning_34 kx y1 y4 n (((y3 ||| w12.1) ||| w16.1) ||| w20.1) (y5 + (1 : Int32)) w20.2)))))))))
def fX0_spreadTurning_18 {ρ : Type} (kx : Mem → Option ρ) (y1 : Nat) : Nat → Int32 → Int32 → Mem → Option ρ
  | 0, _, _, _ => none
  | n + 1, y3, y4, M => (if (64 : Int32) ≤ y4 then (kx M) else (if y3 = 0 then (kx M) else (fX0_spreadTurning_34 (fun u22 M23 => (fX0_spreadTurning_18 kx y1 n u22 (y4 + (1 : Int32)) M23)) y1 y4 FU (0 : Int32) (0 : Int32) M)))
def fX0_spreadTurning (x1 : Nat) (x2 : Int32) (M : Mem) : Option Mem := ((fJ7_fill_53178 x1 (1000000 : Int32) M).bind fun w1 => ((fX0_lower x1 x2 (0 : Int32) w1).bind fun w3 => (fX0_spreadTurning_18 (fun M24 => some M24) x1 FU (1 : Int32) (0 : Int32) w3.2)))
set_option maxRecDepth 100000 in
set_option maxHeartbeats 4000000 in
theorem tX0_spreadTurning_34 {g : Wo} {ρ : Type} {kx : Int32 → Mem → Option ρ} {y1 : Nat} {y4 : Int32} (hy1 : isI y1) {r : ρ} {rr : Option Value} {Mr : Mem} (hk : ∀ (z3 : Int32) (Mx : Mem), kx z3 Mx = some r → V g kX0_spreadTurning (jm g 3 rr Mr) 104 [some (.ref 1), some (.ref y1), none, some (.int z3), some (.int y4), none] [] Mx) : ∀ (n : Nat) (y3 : Int32) (y5 : Int32) (M : Mem), fX0_spreadTurning_34 kx y1 y4 n y3 y5 M = some r → V g kX0_spreadTurning (jm g 3 rr Mr) 34 [some (.ref 1), some (.ref y1), none, some (.int y3), some (.int y4), some (.int y5)] [] M := by
  intro n
  induction n with
  | zero =>
    intro y3 y5 M h
    rw [fX0_spreadTurning_34] at h
    cases h
  | succ n ih =>
    intro y3 y5 M h
    rw [fX0_spreadTurning_34] at h
    refine v_iload dX0_spreadTurning_34 rfl ?_
    refine v_aload_n dX0_spreadTurning_36 rfl ?_
    refine v_callV (as := []) (st := [.int y5]) (sX0_ways rfl) dX0_spreadTurning_37 mlX0_54 (CRn (by decide) (by decide)) sh_1 rfl rfl rfl (Nat.le_of_ble_eq_true rfl) ?_
    refine v_icmp_ge (tgt := 104) dX0_spreadTurning_40 rfl (fun c7 => ?_) (fun c7 => ?_)
    · replace h := (if_pos c7).symm.trans h
      refine V.sub (ls' := [some (.ref 1), some (.ref y1), none, some (.int y3), some (.int y4), none]) (And.intro rfl (And.intro rfl (And.intro rfl (And.intro rfl trivial)))) ?_
      exact hk _ _ h
    · replace h := (if_neg c7).symm.trans h
      refine v_iload_n dX0_spreadTurning_43 rfl ?_
      refine v_aload_n dX0_spreadTurning_44 rfl ?_
      refine v_aload_n dX0_spreadTurning_45 rfl ?_
      refine v_iload dX0_spreadTurning_46 rfl ?_
      obtain ⟨v8, e9, h⟩ := Option.bind_eq_some_iff.mp h
      refine v_callV (as := [.int y5]) (st := [.ref y1, .int y3]) (sX0_goOn e9) dX0_spreadTurning_48 mlX0_77 (CRn (by decide) (by decide)) sh_1 rfl rfl rfl (Nat.le_of_ble_eq_true rfl) ?_
      refine v_aload_n dX0_spreadTurning_51 rfl ?_
      refine v_iload dX0_spreadTurning_52 rfl ?_
      obtain ⟨v10, e11, h⟩ := Option.bind_eq_some_iff.mp h
      refine v_ild e11 dX0_spreadTurning_54 hy1 ?_
      obtain ⟨w12, e13, h⟩ := Option.bind_eq_some_iff.mp h
      refine v_callS (as := [.ref y1, .int v8, .int v10]) (st := [.int y3]) (sX0_lower hy1 e13) dX0_spreadTurning_55 mlX0_97 (CRn (by decide) (by decide)) rfl rfl (Nat.le_of_ble_eq_true rfl) ?_
      refine v_ior dX0_spreadTurning_58 ?_
      refine v_istore_n (ls1 := [some (.ref 1), some (.ref y1), none, some (.int (y3 ||| w12.1)), some (.int y4), some (.int y5)]) dX0_spreadTurning_59 (Nat.le_of_ble_eq_true rfl) rfl ?_
      refine v_iload_n dX0_spreadTurning_60 rfl ?_
      refine v_aload_n dX0_spreadTurning_61 rfl ?_
      refine v_iload dX0_spreadTurning_62 rfl ?_
      refine v_iconst (v := 1) dX0_spreadTurning_64 rfl ?_
      refine v_callN (as := [.int y5, .int (1 : Int32)]) (st := [.ref y1, .int (y3 ||| w12.1)]) (sX5_turned rfl) dX0_spreadTurning_65 mlX0_74 (CRn (by decide) (by decide)) rfl rfl (Nat.le_of_ble_eq_true rfl) ?_
      refine v_aload_n dX0_spreadTurning_68 rfl ?_
      refine v_iload dX0_spreadTurning_69 rfl ?_
      obtain ⟨v14, e15, h⟩ := Option.bind_eq_some_iff.mp h
      refine v_ild e15 dX0_spreadTurning_71 hy1 ?_
      refine v_iconst (v := 1) dX0_spreadTurning_72 rfl ?_
      refine v_iadd dX0_spreadTurning_73 ?_
      obtain ⟨w16, e17, h⟩ := Option.bind_eq_some_iff.mp h
      refine v_callS (as := [.ref y1, .int (fX5_turned y5 (1 : Int32)), .int (v14 + (1 : Int32))]) (st := [.int (y3 ||| w12.1)]) (sX0_lower hy1 e17) dX0_spreadTurning_74 mlX0_97 (CRn (by decide) (by decide)) rfl rfl (Nat.le_of_ble_eq_true rfl) ?_
      refine v_ior dX0_spreadTurning_77 ?_
      refine v_istore_n (ls1 := [some (.ref 1), some (.ref y1), none, some (.int ((y3 ||| w12.1) ||| w16.1)), some (.int y4), some (.int y5)]) dX0_spreadTurning_78 (Nat.le_of_ble_eq_true rfl) rfl ?_
      refine v_iload_n dX0_spreadTurning_79 rfl ?_
      refine v_aload_n dX0_spreadTurning_80 rfl ?_
      refine v_iload dX0_spreadTurning_81 rfl ?_
      refine v_iconst (v := 3) dX0_spreadTurning_83 rfl ?_
      refine v_callN (as := [.int y5, .int (3 : Int32)]) (st := [.ref y1, .int ((y3 ||| w12.1) ||| w16.1)]) (sX5_turned rfl) dX0_spreadTurning_84 mlX0_74 (CRn (by decide) (by decide)) rfl rfl (Nat.le_of_ble_eq_true rfl) ?_
      refine v_aload_n dX0_spreadTurning_87 rfl ?_
      refine v_iload dX0_spreadTurning_88 rfl ?_
      obtain ⟨v18, e19, h⟩ := Option.bind_eq_some_iff.mp h
      refine v_ild e19 dX0_spreadTurning_90 hy1 ?_
      refine v_iconst (v := 1) dX0_spreadTurning_91 rfl ?_
      refine v_iadd dX0_spreadTurning_92 ?_
      obtain ⟨w20, e21, h⟩ := Option.bind_eq_some_iff.mp h
      refine v_callS (as := [.ref y1, .int (fX5_turned y5 (3 : Int32)), .int (v18 + (1 : Int32))]) (st := [.int ((y3 ||| w12.1) ||| w16.1)]) (sX0_lower hy1 e21) dX0_spreadTurning_93 mlX0_97 (CRn (by decide) (by decide)) rfl rfl (Nat.le_of_ble_eq_true rfl) ?_
      refine v_ior dX0_spreadTurning_96 ?_
      refine v_istore_n (ls1 := [some (.ref 1), some (.ref y1), none, some (.int (((y3 ||| w12.1) ||| w16.1) ||| w20.1)), some (.int y4), some (.int y5)]) dX0_spreadTurning_97 (Nat.le_of_ble_eq_true rfl) rfl ?_
      refine v_iinc (v := 1) (ls1 := [some (.ref 1), some (.ref y1), none, some (.int (((y3 ||| w12.1) ||| w16.1) ||| w20.1)), some (.int y4), some (.int (y5 + (1 : Int32)))]) dX0_spreadTurning_98 rfl rfl (Nat.le_of_ble_eq_true rfl) rfl ?_
      refine v_goto (tgt := 34) dX0_spreadTurning_101 rfl ?_
      refine V.sub (ls' := [some (.ref 1), some (.ref y1), none, some (.int (((y3 ||| w12.1) ||| w16.1) ||| w20.1)), some (.int y4), some (.int (y5 + (1 : Int32)))]) (And.intro rfl (And.intro rfl (And.intro rfl (And.intro rfl (And.intro rfl trivial))))) ?_
      exact ih _ _ _ h
set_option maxRecDepth 100000 in
set_option maxHeartbeats 4000000 in
theorem tX0_spreadTurning_18 {g : Wo} {ρ : Type} {kx : Mem → Option ρ} {y1 : Nat} (hy1 : isI y1) {r : ρ} {rr : Option Value} {Mr : Mem} (hk : ∀ (Mx : Mem), kx Mx = some r → V g kX0_spreadTurning (jm g 3 rr Mr) 110 [none, none, none, none, none, none] [] Mx) : ∀ (n : Nat) (y3 : Int32) (y4 : Int32) (M : Mem), fX0_spreadTurning_18 kx y1 n y3 y4 M = some r → V g kX0_spreadTurning (jm g 3 rr Mr) 18 [some (.ref 1), some (.ref y1), none, some (.int y3), some (.int y4), none] [] M := by
  intro n
  induction n with
  | zero =>
    intro y3 y4 M h
    rw [fX0_spreadTurning_18] at h
    cases h
  | succ n ih =>
    intro y3 y4 M h
    rw [fX0_spreadTurning_18] at h
    refine v_iload dX0_spreadTurning_18 rfl ?_
    refine v_bipush (v := 64) dX0_spreadTurning_20 rfl ?_
    refine v_icmp_ge (tgt := 110) dX0_spreadTurning_22 rfl (fun c5 => ?_) (fun c5 => ?_)
    · replace h := (if_pos c5).symm.trans h
      refine V.sub (ls' := [none, none, none, none, none, none]) trivial ?_
      exact hk _ h
    · replace h := (if_neg c5).symm.trans h
      refine v_iload_n dX0_spreadTurning_25 rfl ?_
      refine v_if_eq (tgt := 110) dX0_spreadTurning_26 rfl (fun c6 => ?_) (fun c6 => ?_)
      · replace h := (if_pos c6).symm.trans h
        refine V.sub (ls' := [none, none, none, none, none, none]) trivial ?_
        exact hk _ h
      · replace h := (if_neg c6).symm.trans h
        refine v_iconst (v := 0) dX0_spreadTurning_29 rfl ?_
        refine v_istore_n (ls1 := [some (.ref 1), some (.ref y1), none, some (.int (0 : Int32)), some (.int y4), none]) dX0_spreadTurning_30 (Nat.le_of_ble_eq_true rfl) rfl ?_
        refine v_iconst (v := 0) dX0_spreadTurning_31 rfl ?_
        refine v_istore (ls1 := [some (.ref 1), some (.ref y1), none, some (.int (0 : Int32)), some (.int y4), some (.int (0 : Int32))]) dX0_spreadTurning_32 (Nat.le_of_ble_eq_true rfl) rfl ?_
        refine V.sub (ls' := [some (.ref 1), some (.ref y1), none, some (.int (0 : Int32)), some (.int y4), some (.int (0 : Int32))]) (And.intro rfl (And.intro rfl (And.intro rfl (And.intro rfl (And.intro rfl trivial))))) ?_
        refine tX0_spreadTurning_34 hy1 (fun u22 M23 h => ?_) FU _ _ _ h
        refine v_iinc (v := 1) (ls1 := [some (.ref 1), some (.ref y1), none, some (.int u22), some (.int (y4 + (1 : Int32))), none]) dX0_spreadTurning_104 rfl rfl (Nat.le_of_ble_eq_true rfl) rfl ?_
        refine v_goto (tgt := 18) dX0_spreadTurning_107 rfl ?_
        refine V.sub (ls' := [some (.ref 1), some (.ref y1), none, some (.int u22), some (.int (y4 + (1 : Int32))), none]) (And.intro rfl (And.intro rfl (And.intro rfl (And.intro rfl trivial)))) ?_
        exact ih _ _ _ h
set_option maxRecDepth 100000 in
set_option maxHeartbeats 4000000 in
theorem sX0_spreadTurning {g : Wo} {M : Mem} {x1 : Nat} {x2 : Int32} {r : Mem} (hx1 : isI x1) (h : fX0_spreadTurning x1 x2 M = some r) : Sp g kX0_spreadTurning 3 [.ref 1, .ref x1, .int x2] M none r := by
  rw [fX0_spreadTurning] at h
  refine Sp_intro (by decide) [some (.ref 1), some (.ref x1), some (.int x2), none, none, none] rfl (Nat.le_of_ble_eq_true rfl) ?_
  refine v_aload_n dX0_spreadTurning_0 rfl ?_
  refine v_ldc (v := 1000000) dX0_spreadTurning_1 w_461 ?_
  obtain ⟨w1, e2, h⟩ := Option.bind_eq_some_iff.mp h
  refine v_callS (as := [.ref x1, .int (1000000 : Int32)]) (st := []) (sJ7_fill_53178 hx1 e2) dX0_spreadTurning_3 mlX0_91 (CRn (by decide) (by decide)) rfl rfl (Nat.le_of_ble_eq_true rfl) ?_
  refine v_aload_n dX0_spreadTurning_6 rfl ?_
  refine v_iload_n dX0_spreadTurning_7 rfl ?_
  refine v_iconst (v := 0) dX0_spreadTurning_8 rfl ?_
  obtain ⟨w3, e4, h⟩ := Option.bind_eq_some_iff.mp h
  refine v_callS (as := [.ref x1, .int x2, .int (0 : Int32)]) (st := []) (sX0_lower hx1 e4) dX0_spreadTurning_9 mlX0_97 (CRn (by decide) (by decide)) rfl rfl (Nat.le_of_ble_eq_true rfl) ?_
  refine v_pop dX0_spreadTurning_12 rfl ?_
  refine v_iconst (v := 1) dX0_spreadTurning_13 rfl ?_
  refine v_istore_n (ls1 := [some (.ref 1), some (.ref x1), some (.int x2), some (.int (1 : Int32)), none, none]) dX0_spreadTurning_14 (Nat.le_of_ble_eq_true rfl) rfl ?_
  refine v_iconst (v := 0) dX0_spreadTurning_15 rfl ?_
  refine v_istore (ls1 := [some (.ref 1), some (.ref x1), some (.int x2), some (.int (1 : Int32)), some (.int (0 : Int32)), none]) dX0_spreadTurning_16 (Nat.le_of_ble_eq_true rfl) rfl ?_
  refine V.sub (ls' := [some (.ref 1), some (.ref x1), none, some (.int (1 : Int32)), some (.int (0 : Int32)), none]) (And.intro rfl (And.intro rfl (And.intro rfl (And.intro rfl trivial)))) ?_
  refine tX0_spreadTurning_18 hx1 (fun M24 h => ?_) FU _ _ _ h
  replace h := Option.some.inj h; subst h
  exact v_vret rfl dX0_spreadTurning_110
/-! ===== BentPlain.turns(III)I ===== -/
def fX5_turns_53 {ρ : Type} (kx : Int32 → Option ρ) (y3 : Int32) (M : Mem) : Nat → Int32 → Int32 → Option ρ
  | 0, _, _ => none
  | n + 1, y4, y5 => (if (4 : Int32) ≤ y5 then (kx y4) else ((ldI M 35 64 (fX5_wayOf y3 y5)).bind fun v8 => (fX5_turns_53 kx y3 M n (imn y4 v8) (y5 + (1 : Int32)))))
def fX5_turns (x1 : Int32) (x2 : Int32) (x3 : Int32) (M : Mem) : Option (Int32 × Mem) := (if (fX0_hasWay x1 x2 M) = 0 then ((fX5_tell (-1000000001 : Int32) M).bind fun w2 => some (w2.1, w2.2)) else (if (fX0_hasField x3 M) = 0 then ((fX5_tell (-1000000001 : Int32) M).bind fun w14 => some (w14.1, w14.2)) else ((fX0_spreadTurning 35 (fX5_wayOf x1 x2) M).bind fun w5 => (fX5_turns_53 (fun u10 => (if u10 = (1000000 : Int32) then ((fX5_tell (-1000000004 : Int32) w5).bind fun w12 => some (w12.1, w12.2)) else some (u10, w5))) x3 w5 FU (1000000 : Int32) (0 : Int32)))))
set_option maxRecDepth 100000 in
set_option maxHeartbeats 4000000 in
theorem tX5_turns_53 {g : Wo} {ρ : Type} {kx : Int32 → Option ρ} {y3 : Int32} {M : Mem} {r : ρ} {rr : Option Value} {Mr : Mem} (hk : ∀ (z4 : Int32), kx z4 = some r → V g kX5_turns (jm g 4 rr Mr) 83 [some (.ref 0), none, none, none, some (.int z4), none] [] M) : ∀ (n : Nat) (y4 : Int32) (y5 : Int32), fX5_turns_53 kx y3 M n y4 y5 = some r → V g kX5_turns (jm g 4 rr Mr) 53 [some (.ref 0), none, none, some (.int y3), some (.int y4), some (.int y5)] [] M := by
  intro n
  induction n with
  | zero =>
    intro y4 y5 h
    rw [fX5_turns_53] at h
    cases h
  | succ n ih =>
    intro y4 y5 h
    rw [fX5_turns_53] at h
    refine v_iload dX5_turns_53 rfl ?_
    refine v_iconst (v := 4) dX5_turns_55 rfl ?_
    refine v_icmp_ge (tgt := 83) dX5_turns_56 rfl (fun c7 => ?_) (fun c7 => ?_)
    · replace h := (if_pos c7).symm.trans h
      refine V.sub (ls' := [some (.ref 0), none, none, none, some (.int y4), none]) (And.intro rfl (And.intro rfl trivial)) ?_
      exact hk _ h
    · replace h := (if_neg c7).symm.trans h
      refine v_iload dX5_turns_59 rfl ?_
      refine v_aload_n dX5_turns_61 rfl ?_
      refine v_getr dX5_turns_62 flX5_39 sh_0 rfl ?_
      refine v_iload_n dX5_turns_65 rfl ?_
      refine v_iload dX5_turns_66 rfl ?_
      refine v_callS (as := [.int y3, .int y5]) (st := [.ref 35, .int y4]) (sX5_wayOf rfl) dX5_turns_68 mlX5_96 (CRn (by decide) (by decide)) rfl rfl (Nat.le_of_ble_eq_true rfl) ?_
      obtain ⟨v8, e9, h⟩ := Option.bind_eq_some_iff.mp h
      refine v_ild e9 dX5_turns_71 sh_35 ?_
      refine v_mmin dX5_turns_72 mmX5_227 (Nat.le_of_ble_eq_true rfl) (Nat.le_of_ble_eq_true rfl) (Nat.le_refl _) (Nat.le_refl _) ?_
      refine v_istore (ls1 := [some (.ref 0), none, none, some (.int y3), some (.int (imn y4 v8)), some (.int y5)]) dX5_turns_75 (Nat.le_of_ble_eq_true rfl) rfl ?_
      refine v_iinc (v := 1) (ls1 := [some (.ref 0), none, none, some (.int y3), some (.int (imn y4 v8)), some (.int (y5 + (1 : Int32)))]) dX5_turns_77 rfl rfl (Nat.le_of_ble_eq_true rfl) rfl ?_
      refine v_goto (tgt := 53) dX5_turns_80 rfl ?_
      refine V.sub (ls' := [some (.ref 0), none, none, some (.int y3), some (.int (imn y4 v8)), some (.int (y5 + (1 : Int32)))]) (And.intro rfl (And.intro rfl (And.intro rfl (And.intro rfl trivial)))) ?_
      exact ih _ _ h
set_option maxRecDepth 100000 in
set_option maxHeartbeats 4000000 in
theorem sX5_turns {g : Wo} {M : Mem} {x1 : Int32} {x2 : Int32} {x3 : Int32} {r : Int32 × Mem} (h : fX5_turns x1 x2 x3 M = some r) : Sp g kX5_turns 4 [.ref 0, .int x1, .int x2, .int x3] M (some (.int r.1)) r.2 := by
  rw [fX5_turns] at h
  refine Sp_intro (by decide) [some (.ref 0), some (.int x1), some (.int x2), some (.int x3), none, none] rfl (Nat.le_of_ble_eq_true rfl) ?_
  refine v_aload_n dX5_turns_0 rfl ?_
  refine v_getr dX5_turns_1 flX5_12 sh_0 rfl ?_
  refine v_iload_n dX5_turns_4 rfl ?_
  refine v_iload_n dX5_turns_5 rfl ?_
  refine v_callV (as := [.int x1, .int x2]) (st := []) (sX0_hasWay rfl) dX5_turns_6 mlX5_92 (CRn (by decide) (by decide)) sh_1 rfl rfl rfl (Nat.le_of_ble_eq_true rfl) ?_
  refine v_if_eq (tgt := 23) dX5_turns_9 rfl (fun c1 => ?_) (fun c1 => ?_)
  · replace h := (if_pos c1).symm.trans h
    refine v_aload_n dX5_turns_23 rfl ?_
    refine v_ldc (v := -1000000001) dX5_turns_24 w_175 ?_
    obtain ⟨w2, e3, h⟩ := Option.bind_eq_some_iff.mp h
    refine v_callV (as := [.int (-1000000001 : Int32)]) (st := []) (sX5_tell e3) dX5_turns_26 mlX5_64 (CRn (by decide) (by decide)) sh_0 rfl rfl rfl (Nat.le_of_ble_eq_true rfl) ?_
    replace h := Option.some.inj h; subst h
    exact v_iret rfl dX5_turns_29
  · replace h := (if_neg c1).symm.trans h
    refine v_aload_n dX5_turns_12 rfl ?_
    refine v_getr dX5_turns_13 flX5_12 sh_0 rfl ?_
    refine v_iload_n dX5_turns_16 rfl ?_
    refine v_callV (as := [.int x3]) (st := []) (sX0_hasField rfl) dX5_turns_17 mlX5_76 (CRn (by decide) (by decide)) sh_1 rfl rfl rfl (Nat.le_of_ble_eq_true rfl) ?_
    refine v_if_ne (tgt := 30) dX5_turns_20 rfl (fun c4 => ?_) (fun c4 => ?_)
    · replace h := (if_neg c4).symm.trans h
      refine v_aload_n dX5_turns_30 rfl ?_
      refine v_getr dX5_turns_31 flX5_12 sh_0 rfl ?_
      refine v_aload_n dX5_turns_34 rfl ?_
      refine v_getr dX5_turns_35 flX5_39 sh_0 rfl ?_
      refine v_iload_n dX5_turns_38 rfl ?_
      refine v_iload_n dX5_turns_39 rfl ?_
      refine v_callS (as := [.int x1, .int x2]) (st := [.ref 35, .ref 1]) (sX5_wayOf rfl) dX5_turns_40 mlX5_96 (CRn (by decide) (by decide)) rfl rfl (Nat.le_of_ble_eq_true rfl) ?_
      obtain ⟨w5, e6, h⟩ := Option.bind_eq_some_iff.mp h
      refine v_callV (as := [.ref 35, .int (fX5_wayOf x1 x2)]) (st := []) (sX0_spreadTurning (isI_of sh_35) e6) dX5_turns_43 mlX5_222 (CRn (by decide) (by decide)) sh_1 rfl rfl rfl (Nat.le_of_ble_eq_true rfl) ?_
      refine v_ldc (v := 1000000) dX5_turns_46 w_482 ?_
      refine v_istore (ls1 := [some (.ref 0), some (.int x1), some (.int x2), some (.int x3), some (.int (1000000 : Int32)), none]) dX5_turns_48 (Nat.le_of_ble_eq_true rfl) rfl ?_
      refine v_iconst (v := 0) dX5_turns_50 rfl ?_
      refine v_istore (ls1 := [some (.ref 0), some (.int x1), some (.int x2), some (.int x3), some (.int (1000000 : Int32)), some (.int (0 : Int32))]) dX5_turns_51 (Nat.le_of_ble_eq_true rfl) rfl ?_
      refine V.sub (ls' := [some (.ref 0), none, none, some (.int x3), some (.int (1000000 : Int32)), some (.int (0 : Int32))]) (And.intro rfl (And.intro rfl (And.intro rfl (And.intro rfl trivial)))) ?_
      refine tX5_turns_53 (fun u10 h => ?_) FU _ _ h
      refine v_iload dX5_turns_83 rfl ?_
      refine v_ldc (v := 1000000) dX5_turns_85 w_482 ?_
      refine v_icmp_ne (tgt := 99) dX5_turns_87 rfl (fun c11 => ?_) (fun c11 => ?_)
      · replace h := (if_neg c11).symm.trans h
        refine v_iload dX5_turns_99 rfl ?_
        replace h := Option.some.inj h; subst h
        exact v_iret rfl dX5_turns_101
      · replace h := (if_pos c11).symm.trans h
        refine v_aload_n dX5_turns_90 rfl ?_
        refine v_ldc (v := -1000000004) dX5_turns_91 w_264 ?_
        obtain ⟨w12, e13, h⟩ := Option.bind_eq_some_iff.mp h
        refine v_callV (as := [.int (-1000000004 : Int32)]) (st := []) (sX5_tell e13) dX5_turns_93 mlX5_64 (CRn (by decide) (by decide)) sh_0 rfl rfl rfl (Nat.le_of_ble_eq_true rfl) ?_
        refine v_goto (tgt := 101) dX5_turns_96 rfl ?_
        replace h := Option.some.inj h; subst h
        exact v_iret rfl dX5_turns_101
    · replace h := (if_pos c4).symm.trans h
      refine v_aload_n dX5_turns_23 rfl ?_
      refine v_ldc (v := -1000000001) dX5_turns_24 w_175 ?_
      obtain ⟨w14, e15, h⟩ := Option.bind_eq_some_iff.mp h
      refine v_callV (as := [.int (-1000000001 : Int32)]) (st := []) (sX5_tell e15) dX5_turns_26 mlX5_64 (CRn (by decide) (by decide)) sh_0 rfl rfl rfl (Nat.le_of_ble_eq_true rfl) ?_
      replace h := Option.some.inj h; subst h
      exact v_iret rfl dX5_turns_29
/-! ===== BentPlain.within(II)I ===== -/
def fX5_within (x1 : Int32) (x2 : Int32) (M : Mem) : Option (Int32 × Mem) := (if (fX0_hasField x1 M) = 0 then ((fX5_tell (-1000000001 : Int32) M).bind fun w2 => some (w2.1, w2.2)) else (if x2 < 0 then ((fX5_tell (-1000000001 : Int32) M).bind fun w5 => some (w5.1, w5.2)) else (if x2 ≤ (16 : Int32) then ((fX0_spread 33 x1 (0 : Int32) M).bind fun w8 => ((fX5_reached x2 w8).bind fun v10 => some ((fJ6_bitCount_0f7a4 v10), w8))) else ((fX5_tell (-1000000001 : Int32) M).bind fun w12 => some (w12.1, w12.2)))))
set_option maxRecDepth 100000 in
set_option maxHeartbeats 4000000 in
theorem sX5_within {g : Wo} {M : Mem} {x1 : Int32} {x2 : Int32} {r : Int32 × Mem} (h : fX5_within x1 x2 M = some r) : Sp g kX5_within 4 [.ref 0, .int x1, .int x2] M (some (.int r.1)) r.2 := by
  rw [fX5_within] at h
  refine Sp_intro (by decide) [some (.ref 0), some (.int x1), some (.int x2)] rfl (Nat.le_of_ble_eq_true rfl) ?_
  refine v_aload_n dX5_within_0 rfl ?_
  refine v_getr dX5_within_1 flX5_12 sh_0 rfl ?_
  refine v_iload_n dX5_within_4 rfl ?_
  refine v_callV (as := [.int x1]) (st := []) (sX0_hasField rfl) dX5_within_5 mlX5_76 (CRn (by decide) (by decide)) sh_1 rfl rfl rfl (Nat.le_of_ble_eq_true rfl) ?_
  refine v_if_eq (tgt := 21) dX5_within_8 rfl (fun c1 => ?_) (fun c1 => ?_)
  · replace h := (if_pos c1).symm.trans h
    refine v_aload_n dX5_within_21 rfl ?_
    refine v_ldc (v := -1000000001) dX5_within_22 w_175 ?_
    obtain ⟨w2, e3, h⟩ := Option.bind_eq_some_iff.mp h
    refine v_callV (as := [.int (-1000000001 : Int32)]) (st := []) (sX5_tell e3) dX5_within_24 mlX5_64 (CRn (by decide) (by decide)) sh_0 rfl rfl rfl (Nat.le_of_ble_eq_true rfl) ?_
    replace h := Option.some.inj h; subst h
    exact v_iret rfl dX5_within_27
  · replace h := (if_neg c1).symm.trans h
    refine v_iload_n dX5_within_11 rfl ?_
    refine v_if_lt (tgt := 21) dX5_within_12 rfl (fun c4 => ?_) (fun c4 => ?_)
    · replace h := (if_pos c4).symm.trans h
      refine v_aload_n dX5_within_21 rfl ?_
      refine v_ldc (v := -1000000001) dX5_within_22 w_175 ?_
      obtain ⟨w5, e6, h⟩ := Option.bind_eq_some_iff.mp h
      refine v_callV (as := [.int (-1000000001 : Int32)]) (st := []) (sX5_tell e6) dX5_within_24 mlX5_64 (CRn (by decide) (by decide)) sh_0 rfl rfl rfl (Nat.le_of_ble_eq_true rfl) ?_
      replace h := Option.some.inj h; subst h
      exact v_iret rfl dX5_within_27
    · replace h := (if_neg c4).symm.trans h
      refine v_iload_n dX5_within_15 rfl ?_
      refine v_bipush (v := 16) dX5_within_16 rfl ?_
      refine v_icmp_le (tgt := 28) dX5_within_18 rfl (fun c7 => ?_) (fun c7 => ?_)
      · replace h := (if_pos c7).symm.trans h
        refine v_aload_n dX5_within_28 rfl ?_
        refine v_getr dX5_within_29 flX5_12 sh_0 rfl ?_
        refine v_aload_n dX5_within_32 rfl ?_
        refine v_getr dX5_within_33 flX5_32 sh_0 rfl ?_
        refine v_iload_n dX5_within_36 rfl ?_
        refine v_iconst (v := 0) dX5_within_37 rfl ?_
        obtain ⟨w8, e9, h⟩ := Option.bind_eq_some_iff.mp h
        refine v_callV (as := [.ref 33, .int x1, .int (0 : Int32)]) (st := []) (sX0_spread (isI_of sh_33) e9) dX5_within_38 mlX5_210 (CRn (by decide) (by decide)) sh_1 rfl rfl rfl (Nat.le_of_ble_eq_true rfl) ?_
        refine v_aload_n dX5_within_41 rfl ?_
        refine v_iload_n dX5_within_42 rfl ?_
        obtain ⟨v10, e11, h⟩ := Option.bind_eq_some_iff.mp h
        refine v_callV (as := [.int x2]) (st := []) (sX5_reached e11) dX5_within_43 mlX5_215 (CRn (by decide) (by decide)) sh_0 rfl rfl rfl (Nat.le_of_ble_eq_true rfl) ?_
        refine v_callS (as := [.int v10]) (st := []) (sJ6_bitCount_0f7a4 rfl) dX5_within_46 mlX5_190 (CRn (by decide) (by decide)) rfl rfl (Nat.le_of_ble_eq_true rfl) ?_
        replace h := Option.some.inj h; subst h
        exact v_iret rfl dX5_within_49
      · replace h := (if_neg c7).symm.trans h
        refine v_aload_n dX5_within_21 rfl ?_
        refine v_ldc (v := -1000000001) dX5_within_22 w_175 ?_
        obtain ⟨w12, e13, h⟩ := Option.bind_eq_some_iff.mp h
        refine v_callV (as := [.int (-1000000001 : Int32)]) (st := []) (sX5_tell e13) dX5_within_24 mlX5_64 (CRn (by decide) (by decide)) sh_0 rfl rfl rfl (Nat.le_of_ble_eq_true rfl) ?_
        replace h := Option.some.inj h; subst h
        exact v_iret rfl dX5_within_27
/-! ===== BentPlain.farThrough(II)I ===== -/
def fX5_farThrough (x1 : Int32) (x2 : Int32) (M : Mem) : Option Int32 := ((ldI M 33 16 x1).bind fun v1 => ((ldI M 34 16 x2).bind fun v3 => ((ldI M 33 16 x2).bind fun v5 => ((ldI M 34 16 x1).bind fun v7 => some ((imn (v1 + v3) (v5 + v7)) + (1 : Int32))))))
set_option maxRecDepth 100000 in
set_option maxHeartbeats 4000000 in
theorem sX5_farThrough {g : Wo} {M : Mem} {x1 : Int32} {x2 : Int32} {r : Int32} (h : fX5_farThrough x1 x2 M = some r) : Sp g kX5_farThrough 1 [.ref 0, .int x1, .int x2] M (some (.int r)) M := by
  rw [fX5_farThrough] at h
  refine Sp_intro (by decide) [some (.ref 0), some (.int x1), some (.int x2), none, none] rfl (Nat.le_of_ble_eq_true rfl) ?_
  refine v_aload_n dX5_farThrough_0 rfl ?_
  refine v_getr dX5_farThrough_1 flX5_32 sh_0 rfl ?_
  refine v_iload_n dX5_farThrough_4 rfl ?_
  obtain ⟨v1, e2, h⟩ := Option.bind_eq_some_iff.mp h
  refine v_ild e2 dX5_farThrough_5 sh_33 ?_
  refine v_aload_n dX5_farThrough_6 rfl ?_
  refine v_getr dX5_farThrough_7 flX5_36 sh_0 rfl ?_
  refine v_iload_n dX5_farThrough_10 rfl ?_
  obtain ⟨v3, e4, h⟩ := Option.bind_eq_some_iff.mp h
  refine v_ild e4 dX5_farThrough_11 sh_34 ?_
  refine v_iadd dX5_farThrough_12 ?_
  refine v_istore_n (ls1 := [some (.ref 0), some (.int x1), some (.int x2), some (.int (v1 + v3)), none]) dX5_farThrough_13 (Nat.le_of_ble_eq_true rfl) rfl ?_
  refine v_aload_n dX5_farThrough_14 rfl ?_
  refine v_getr dX5_farThrough_15 flX5_32 sh_0 rfl ?_
  refine v_iload_n dX5_farThrough_18 rfl ?_
  obtain ⟨v5, e6, h⟩ := Option.bind_eq_some_iff.mp h
  refine v_ild e6 dX5_farThrough_19 sh_33 ?_
  refine v_aload_n dX5_farThrough_20 rfl ?_
  refine v_getr dX5_farThrough_21 flX5_36 sh_0 rfl ?_
  refine v_iload_n dX5_farThrough_24 rfl ?_
  obtain ⟨v7, e8, h⟩ := Option.bind_eq_some_iff.mp h
  refine v_ild e8 dX5_farThrough_25 sh_34 ?_
  refine v_iadd dX5_farThrough_26 ?_
  refine v_istore (ls1 := [some (.ref 0), some (.int x1), some (.int x2), some (.int (v1 + v3)), some (.int (v5 + v7))]) dX5_farThrough_27 (Nat.le_of_ble_eq_true rfl) rfl ?_
  refine v_iload_n dX5_farThrough_29 rfl ?_
  refine v_iload dX5_farThrough_30 rfl ?_
  refine v_mmin dX5_farThrough_32 mmX5_227 (Nat.le_of_ble_eq_true rfl) (Nat.le_of_ble_eq_true rfl) (Nat.le_refl _) (Nat.le_refl _) ?_
  refine v_iconst (v := 1) dX5_farThrough_35 rfl ?_
  refine v_iadd dX5_farThrough_36 ?_
  replace h := Option.some.inj h; subst h
  exact v_iret rfl dX5_farThrough_37
/-! ===== BentPlain.mends(II)I ===== -/
def fX5_mends_86 {ρ : Type} (kx : Int32 → Int32 → Option ρ) (y5 : Int32) (M : Mem) : Nat → Int32 → Int32 → Int32 → Option ρ
  | 0, _, _, _ => none
  | n + 1, y3, y4, y6 => (if (fX0_ways M) ≤ y6 then (kx y3 y4) else ((fX0_isFree y5 M).bind fun v13 => (if v13 = 0 then (kx y3 y4) else ((fX5_farThrough (fX5_fieldOf y5) (fX5_fieldOf y6) M).bind fun v16 => ((if y3 ≤ v16 then some (y3, y4) else ((fX0_isFree y6 M).bind fun v22 => (if v22 = 0 then some (y3, y4) else some (v16, (((64 : Int32) * y5) + y6))))).bind fun t20 => (fX5_mends_86 kx y5 M n t20.1 t20.2 (y6 + (1 : Int32))))))))
def fX5_mends_68 {ρ : Type} (kx : Int32 → Option ρ) (M : Mem) : Nat → Int32 → Int32 → Int32 → Option ρ
  | 0, _, _, _ => none
  | n + 1, y3, y4, y5 => (if (fX0_ways M) ≤ y5 then (kx y4) else (fX5_mends_86 (fun u25 u26 => (fX5_mends_68 kx M n u25 u26 (y5 + (1 : Int32)))) y5 M FU y3 y4 (y5 + (1 : Int32))))
def fX5_mends (x1 : Int32) (x2 : Int32) (M : Mem) : Option (Int32 × Mem) := (if (fX0_hasField x1 M) = 0 then ((fX5_tell (-1000000001 : Int32) M).bind fun w2 => some (w2.1, w2.2)) else (if (fX0_hasField x2 M) = 0 then ((fX5_tell (-1000000001 : Int32) M).bind fun w30 => some (w30.1, w30.2)) else ((fX0_spread 33 x1 (0 : Int32) M).bind fun w5 => ((fX0_spread 34 x2 (0 : Int32) w5).bind fun w7 => ((ldI w7 33 16 x2).bind fun v9 => (fX5_mends_68 (fun u27 => ((fX5_numberOrNone u27 w7).bind fun w28 => some (w28.1, w28.2))) w7 FU v9 (-1 : Int32) (0 : Int32)))))))
set_option maxRecDepth 100000 in
set_option maxHeartbeats 4000000 in
theorem tX5_mends_86 {g : Wo} {ρ : Type} {kx : Int32 → Int32 → Option ρ} {y5 : Int32} {M : Mem} {r : ρ} {rr : Option Value} {Mr : Mem} (hk : ∀ (z3 : Int32) (z4 : Int32), kx z3 z4 = some r → V g kX5_mends (jm g 4 rr Mr) 163 [some (.ref 0), none, none, some (.int z3), some (.int z4), some (.int y5), none, none] [] M) : ∀ (n : Nat) (y3 : Int32) (y4 : Int32) (y6 : Int32), fX5_mends_86 kx y5 M n y3 y4 y6 = some r → V g kX5_mends (jm g 4 rr Mr) 86 [some (.ref 0), none, none, some (.int y3), some (.int y4), some (.int y5), some (.int y6), none] [] M := by
  intro n
  induction n with
  | zero =>
    intro y3 y4 y6 h
    rw [fX5_mends_86] at h
    cases h
  | succ n ih =>
    intro y3 y4 y6 h
    rw [fX5_mends_86] at h
    refine v_iload dX5_mends_86 rfl ?_
    refine v_aload_n dX5_mends_88 rfl ?_
    refine v_getr dX5_mends_89 flX5_12 sh_0 rfl ?_
    refine v_callV (as := []) (st := [.int y6]) (sX0_ways rfl) dX5_mends_92 mlX5_207 (CRn (by decide) (by decide)) sh_1 rfl rfl rfl (Nat.le_of_ble_eq_true rfl) ?_
    refine v_icmp_ge (tgt := 163) dX5_mends_95 rfl (fun c12 => ?_) (fun c12 => ?_)
    · replace h := (if_pos c12).symm.trans h
      refine V.sub (ls' := [some (.ref 0), none, none, some (.int y3), some (.int y4), some (.int y5), none, none]) (And.intro rfl (And.intro rfl (And.intro rfl (And.intro rfl trivial)))) ?_
      exact hk _ _ h
    · replace h := (if_neg c12).symm.trans h
      refine v_aload_n dX5_mends_98 rfl ?_
      refine v_getr dX5_mends_99 flX5_12 sh_0 rfl ?_
      refine v_iload dX5_mends_102 rfl ?_
      obtain ⟨v13, e14, h⟩ := Option.bind_eq_some_iff.mp h
      refine v_callV (as := [.int y5]) (st := []) (sX0_isFree e14) dX5_mends_104 mlX5_100 (CRn (by decide) (by decide)) sh_1 rfl rfl rfl (Nat.le_of_ble_eq_true rfl) ?_
      refine v_if_eq (tgt := 163) dX5_mends_107 rfl (fun c15 => ?_) (fun c15 => ?_)
      · replace h := (if_pos c15).symm.trans h
        refine V.sub (ls' := [some (.ref 0), none, none, some (.int y3), some (.int y4), some (.int y5), none, none]) (And.intro rfl (And.intro rfl (And.intro rfl (And.intro rfl trivial)))) ?_
        exact hk _ _ h
      · replace h := (if_neg c15).symm.trans h
        refine v_aload_n dX5_mends_110 rfl ?_
        refine v_iload dX5_mends_111 rfl ?_
        refine v_callS (as := [.int y5]) (st := [.ref 0]) (sX5_fieldOf rfl) dX5_mends_113 mlX5_139 (CRn (by decide) (by decide)) rfl rfl (Nat.le_of_ble_eq_true rfl) ?_
        refine v_iload dX5_mends_116 rfl ?_
        refine v_callS (as := [.int y6]) (st := [.int (fX5_fieldOf y5), .ref 0]) (sX5_fieldOf rfl) dX5_mends_118 mlX5_139 (CRn (by decide) (by decide)) rfl rfl (Nat.le_of_ble_eq_true rfl) ?_
        obtain ⟨v16, e17, h⟩ := Option.bind_eq_some_iff.mp h
        refine v_callV (as := [.int (fX5_fieldOf y5), .int (fX5_fieldOf y6)]) (st := []) (sX5_farThrough e17) dX5_mends_121 mlX5_232 (CRn (by decide) (by decide)) sh_0 rfl rfl rfl (Nat.le_of_ble_eq_true rfl) ?_
        refine v_istore (ls1 := [some (.ref 0), none, none, some (.int y3), some (.int y4), some (.int y5), some (.int y6), some (.int v16)]) dX5_mends_124 (Nat.le_of_ble_eq_true rfl) rfl ?_
        refine v_iload dX5_mends_126 rfl ?_
        refine v_iload_n dX5_mends_128 rfl ?_
        obtain ⟨t20, e21, h⟩ := Option.bind_eq_some_iff.mp h
        have hJ : V g kX5_mends (jm g 4 rr Mr) 157 [some (.ref 0), none, none, some (.int t20.1), some (.int t20.2), some (.int y5), some (.int y6), none] [] M := by
          refine v_iinc (v := 1) (ls1 := [some (.ref 0), none, none, some (.int t20.1), some (.int t20.2), some (.int y5), some (.int (y6 + (1 : Int32))), none]) dX5_mends_157 rfl rfl (Nat.le_of_ble_eq_true rfl) rfl ?_
          refine v_goto (tgt := 86) dX5_mends_160 rfl ?_
          refine V.sub (ls' := [some (.ref 0), none, none, some (.int t20.1), some (.int t20.2), some (.int y5), some (.int (y6 + (1 : Int32))), none]) (And.intro rfl (And.intro rfl (And.intro rfl (And.intro rfl (And.intro rfl trivial))))) ?_
          exact ih _ _ _ h
        clear h
        have h := e21
        clear e21
        refine v_icmp_ge (tgt := 157) dX5_mends_129 rfl (fun c19 => ?_) (fun c19 => ?_)
        · replace h := (if_pos c19).symm.trans h
          replace h := Option.some.inj h; subst h
          refine V.sub (ls' := [some (.ref 0), none, none, some (.int y3), some (.int y4), some (.int y5), some (.int y6), none]) (And.intro rfl (And.intro rfl (And.intro rfl (And.intro rfl (And.intro rfl trivial))))) ?_
          exact hJ
        · replace h := (if_neg c19).symm.trans h
          refine v_aload_n dX5_mends_132 rfl ?_
          refine v_getr dX5_mends_133 flX5_12 sh_0 rfl ?_
          refine v_iload dX5_mends_136 rfl ?_
          obtain ⟨v22, e23, h⟩ := Option.bind_eq_some_iff.mp h
          refine v_callV (as := [.int y6]) (st := []) (sX0_isFree e23) dX5_mends_138 mlX5_100 (CRn (by decide) (by decide)) sh_1 rfl rfl rfl (Nat.le_of_ble_eq_true rfl) ?_
          refine v_if_eq (tgt := 157) dX5_mends_141 rfl (fun c24 => ?_) (fun c24 => ?_)
          · replace h := (if_pos c24).symm.trans h
            replace h := Option.some.inj h; subst h
            refine V.sub (ls' := [some (.ref 0), none, none, some (.int y3), some (.int y4), some (.int y5), some (.int y6), none]) (And.intro rfl (And.intro rfl (And.intro rfl (And.intro rfl (And.intro rfl trivial))))) ?_
            exact hJ
          · replace h := (if_neg c24).symm.trans h
            refine v_iload dX5_mends_144 rfl ?_
            refine v_istore_n (ls1 := [some (.ref 0), none, none, some (.int v16), some (.int y4), some (.int y5), some (.int y6), some (.int v16)]) dX5_mends_146 (Nat.le_of_ble_eq_true rfl) rfl ?_
            refine v_bipush (v := 64) dX5_mends_147 rfl ?_
            refine v_iload dX5_mends_149 rfl ?_
            refine v_imul dX5_mends_151 ?_
            refine v_iload dX5_mends_152 rfl ?_
            refine v_iadd dX5_mends_154 ?_
            refine v_istore (ls1 := [some (.ref 0), none, none, some (.int v16), some (.int (((64 : Int32) * y5) + y6)), some (.int y5), some (.int y6), some (.int v16)]) dX5_mends_155 (Nat.le_of_ble_eq_true rfl) rfl ?_
            replace h := Option.some.inj h; subst h
            refine V.sub (ls' := [some (.ref 0), none, none, some (.int v16), some (.int (((64 : Int32) * y5) + y6)), some (.int y5), some (.int y6), none]) (And.intro rfl (And.intro rfl (And.intro rfl (And.intro rfl (And.intro rfl trivial))))) ?_
            exact hJ
set_option maxRecDepth 100000 in
set_option maxHeartbeats 4000000 in
theorem tX5_mends_68 {g : Wo} {ρ : Type} {kx : Int32 → Option ρ} {M : Mem} {r : ρ} {rr : Option Value} {Mr : Mem} (hk : ∀ (z4 : Int32), kx z4 = some r → V g kX5_mends (jm g 4 rr Mr) 169 [some (.ref 0), none, none, none, some (.int z4), none, none, none] [] M) : ∀ (n : Nat) (y3 : Int32) (y4 : Int32) (y5 : Int32), fX5_mends_68 kx M n y3 y4 y5 = some r → V g kX5_mends (jm g 4 rr Mr) 68 [some (.ref 0), none, none, some (.int y3), some (.int y4), some (.int y5), none, none] [] M := by
  intro n
  induction n with
  | zero =>
    intro y3 y4 y5 h
    rw [fX5_mends_68] at h
    cases h
  | succ n ih =>
    intro y3 y4 y5 h
    rw [fX5_mends_68] at h
    refine v_iload dX5_mends_68 rfl ?_
    refine v_aload_n dX5_mends_70 rfl ?_
    refine v_getr dX5_mends_71 flX5_12 sh_0 rfl ?_
    refine v_callV (as := []) (st := [.int y5]) (sX0_ways rfl) dX5_mends_74 mlX5_207 (CRn (by decide) (by decide)) sh_1 rfl rfl rfl (Nat.le_of_ble_eq_true rfl) ?_
    refine v_icmp_ge (tgt := 169) dX5_mends_77 rfl (fun c11 => ?_) (fun c11 => ?_)
    · replace h := (if_pos c11).symm.trans h
      refine V.sub (ls' := [some (.ref 0), none, none, none, some (.int y4), none, none, none]) (And.intro rfl (And.intro rfl trivial)) ?_
      exact hk _ h
    · replace h := (if_neg c11).symm.trans h
      refine v_iload dX5_mends_80 rfl ?_
      refine v_iconst (v := 1) dX5_mends_82 rfl ?_
      refine v_iadd dX5_mends_83 ?_
      refine v_istore (ls1 := [some (.ref 0), none, none, some (.int y3), some (.int y4), some (.int y5), some (.int (y5 + (1 : Int32))), none]) dX5_mends_84 (Nat.le_of_ble_eq_true rfl) rfl ?_
      refine V.sub (ls' := [some (.ref 0), none, none, some (.int y3), some (.int y4), some (.int y5), some (.int (y5 + (1 : Int32))), none]) (And.intro rfl (And.intro rfl (And.intro rfl (And.intro rfl (And.intro rfl trivial))))) ?_
      refine tX5_mends_86 (fun u25 u26 h => ?_) FU _ _ _ h
      refine v_iinc (v := 1) (ls1 := [some (.ref 0), none, none, some (.int u25), some (.int u26), some (.int (y5 + (1 : Int32))), none, none]) dX5_mends_163 rfl rfl (Nat.le_of_ble_eq_true rfl) rfl ?_
      refine v_goto (tgt := 68) dX5_mends_166 rfl ?_
      refine V.sub (ls' := [some (.ref 0), none, none, some (.int u25), some (.int u26), some (.int (y5 + (1 : Int32))), none, none]) (And.intro rfl (And.intro rfl (And.intro rfl (And.intro rfl trivial)))) ?_
      exact ih _ _ _ h
set_option maxRecDepth 100000 in
set_option maxHeartbeats 4000000 in
theorem sX5_mends {g : Wo} {M : Mem} {x1 : Int32} {x2 : Int32} {r : Int32 × Mem} (h : fX5_mends x1 x2 M = some r) : Sp g kX5_mends 4 [.ref 0, .int x1, .int x2] M (some (.int r.1)) r.2 := by
  rw [fX5_mends] at h
  refine Sp_intro (by decide) [some (.ref 0), some (.int x1), some (.int x2), none, none, none, none, none] rfl (Nat.le_of_ble_eq_true rfl) ?_
  refine v_aload_n dX5_mends_0 rfl ?_
  refine v_getr dX5_mends_1 flX5_12 sh_0 rfl ?_
  refine v_iload_n dX5_mends_4 rfl ?_
  refine v_callV (as := [.int x1]) (st := []) (sX0_hasField rfl) dX5_mends_5 mlX5_76 (CRn (by decide) (by decide)) sh_1 rfl rfl rfl (Nat.le_of_ble_eq_true rfl) ?_
  refine v_if_eq (tgt := 22) dX5_mends_8 rfl (fun c1 => ?_) (fun c1 => ?_)
  · replace h := (if_pos c1).symm.trans h
    refine v_aload_n dX5_mends_22 rfl ?_
    refine v_ldc (v := -1000000001) dX5_mends_23 w_175 ?_
    obtain ⟨w2, e3, h⟩ := Option.bind_eq_some_iff.mp h
    refine v_callV (as := [.int (-1000000001 : Int32)]) (st := []) (sX5_tell e3) dX5_mends_25 mlX5_64 (CRn (by decide) (by decide)) sh_0 rfl rfl rfl (Nat.le_of_ble_eq_true rfl) ?_
    replace h := Option.some.inj h; subst h
    exact v_iret rfl dX5_mends_28
  · replace h := (if_neg c1).symm.trans h
    refine v_aload_n dX5_mends_11 rfl ?_
    refine v_getr dX5_mends_12 flX5_12 sh_0 rfl ?_
    refine v_iload_n dX5_mends_15 rfl ?_
    refine v_callV (as := [.int x2]) (st := []) (sX0_hasField rfl) dX5_mends_16 mlX5_76 (CRn (by decide) (by decide)) sh_1 rfl rfl rfl (Nat.le_of_ble_eq_true rfl) ?_
    refine v_if_ne (tgt := 29) dX5_mends_19 rfl (fun c4 => ?_) (fun c4 => ?_)
    · replace h := (if_neg c4).symm.trans h
      refine v_aload_n dX5_mends_29 rfl ?_
      refine v_getr dX5_mends_30 flX5_12 sh_0 rfl ?_
      refine v_aload_n dX5_mends_33 rfl ?_
      refine v_getr dX5_mends_34 flX5_32 sh_0 rfl ?_
      refine v_iload_n dX5_mends_37 rfl ?_
      refine v_iconst (v := 0) dX5_mends_38 rfl ?_
      obtain ⟨w5, e6, h⟩ := Option.bind_eq_some_iff.mp h
      refine v_callV (as := [.ref 33, .int x1, .int (0 : Int32)]) (st := []) (sX0_spread (isI_of sh_33) e6) dX5_mends_39 mlX5_210 (CRn (by decide) (by decide)) sh_1 rfl rfl rfl (Nat.le_of_ble_eq_true rfl) ?_
      refine v_aload_n dX5_mends_42 rfl ?_
      refine v_getr dX5_mends_43 flX5_12 sh_0 rfl ?_
      refine v_aload_n dX5_mends_46 rfl ?_
      refine v_getr dX5_mends_47 flX5_36 sh_0 rfl ?_
      refine v_iload_n dX5_mends_50 rfl ?_
      refine v_iconst (v := 0) dX5_mends_51 rfl ?_
      obtain ⟨w7, e8, h⟩ := Option.bind_eq_some_iff.mp h
      refine v_callV (as := [.ref 34, .int x2, .int (0 : Int32)]) (st := []) (sX0_spread (isI_of sh_34) e8) dX5_mends_52 mlX5_210 (CRn (by decide) (by decide)) sh_1 rfl rfl rfl (Nat.le_of_ble_eq_true rfl) ?_
      refine v_aload_n dX5_mends_55 rfl ?_
      refine v_getr dX5_mends_56 flX5_32 sh_0 rfl ?_
      refine v_iload_n dX5_mends_59 rfl ?_
      obtain ⟨v9, e10, h⟩ := Option.bind_eq_some_iff.mp h
      refine v_ild e10 dX5_mends_60 sh_33 ?_
      refine v_istore_n (ls1 := [some (.ref 0), some (.int x1), some (.int x2), some (.int v9), none, none, none, none]) dX5_mends_61 (Nat.le_of_ble_eq_true rfl) rfl ?_
      refine v_iconst (v := -1) dX5_mends_62 rfl ?_
      refine v_istore (ls1 := [some (.ref 0), some (.int x1), some (.int x2), some (.int v9), some (.int (-1 : Int32)), none, none, none]) dX5_mends_63 (Nat.le_of_ble_eq_true rfl) rfl ?_
      refine v_iconst (v := 0) dX5_mends_65 rfl ?_
      refine v_istore (ls1 := [some (.ref 0), some (.int x1), some (.int x2), some (.int v9), some (.int (-1 : Int32)), some (.int (0 : Int32)), none, none]) dX5_mends_66 (Nat.le_of_ble_eq_true rfl) rfl ?_
      refine V.sub (ls' := [some (.ref 0), none, none, some (.int v9), some (.int (-1 : Int32)), some (.int (0 : Int32)), none, none]) (And.intro rfl (And.intro rfl (And.intro rfl (And.intro rfl trivial)))) ?_
      refine tX5_mends_68 (fun u27 h => ?_) FU _ _ _ h
      refine v_aload_n dX5_mends_169 rfl ?_
      refine v_iload dX5_mends_170 rfl ?_
      obtain ⟨w28, e29, h⟩ := Option.bind_eq_some_iff.mp h
      refine v_callV (as := [.int u27]) (st := []) (sX5_numberOrNone e29) dX5_mends_172 mlX5_114 (CRn (by decide) (by decide)) sh_0 rfl rfl rfl (Nat.le_of_ble_eq_true rfl) ?_
      replace h := Option.some.inj h; subst h
      exact v_iret rfl dX5_mends_175
    · replace h := (if_pos c4).symm.trans h
      refine v_aload_n dX5_mends_22 rfl ?_
      refine v_ldc (v := -1000000001) dX5_mends_23 w_175 ?_
      obtain ⟨w30, e31, h⟩ := Option.bind_eq_some_iff.mp h
      refine v_callV (as := [.int (-1000000001 : Int32)]) (st := []) (sX5_tell e31) dX5_mends_25 mlX5_64 (CRn (by decide) (by decide)) sh_0 rfl rfl rfl (Nat.le_of_ble_eq_true rfl) ?_
      replace h := Option.some.inj h; subst h
      exact v_iret rfl dX5_mends_28
/-! ===== BentPlain$Tape.add(I)V ===== -/
def fX2_add (x1 : Int32) (M : Mem) : Option Mem := (if (120 : Int32) ≤ (M.1 36 0) then some M else ((stI M 37 120 (M.1 36 0) x1).bind fun M2 => some (setI M2 36 0 ((M2.1 36 0) + (1 : Int32)))))
set_option maxRecDepth 100000 in
set_option maxHeartbeats 4000000 in
theorem sX2_add {g : Wo} {M : Mem} {x1 : Int32} {r : Mem} (h : fX2_add x1 M = some r) : Sp g kX2_add 0 [.ref 36, .int x1] M none r := by
  rw [fX2_add] at h
  refine Sp_intro (by decide) [some (.ref 36), some (.int x1)] rfl (Nat.le_of_ble_eq_true rfl) ?_
  refine v_aload_n dX2_add_0 rfl ?_
  refine v_geti dX2_add_1 flX2_15 sh_36 rfl ?_
  refine v_bipush (v := 120) dX2_add_4 rfl ?_
  refine v_icmp_ge (tgt := 29) dX2_add_6 rfl (fun c1 => ?_) (fun c1 => ?_)
  · replace h := (if_pos c1).symm.trans h
    replace h := Option.some.inj h; subst h
    exact v_vret rfl dX2_add_29
  · replace h := (if_neg c1).symm.trans h
    refine v_aload_n dX2_add_9 rfl ?_
    refine v_getr dX2_add_10 flX2_9 sh_36 rfl ?_
    refine v_aload_n dX2_add_13 rfl ?_
    refine v_geti dX2_add_14 flX2_15 sh_36 rfl ?_
    refine v_iload_n dX2_add_17 rfl ?_
    obtain ⟨M2, e3, h⟩ := Option.bind_eq_some_iff.mp h
    refine v_ist e3 dX2_add_18 sh_37 ?_
    refine v_aload_n dX2_add_19 rfl ?_
    refine v_dup dX2_add_20 rfl ?_
    refine v_geti dX2_add_21 flX2_15 sh_36 rfl ?_
    refine v_iconst (v := 1) dX2_add_24 rfl ?_
    refine v_iadd dX2_add_25 ?_
    refine v_puti dX2_add_26 fpX2_15 sh_36 rfl ?_
    replace h := Option.some.inj h; subst h
    exact v_vret rfl dX2_add_29
/-! ===== BentPlain.feed(II)I ===== -/
def fX5_feed_42 {ρ : Type} (kx : Mem → Option ρ) (y1 : Int32) : Nat → Int32 → Mem → Option ρ
  | 0, _, _ => none
  | n + 1, y3, M => (if y3 < 0 then (kx M) else ((fX2_add ((y1 >>> (((8 : Int32) * y3) &&& 31)) &&& (255 : Int32)) M).bind fun w7 => (fX5_feed_42 kx y1 n (y3 + (-1 : Int32)) w7)))
def fX5_feed (x1 : Int32) (x2 : Int32) (M : Mem) : Option (Int32 × Mem) := (if x2 < (1 : Int32) then ((fX5_tell (-1000000001 : Int32) M).bind fun w2 => some (w2.1, w2.2)) else (if x2 ≤ (4 : Int32) then (if ((M.1 36 0) + x2) ≤ (120 : Int32) then (fX5_feed_42 (fun M9 => some ((M9.1 36 0), M9)) x1 FU (x2 - (1 : Int32)) M) else ((fX5_tell (-1000000002 : Int32) M).bind fun w10 => some (w10.1, w10.2))) else ((fX5_tell (-1000000001 : Int32) M).bind fun w12 => some (w12.1, w12.2))))
set_option maxRecDepth 100000 in
set_option maxHeartbeats 4000000 in
theorem tX5_feed_42 {g : Wo} {ρ : Type} {kx : Mem → Option ρ} {y1 : Int32} {r : ρ} {rr : Option Value} {Mr : Mem} (hk : ∀ (Mx : Mem), kx Mx = some r → V g kX5_feed (jm g 1 rr Mr) 69 [some (.ref 0), none, none, none] [] Mx) : ∀ (n : Nat) (y3 : Int32) (M : Mem), fX5_feed_42 kx y1 n y3 M = some r → V g kX5_feed (jm g 1 rr Mr) 42 [some (.ref 0), some (.int y1), none, some (.int y3)] [] M := by
  intro n
  induction n with
  | zero =>
    intro y3 M h
    rw [fX5_feed_42] at h
    cases h
  | succ n ih =>
    intro y3 M h
    rw [fX5_feed_42] at h
    refine v_iload_n dX5_feed_42 rfl ?_
    refine v_if_lt (tgt := 69) dX5_feed_43 rfl (fun c6 => ?_) (fun c6 => ?_)
    · replace h := (if_pos c6).symm.trans h
      refine V.sub (ls' := [some (.ref 0), none, none, none]) (And.intro rfl trivial) ?_
      exact hk _ h
    · replace h := (if_neg c6).symm.trans h
      refine v_aload_n dX5_feed_46 rfl ?_
      refine v_getr dX5_feed_47 flX5_45 sh_0 rfl ?_
      refine v_iload_n dX5_feed_50 rfl ?_
      refine v_bipush (v := 8) dX5_feed_51 rfl ?_
      refine v_iload_n dX5_feed_53 rfl ?_
      refine v_imul dX5_feed_54 ?_
      refine v_ishr dX5_feed_55 ?_
      refine v_sipush (v := 255) dX5_feed_56 rfl ?_
      refine v_iand dX5_feed_59 ?_
      obtain ⟨w7, e8, h⟩ := Option.bind_eq_some_iff.mp h
      refine v_callV (as := [.int ((y1 >>> (((8 : Int32) * y3) &&& 31)) &&& (255 : Int32))]) (st := []) (sX2_add e8) dX5_feed_60 mlX5_238 (CRn (by decide) (by decide)) sh_36 rfl rfl rfl (Nat.le_of_ble_eq_true rfl) ?_
      refine v_iinc (v := -1) (ls1 := [some (.ref 0), some (.int y1), none, some (.int (y3 + (-1 : Int32)))]) dX5_feed_63 rfl rfl (Nat.le_of_ble_eq_true rfl) rfl ?_
      refine v_goto (tgt := 42) dX5_feed_66 rfl ?_
      refine V.sub (ls' := [some (.ref 0), some (.int y1), none, some (.int (y3 + (-1 : Int32)))]) (And.intro rfl (And.intro rfl (And.intro rfl trivial))) ?_
      exact ih _ _ h
set_option maxRecDepth 100000 in
set_option maxHeartbeats 4000000 in
theorem sX5_feed {g : Wo} {M : Mem} {x1 : Int32} {x2 : Int32} {r : Int32 × Mem} (h : fX5_feed x1 x2 M = some r) : Sp g kX5_feed 1 [.ref 0, .int x1, .int x2] M (some (.int r.1)) r.2 := by
  rw [fX5_feed] at h
  refine Sp_intro (by decide) [some (.ref 0), some (.int x1), some (.int x2), none] rfl (Nat.le_of_ble_eq_true rfl) ?_
  refine v_iload_n dX5_feed_0 rfl ?_
  refine v_iconst (v := 1) dX5_feed_1 rfl ?_
  refine v_icmp_lt (tgt := 10) dX5_feed_2 rfl (fun c1 => ?_) (fun c1 => ?_)
  · replace h := (if_pos c1).symm.trans h
    refine v_aload_n dX5_feed_10 rfl ?_
    refine v_ldc (v := -1000000001) dX5_feed_11 w_175 ?_
    obtain ⟨w2, e3, h⟩ := Option.bind_eq_some_iff.mp h
    refine v_callV (as := [.int (-1000000001 : Int32)]) (st := []) (sX5_tell e3) dX5_feed_13 mlX5_64 (CRn (by decide) (by decide)) sh_0 rfl rfl rfl (Nat.le_of_ble_eq_true rfl) ?_
    replace h := Option.some.inj h; subst h
    exact v_iret rfl dX5_feed_16
  · replace h := (if_neg c1).symm.trans h
    refine v_iload_n dX5_feed_5 rfl ?_
    refine v_iconst (v := 4) dX5_feed_6 rfl ?_
    refine v_icmp_le (tgt := 17) dX5_feed_7 rfl (fun c4 => ?_) (fun c4 => ?_)
    · replace h := (if_pos c4).symm.trans h
      refine v_aload_n dX5_feed_17 rfl ?_
      refine v_getr dX5_feed_18 flX5_45 sh_0 rfl ?_
      refine v_geti dX5_feed_21 flX5_235 sh_36 rfl ?_
      refine v_iload_n dX5_feed_24 rfl ?_
      refine v_iadd dX5_feed_25 ?_
      refine v_bipush (v := 120) dX5_feed_26 rfl ?_
      refine v_icmp_le (tgt := 38) dX5_feed_28 rfl (fun c5 => ?_) (fun c5 => ?_)
      · replace h := (if_pos c5).symm.trans h
        refine v_iload_n dX5_feed_38 rfl ?_
        refine v_iconst (v := 1) dX5_feed_39 rfl ?_
        refine v_isub dX5_feed_40 ?_
        refine v_istore_n (ls1 := [some (.ref 0), some (.int x1), some (.int x2), some (.int (x2 - (1 : Int32)))]) dX5_feed_41 (Nat.le_of_ble_eq_true rfl) rfl ?_
        refine V.sub (ls' := [some (.ref 0), some (.int x1), none, some (.int (x2 - (1 : Int32)))]) (And.intro rfl (And.intro rfl (And.intro rfl trivial))) ?_
        refine tX5_feed_42 (fun M9 h => ?_) FU _ _ h
        refine v_aload_n dX5_feed_69 rfl ?_
        refine v_getr dX5_feed_70 flX5_45 sh_0 rfl ?_
        refine v_geti dX5_feed_73 flX5_235 sh_36 rfl ?_
        replace h := Option.some.inj h; subst h
        exact v_iret rfl dX5_feed_76
      · replace h := (if_neg c5).symm.trans h
        refine v_aload_n dX5_feed_31 rfl ?_
        refine v_ldc (v := -1000000002) dX5_feed_32 w_180 ?_
        obtain ⟨w10, e11, h⟩ := Option.bind_eq_some_iff.mp h
        refine v_callV (as := [.int (-1000000002 : Int32)]) (st := []) (sX5_tell e11) dX5_feed_34 mlX5_64 (CRn (by decide) (by decide)) sh_0 rfl rfl rfl (Nat.le_of_ble_eq_true rfl) ?_
        replace h := Option.some.inj h; subst h
        exact v_iret rfl dX5_feed_37
    · replace h := (if_neg c4).symm.trans h
      refine v_aload_n dX5_feed_10 rfl ?_
      refine v_ldc (v := -1000000001) dX5_feed_11 w_175 ?_
      obtain ⟨w12, e13, h⟩ := Option.bind_eq_some_iff.mp h
      refine v_callV (as := [.int (-1000000001 : Int32)]) (st := []) (sX5_tell e13) dX5_feed_13 mlX5_64 (CRn (by decide) (by decide)) sh_0 rfl rfl rfl (Nat.le_of_ble_eq_true rfl) ?_
      replace h := Option.some.inj h; subst h
      exact v_iret rfl dX5_feed_16
