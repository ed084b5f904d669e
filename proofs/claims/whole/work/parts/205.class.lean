/-! ===== BentPlain$Ground.roundCorner(I)J ===== -/
def fX0_roundCorner_8 (kx : Option Int64) (y1 : Int32) (M : Mem) : Nat → Int64 → Int32 → Int32 → Option Int64
  | 0, _, _, _ => none
  | n + 1, y2, y4, y5 => (if (64 : Int32) ≤ y5 then kx else ((fX0_gluedTo y4 M).bind fun v2 => (if v2 = (-1 : Int32) then some (0 : Int64) else (if (fX5_turned v2 (3 : Int32)) = y1 then some (y2 ||| ((1 : Int64) <<< (y4.toInt64 &&& 63))) else (fX0_roundCorner_8 kx y1 M n (y2 ||| ((1 : Int64) <<< (y4.toInt64 &&& 63))) (fX5_turned v2 (3 : Int32)) (y5 + (1 : Int32)))))))
def fX0_roundCorner (x1 : Int32) (M : Mem) : Option Int64 := (fX0_roundCorner_8 (some (0 : Int64)) x1 M FU (0 : Int64) x1 (0 : Int32))
set_option maxRecDepth 100000 in
set_option maxHeartbeats 4000000 in
theorem tX0_roundCorner_8 {g : Wo} {kx : Option Int64} {y1 : Int32} {M : Mem} {r : Int64} (hk : kx = some r → V g kX0_roundCorner (jm g 2 (some (.long r)) M) 60 [none, none, none, none, none, none, none] [] M) : ∀ (n : Nat) (y2 : Int64) (y4 : Int32) (y5 : Int32), fX0_roundCorner_8 kx y1 M n y2 y4 y5 = some r → V g kX0_roundCorner (jm g 2 (some (.long r)) M) 8 [some (.ref 1), some (.int y1), some (.long y2), none, some (.int y4), some (.int y5), none] [] M := by
  intro n
  induction n with
  | zero =>
    intro y2 y4 y5 h
    rw [fX0_roundCorner_8] at h
    cases h
  | succ n ih =>
    intro y2 y4 y5 h
    rw [fX0_roundCorner_8] at h
    refine v_iload dX0_roundCorner_8 rfl ?_
    refine v_bipush (v := 64) dX0_roundCorner_10 rfl ?_
    refine v_icmp_ge (tgt := 60) dX0_roundCorner_12 rfl (fun c1 => ?_) (fun c1 => ?_)
    · replace h := (if_pos c1).symm.trans h
      refine V.sub (ls' := [none, none, none, none, none, none, none]) trivial ?_
      exact hk h
    · replace h := (if_neg c1).symm.trans h
      refine v_lload_n dX0_roundCorner_15 rfl ?_
      refine v_lconst (v := 1) dX0_roundCorner_16 rfl ?_
      refine v_iload dX0_roundCorner_17 rfl ?_
      refine v_lshl dX0_roundCorner_19 ?_
      refine v_lor dX0_roundCorner_20 ?_
      refine v_lstore_n (ls1 := [some (.ref 1), some (.int y1), some (.long (y2 ||| ((1 : Int64) <<< (y4.toInt64 &&& 63)))), none, some (.int y4), some (.int y5), none]) dX0_roundCorner_21 (Nat.le_of_ble_eq_true rfl) rfl ?_
      refine v_aload_n dX0_roundCorner_22 rfl ?_
      refine v_iload dX0_roundCorner_23 rfl ?_
      obtain ⟨v2, e3, h⟩ := Option.bind_eq_some_iff.mp h
      refine v_callV (as := [.int y4]) (st := []) (sX0_gluedTo e3) dX0_roundCorner_25 mlX0_58 (CRn (by decide) (by decide)) sh_1 rfl rfl rfl (Nat.le_of_ble_eq_true rfl) ?_
      refine v_istore (ls1 := [some (.ref 1), some (.int y1), some (.long (y2 ||| ((1 : Int64) <<< (y4.toInt64 &&& 63)))), none, some (.int y4), some (.int y5), some (.int v2)]) dX0_roundCorner_28 (Nat.le_of_ble_eq_true rfl) rfl ?_
      refine v_iload dX0_roundCorner_30 rfl ?_
      refine v_iconst (v := -1) dX0_roundCorner_32 rfl ?_
      refine v_icmp_ne (tgt := 38) dX0_roundCorner_33 rfl (fun c4 => ?_) (fun c4 => ?_)
      · replace h := (if_neg c4).symm.trans h
        refine v_iload dX0_roundCorner_38 rfl ?_
        refine v_iconst (v := 3) dX0_roundCorner_40 rfl ?_
        refine v_callN (as := [.int v2, .int (3 : Int32)]) (st := []) (sX5_turned rfl) dX0_roundCorner_41 mlX0_74 (CRn (by decide) (by decide)) rfl rfl (Nat.le_of_ble_eq_true rfl) ?_
        refine v_istore (ls1 := [some (.ref 1), some (.int y1), some (.long (y2 ||| ((1 : Int64) <<< (y4.toInt64 &&& 63)))), none, some (.int (fX5_turned v2 (3 : Int32))), some (.int y5), some (.int v2)]) dX0_roundCorner_44 (Nat.le_of_ble_eq_true rfl) rfl ?_
        refine v_iload dX0_roundCorner_46 rfl ?_
        refine v_iload_n dX0_roundCorner_48 rfl ?_
        refine v_icmp_ne (tgt := 54) dX0_roundCorner_49 rfl (fun c5 => ?_) (fun c5 => ?_)
        · replace h := (if_neg c5).symm.trans h
          refine v_iinc (v := 1) (ls1 := [some (.ref 1), some (.int y1), some (.long (y2 ||| ((1 : Int64) <<< (y4.toInt64 &&& 63)))), none, some (.int (fX5_turned v2 (3 : Int32))), some (.int (y5 + (1 : Int32))), some (.int v2)]) dX0_roundCorner_54 rfl rfl (Nat.le_of_ble_eq_true rfl) rfl ?_
          refine v_goto (tgt := 8) dX0_roundCorner_57 rfl ?_
          refine V.sub (ls' := [some (.ref 1), some (.int y1), some (.long (y2 ||| ((1 : Int64) <<< (y4.toInt64 &&& 63)))), none, some (.int (fX5_turned v2 (3 : Int32))), some (.int (y5 + (1 : Int32))), none]) (And.intro rfl (And.intro rfl (And.intro rfl (And.intro rfl (And.intro rfl trivial))))) ?_
          exact ih _ _ _ h
        · replace h := (if_pos c5).symm.trans h
          refine v_lload_n dX0_roundCorner_52 rfl ?_
          replace h := Option.some.inj h; subst h
          exact v_lret rfl dX0_roundCorner_53
      · replace h := (if_pos c4).symm.trans h
        refine v_lconst (v := 0) dX0_roundCorner_36 rfl ?_
        replace h := Option.some.inj h; subst h
        exact v_lret rfl dX0_roundCorner_37
set_option maxRecDepth 100000 in
set_option maxHeartbeats 4000000 in
theorem sX0_roundCorner {g : Wo} {M : Mem} {x1 : Int32} {r : Int64} (h : fX0_roundCorner x1 M = some r) : Sp g kX0_roundCorner 2 [.ref 1, .int x1] M (some (.long r)) M := by
  rw [fX0_roundCorner] at h
  refine Sp_intro (by decide) [some (.ref 1), some (.int x1), none, none, none, none, none] rfl (Nat.le_of_ble_eq_true rfl) ?_
  refine v_lconst (v := 0) dX0_roundCorner_0 rfl ?_
  refine v_lstore_n (ls1 := [some (.ref 1), some (.int x1), some (.long (0 : Int64)), none, none, none, none]) dX0_roundCorner_1 (Nat.le_of_ble_eq_true rfl) rfl ?_
  refine v_iload_n dX0_roundCorner_2 rfl ?_
  refine v_istore (ls1 := [some (.ref 1), some (.int x1), some (.long (0 : Int64)), none, some (.int x1), none, none]) dX0_roundCorner_3 (Nat.le_of_ble_eq_true rfl) rfl ?_
  refine v_iconst (v := 0) dX0_roundCorner_5 rfl ?_
  refine v_istore (ls1 := [some (.ref 1), some (.int x1), some (.long (0 : Int64)), none, some (.int x1), some (.int (0 : Int32)), none]) dX0_roundCorner_6 (Nat.le_of_ble_eq_true rfl) rfl ?_
  refine V.sub (ls' := [some (.ref 1), some (.int x1), some (.long (0 : Int64)), none, some (.int x1), some (.int (0 : Int32)), none]) (And.intro rfl (And.intro rfl (And.intro rfl (And.intro rfl (And.intro rfl trivial))))) ?_
  refine tX0_roundCorner_8 (fun h => ?_) FU _ _ _ h
  refine v_lconst (v := 0) dX0_roundCorner_60 rfl ?_
  replace h := Option.some.inj h; subst h
  exact v_lret rfl dX0_roundCorner_61
/-! ===== BentPlain.about(II)I ===== -/
def fX5_about (x1 : Int32) (x2 : Int32) (M : Mem) : Option (Int32 × Mem) := (if (fX0_hasWay x1 x2 M) = 0 then ((fX5_tell (-1000000001 : Int32) M).bind fun w7 => some (w7.1, w7.2)) else ((fX0_roundCorner (fX5_wayOf x1 x2) M).bind fun v2 => (if (lg_cmp v2 (0 : Int64)) = 0 then ((fX5_tell (-1000000004 : Int32) M).bind fun w5 => some (w5.1, w5.2)) else some ((fJ13_bitCount_95d88 v2), M))))
set_option maxRecDepth 100000 in
set_option maxHeartbeats 4000000 in
theorem sX5_about {g : Wo} {M : Mem} {x1 : Int32} {x2 : Int32} {r : Int32 × Mem} (h : fX5_about x1 x2 M = some r) : Sp g kX5_about 3 [.ref 0, .int x1, .int x2] M (some (.int r.1)) r.2 := by
  rw [fX5_about] at h
  refine Sp_intro (by decide) [some (.ref 0), some (.int x1), some (.int x2), none, none] rfl (Nat.le_of_ble_eq_true rfl) ?_
  refine v_aload_n dX5_about_0 rfl ?_
  refine v_getr dX5_about_1 flX5_12 sh_0 rfl ?_
  refine v_iload_n dX5_about_4 rfl ?_
  refine v_iload_n dX5_about_5 rfl ?_
  refine v_callV (as := [.int x1, .int x2]) (st := []) (sX0_hasWay rfl) dX5_about_6 mlX5_92 (CRn (by decide) (by decide)) sh_1 rfl rfl rfl (Nat.le_of_ble_eq_true rfl) ?_
  refine v_if_ne (tgt := 19) dX5_about_9 rfl (fun c1 => ?_) (fun c1 => ?_)
  · replace h := (if_neg c1).symm.trans h
    refine v_aload_n dX5_about_19 rfl ?_
    refine v_getr dX5_about_20 flX5_12 sh_0 rfl ?_
    refine v_iload_n dX5_about_23 rfl ?_
    refine v_iload_n dX5_about_24 rfl ?_
    refine v_callS (as := [.int x1, .int x2]) (st := [.ref 1]) (sX5_wayOf rfl) dX5_about_25 mlX5_96 (CRn (by decide) (by decide)) rfl rfl (Nat.le_of_ble_eq_true rfl) ?_
    obtain ⟨v2, e3, h⟩ := Option.bind_eq_some_iff.mp h
    refine v_callV (as := [.int (fX5_wayOf x1 x2)]) (st := []) (sX0_roundCorner e3) dX5_about_28 mlX5_195 (CRn (by decide) (by decide)) sh_1 rfl rfl rfl (Nat.le_of_ble_eq_true rfl) ?_
    refine v_lstore_n (ls1 := [some (.ref 0), some (.int x1), some (.int x2), some (.long v2), none]) dX5_about_31 (Nat.le_of_ble_eq_true rfl) rfl ?_
    refine v_lload_n dX5_about_32 rfl ?_
    refine v_lconst (v := 0) dX5_about_33 rfl ?_
    refine v_lcmp dX5_about_34 ?_
    refine v_if_ne (tgt := 47) dX5_about_35 rfl (fun c4 => ?_) (fun c4 => ?_)
    · replace h := (if_neg c4).symm.trans h
      refine v_lload_n dX5_about_47 rfl ?_
      refine v_callS (as := [.long v2]) (st := []) (sJ13_bitCount_95d88 rfl) dX5_about_48 mlX5_199 (CRn (by decide) (by decide)) rfl rfl (Nat.le_of_ble_eq_true rfl) ?_
      replace h := Option.some.inj h; subst h
      exact v_iret rfl dX5_about_51
    · replace h := (if_pos c4).symm.trans h
      refine v_aload_n dX5_about_38 rfl ?_
      refine v_ldc (v := -1000000004) dX5_about_39 w_264 ?_
      obtain ⟨w5, e6, h⟩ := Option.bind_eq_some_iff.mp h
      refine v_callV (as := [.int (-1000000004 : Int32)]) (st := []) (sX5_tell e6) dX5_about_41 mlX5_64 (CRn (by decide) (by decide)) sh_0 rfl rfl rfl (Nat.le_of_ble_eq_true rfl) ?_
      refine v_goto (tgt := 51) dX5_about_44 rfl ?_
      replace h := Option.some.inj h; subst h
      exact v_iret rfl dX5_about_51
  · replace h := (if_pos c1).symm.trans h
    refine v_aload_n dX5_about_12 rfl ?_
    refine v_ldc (v := -1000000001) dX5_about_13 w_175 ?_
    obtain ⟨w7, e8, h⟩ := Option.bind_eq_some_iff.mp h
    refine v_callV (as := [.int (-1000000001 : Int32)]) (st := []) (sX5_tell e8) dX5_about_15 mlX5_64 (CRn (by decide) (by decide)) sh_0 rfl rfl rfl (Nat.le_of_ble_eq_true rfl) ?_
    replace h := Option.some.inj h; subst h
    exact v_iret rfl dX5_about_18
/-! ===== BentPlain$Ground.sumOfCorners(II)I ===== -/
def fX0_sumOfCorners_8 {ρ : Type} (kx : Int32 → Option ρ) (y1 : Int32) (y2 : Int32) (M : Mem) : Nat → Int64 → Int32 → Int32 → Option ρ
  | 0, _, _, _ => none
  | n + 1, y3, y5, y6 => (if (fX0_ways M) ≤ y6 then (kx y5) else ((if (lg_cmp ((y3 >>> (y6.toInt64 &&& 63)) &&& (1 : Int64)) (0 : Int64)) = 0 then ((fX0_roundCorner y6 M).bind fun v6 => some ((y3 ||| v6), (y5 + (if (lg_cmp v6 (0 : Int64)) = 0 then (0 : Int32) else (y1 - (y2 * (fJ13_bitCount_95d88 v6))))))) else some (y3, y5)).bind fun t4 => (fX0_sumOfCorners_8 kx y1 y2 M n t4.1 t4.2 (y6 + (1 : Int32)))))
def fX0_sumOfCorners (x1 : Int32) (x2 : Int32) (M : Mem) : Option Int32 := (fX0_sumOfCorners_8 (fun u9 => some u9) x1 x2 M FU (0 : Int64) (0 : Int32) (0 : Int32))
set_option maxRecDepth 100000 in
set_option maxHeartbeats 4000000 in
theorem tX0_sumOfCorners_8 {g : Wo} {ρ : Type} {kx : Int32 → Option ρ} {y1 : Int32} {y2 : Int32} {M : Mem} {r : ρ} {rr : Option Value} {Mr : Mem} (hk : ∀ (z5 : Int32), kx z5 = some r → V g kX0_sumOfCorners (jm g 3 rr Mr) 72 [none, none, none, none, none, some (.int z5), none, none, none] [] M) : ∀ (n : Nat) (y3 : Int64) (y5 : Int32) (y6 : Int32), fX0_sumOfCorners_8 kx y1 y2 M n y3 y5 y6 = some r → V g kX0_sumOfCorners (jm g 3 rr Mr) 8 [some (.ref 1), some (.int y1), some (.int y2), some (.long y3), none, some (.int y5), some (.int y6), none, none] [] M := by
  intro n
  induction n with
  | zero =>
    intro y3 y5 y6 h
    rw [fX0_sumOfCorners_8] at h
    cases h
  | succ n ih =>
    intro y3 y5 y6 h
    rw [fX0_sumOfCorners_8] at h
    refine v_iload dX0_sumOfCorners_8 rfl ?_
    refine v_aload_n dX0_sumOfCorners_10 rfl ?_
    refine v_callV (as := []) (st := [.int y6]) (sX0_ways rfl) dX0_sumOfCorners_11 mlX0_54 (CRn (by decide) (by decide)) sh_1 rfl rfl rfl (Nat.le_of_ble_eq_true rfl) ?_
    refine v_icmp_ge (tgt := 72) dX0_sumOfCorners_14 rfl (fun c1 => ?_) (fun c1 => ?_)
    · replace h := (if_pos c1).symm.trans h
      refine V.sub (ls' := [none, none, none, none, none, some (.int y5), none, none, none]) (And.intro rfl trivial) ?_
      exact hk _ h
    · replace h := (if_neg c1).symm.trans h
      refine v_lload_n dX0_sumOfCorners_17 rfl ?_
      refine v_iload dX0_sumOfCorners_18 rfl ?_
      refine v_lshr dX0_sumOfCorners_20 ?_
      refine v_lconst (v := 1) dX0_sumOfCorners_21 rfl ?_
      refine v_land dX0_sumOfCorners_22 ?_
      refine v_lconst (v := 0) dX0_sumOfCorners_23 rfl ?_
      refine v_lcmp dX0_sumOfCorners_24 ?_
      obtain ⟨t4, e5, h⟩ := Option.bind_eq_some_iff.mp h
      have hJ : V g kX0_sumOfCorners (jm g 3 rr Mr) 66 [some (.ref 1), some (.int y1), some (.int y2), some (.long t4.1), none, some (.int t4.2), some (.int y6), none, none] [] M := by
        refine v_iinc (v := 1) (ls1 := [some (.ref 1), some (.int y1), some (.int y2), some (.long t4.1), none, some (.int t4.2), some (.int (y6 + (1 : Int32))), none, none]) dX0_sumOfCorners_66 rfl rfl (Nat.le_of_ble_eq_true rfl) rfl ?_
        refine v_goto (tgt := 8) dX0_sumOfCorners_69 rfl ?_
        refine V.sub (ls' := [some (.ref 1), some (.int y1), some (.int y2), some (.long t4.1), none, some (.int t4.2), some (.int (y6 + (1 : Int32))), none, none]) (And.intro rfl (And.intro rfl (And.intro rfl (And.intro rfl (And.intro rfl (And.intro rfl trivial)))))) ?_
        exact ih _ _ _ h
      clear h
      have h := e5
      clear e5
      refine v_if_ne (tgt := 66) dX0_sumOfCorners_25 rfl (fun c3 => ?_) (fun c3 => ?_)
      · replace h := (if_neg c3).symm.trans h
        replace h := Option.some.inj h; subst h
        refine V.sub (ls' := [some (.ref 1), some (.int y1), some (.int y2), some (.long y3), none, some (.int y5), some (.int y6), none, none]) (And.intro rfl (And.intro rfl (And.intro rfl (And.intro rfl (And.intro rfl (And.intro rfl trivial)))))) ?_
        exact hJ
      · replace h := (if_pos c3).symm.trans h
        refine v_aload_n dX0_sumOfCorners_28 rfl ?_
        refine v_iload dX0_sumOfCorners_29 rfl ?_
        obtain ⟨v6, e7, h⟩ := Option.bind_eq_some_iff.mp h
        refine v_callV (as := [.int y6]) (st := []) (sX0_roundCorner e7) dX0_sumOfCorners_31 mlX0_80 (CRn (by decide) (by decide)) sh_1 rfl rfl rfl (Nat.le_of_ble_eq_true rfl) ?_
        refine v_lstore (ls1 := [some (.ref 1), some (.int y1), some (.int y2), some (.long y3), none, some (.int y5), some (.int y6), some (.long v6), none]) dX0_sumOfCorners_34 (Nat.le_of_ble_eq_true rfl) rfl ?_
        refine v_iload dX0_sumOfCorners_36 rfl ?_
        refine v_lload dX0_sumOfCorners_38 rfl ?_
        refine v_lconst (v := 0) dX0_sumOfCorners_40 rfl ?_
        refine v_lcmp dX0_sumOfCorners_41 ?_
        have hJ : V g kX0_sumOfCorners (jm g 3 rr Mr) 58 [some (.ref 1), some (.int y1), some (.int y2), some (.long y3), none, none, some (.int y6), some (.long v6), none] [.int (if (lg_cmp v6 (0 : Int64)) = 0 then (0 : Int32) else (y1 - (y2 * (fJ13_bitCount_95d88 v6)))), .int y5] M := by
          refine v_iadd dX0_sumOfCorners_58 ?_
          refine v_istore (ls1 := [some (.ref 1), some (.int y1), some (.int y2), some (.long y3), none, some (.int (y5 + (if (lg_cmp v6 (0 : Int64)) = 0 then (0 : Int32) else (y1 - (y2 * (fJ13_bitCount_95d88 v6)))))), some (.int y6), some (.long v6), none]) dX0_sumOfCorners_59 (Nat.le_of_ble_eq_true rfl) rfl ?_
          refine v_lload_n dX0_sumOfCorners_61 rfl ?_
          refine v_lload dX0_sumOfCorners_62 rfl ?_
          refine v_lor dX0_sumOfCorners_64 ?_
          refine v_lstore_n (ls1 := [some (.ref 1), some (.int y1), some (.int y2), some (.long (y3 ||| v6)), none, some (.int (y5 + (if (lg_cmp v6 (0 : Int64)) = 0 then (0 : Int32) else (y1 - (y2 * (fJ13_bitCount_95d88 v6)))))), some (.int y6), some (.long v6), none]) dX0_sumOfCorners_65 (Nat.le_of_ble_eq_true rfl) rfl ?_
          replace h := Option.some.inj h; subst h
          refine V.sub (ls' := [some (.ref 1), some (.int y1), some (.int y2), some (.long (y3 ||| v6)), none, some (.int (y5 + (if (lg_cmp v6 (0 : Int64)) = 0 then (0 : Int32) else (y1 - (y2 * (fJ13_bitCount_95d88 v6)))))), some (.int y6), none, none]) (And.intro rfl (And.intro rfl (And.intro rfl (And.intro rfl (And.intro rfl (And.intro rfl trivial)))))) ?_
          exact hJ
        refine v_if_ne (tgt := 49) dX0_sumOfCorners_42 rfl (fun c8 => ?_) (fun c8 => ?_)
        · refine v_iload_n dX0_sumOfCorners_49 rfl ?_
          refine v_iload_n dX0_sumOfCorners_50 rfl ?_
          refine v_lload dX0_sumOfCorners_51 rfl ?_
          refine v_callS (as := [.long v6]) (st := [.int y2, .int y1, .int y5]) (sJ13_bitCount_95d88 rfl) dX0_sumOfCorners_53 mlX0_84 (CRn (by decide) (by decide)) rfl rfl (Nat.le_of_ble_eq_true rfl) ?_
          refine v_imul dX0_sumOfCorners_56 ?_
          refine v_isub dX0_sumOfCorners_57 ?_
          refine V.sub (ls' := [some (.ref 1), some (.int y1), some (.int y2), some (.long y3), none, none, some (.int y6), some (.long v6), none]) (And.intro rfl (And.intro rfl (And.intro rfl (And.intro rfl (And.intro rfl (And.intro rfl trivial)))))) ?_
          first | (simp only [if_neg c8] at hJ; exact hJ) | exact hJ | (simp only [if_neg c8] at hJ ⊢; exact hJ)
        · refine v_iconst (v := 0) dX0_sumOfCorners_45 rfl ?_
          refine v_goto (tgt := 58) dX0_sumOfCorners_46 rfl ?_
          refine V.sub (ls' := [some (.ref 1), some (.int y1), some (.int y2), some (.long y3), none, none, some (.int y6), some (.long v6), none]) (And.intro rfl (And.intro rfl (And.intro rfl (And.intro rfl (And.intro rfl (And.intro rfl trivial)))))) ?_
          first | (simp only [if_pos c8] at hJ; exact hJ) | exact hJ | (simp only [if_pos c8] at hJ ⊢; exact hJ)
set_option maxRecDepth 100000 in
set_option maxHeartbeats 4000000 in
theorem sX0_sumOfCorners {g : Wo} {M : Mem} {x1 : Int32} {x2 : Int32} {r : Int32} (h : fX0_sumOfCorners x1 x2 M = some r) : Sp g kX0_sumOfCorners 3 [.ref 1, .int x1, .int x2] M (some (.int r)) M := by
  rw [fX0_sumOfCorners] at h
  refine Sp_intro (by decide) [some (.ref 1), some (.int x1), some (.int x2), none, none, none, none, none, none] rfl (Nat.le_of_ble_eq_true rfl) ?_
  refine v_lconst (v := 0) dX0_sumOfCorners_0 rfl ?_
  refine v_lstore_n (ls1 := [some (.ref 1), some (.int x1), some (.int x2), some (.long (0 : Int64)), none, none, none, none, none]) dX0_sumOfCorners_1 (Nat.le_of_ble_eq_true rfl) rfl ?_
  refine v_iconst (v := 0) dX0_sumOfCorners_2 rfl ?_
  refine v_istore (ls1 := [some (.ref 1), some (.int x1), some (.int x2), some (.long (0 : Int64)), none, some (.int (0 : Int32)), none, none, none]) dX0_sumOfCorners_3 (Nat.le_of_ble_eq_true rfl) rfl ?_
  refine v_iconst (v := 0) dX0_sumOfCorners_5 rfl ?_
  refine v_istore (ls1 := [some (.ref 1), some (.int x1), some (.int x2), some (.long (0 : Int64)), none, some (.int (0 : Int32)), some (.int (0 : Int32)), none, none]) dX0_sumOfCorners_6 (Nat.le_of_ble_eq_true rfl) rfl ?_
  refine V.sub (ls' := [some (.ref 1), some (.int x1), some (.int x2), some (.long (0 : Int64)), none, some (.int (0 : Int32)), some (.int (0 : Int32)), none, none]) (And.intro rfl (And.intro rfl (And.intro rfl (And.intro rfl (And.intro rfl (And.intro rfl trivial)))))) ?_
  refine tX0_sumOfCorners_8 (fun u9 h => ?_) FU _ _ _ h
  refine v_iload dX0_sumOfCorners_72 rfl ?_
  replace h := Option.some.inj h; subst h
  exact v_iret rfl dX0_sumOfCorners_74
/-! ===== BentPlain.corners()I ===== -/
def fX5_corners (M : Mem) : Option Int32 := ((fX0_sumOfCorners (1 : Int32) (0 : Int32) M).bind fun v1 => some v1)
set_option maxRecDepth 100000 in
set_option maxHeartbeats 4000000 in
theorem sX5_corners {g : Wo} {M : Mem} {r : Int32} (h : fX5_corners M = some r) : Sp g kX5_corners 4 [.ref 0] M (some (.int r)) M := by
  rw [fX5_corners] at h
  refine Sp_intro (by decide) [some (.ref 0)] rfl (Nat.le_of_ble_eq_true rfl) ?_
  refine v_aload_n dX5_corners_0 rfl ?_
  refine v_getr dX5_corners_1 flX5_12 sh_0 rfl ?_
  refine v_iconst (v := 1) dX5_corners_4 rfl ?_
  refine v_iconst (v := 0) dX5_corners_5 rfl ?_
  obtain ⟨v1, e2, h⟩ := Option.bind_eq_some_iff.mp h
  refine v_callV (as := [.int (1 : Int32), .int (0 : Int32)]) (st := []) (sX0_sumOfCorners e2) dX5_corners_6 mlX5_204 (CRn (by decide) (by decide)) sh_1 rfl rfl rfl (Nat.le_of_ble_eq_true rfl) ?_
  replace h := Option.some.inj h; subst h
  exact v_iret rfl dX5_corners_9
/-! ===== BentPlain.excess()I ===== -/
def fX5_excess (M : Mem) : Option Int32 := ((fX0_sumOfCorners (4 : Int32) (1 : Int32) M).bind fun v1 => some v1)
set_option maxRecDepth 100000 in
set_option maxHeartbeats 4000000 in
theorem sX5_excess {g : Wo} {M : Mem} {r : Int32} (h : fX5_excess M = some r) : Sp g kX5_excess 4 [.ref 0] M (some (.int r)) M := by
  rw [fX5_excess] at h
  refine Sp_intro (by decide) [some (.ref 0)] rfl (Nat.le_of_ble_eq_true rfl) ?_
  refine v_aload_n dX5_excess_0 rfl ?_
  refine v_getr dX5_excess_1 flX5_12 sh_0 rfl ?_
  refine v_iconst (v := 4) dX5_excess_4 rfl ?_
  refine v_iconst (v := 1) dX5_excess_5 rfl ?_
  obtain ⟨v1, e2, h⟩ := Option.bind_eq_some_iff.mp h
  refine v_callV (as := [.int (4 : Int32), .int (1 : Int32)]) (st := []) (sX0_sumOfCorners e2) dX5_excess_6 mlX5_204 (CRn (by decide) (by decide)) sh_1 rfl rfl rfl (Nat.le_of_ble_eq_true rfl) ?_
  replace h := Option.some.inj h; subst h
  exact v_iret rfl dX5_excess_9
/-! ===== BentPlain.bent()I ===== -/
def fX5_bent_4 {ρ : Type} (kx : Int32 → Option ρ) (M : Mem) : Nat → Int32 → Int32 → Option ρ
  | 0, _, _ => none
  | n + 1, y1, y2 => (if (fX0_ways M) ≤ y2 then (kx y1) else ((fX0_roundCorner y2 M).bind fun v2 => (fX5_bent_4 kx M n (if (lg_cmp v2 (0 : Int64)) = 0 then y1 else (if (fJ13_bitCount_95d88 v2) = (4 : Int32) then y1 else (y1 ||| ((1 : Int32) <<< ((fX5_fieldOf y2) &&& 31))))) (y2 + (1 : Int32)))))
def fX5_bent (M : Mem) : Option Int32 := (fX5_bent_4 (fun u6 => some u6) M FU (0 : Int32) (0 : Int32))
set_option maxRecDepth 100000 in
set_option maxHeartbeats 4000000 in
theorem tX5_bent_4 {g : Wo} {ρ : Type} {kx : Int32 → Option ρ} {M : Mem} {r : ρ} {rr : Option Value} {Mr : Mem} (hk : ∀ (z1 : Int32), kx z1 = some r → V g kX5_bent (jm g 3 rr Mr) 53 [none, some (.int z1), none, none, none] [] M) : ∀ (n : Nat) (y1 : Int32) (y2 : Int32), fX5_bent_4 kx M n y1 y2 = some r → V g kX5_bent (jm g 3 rr Mr) 4 [some (.ref 0), some (.int y1), some (.int y2), none, none] [] M := by
  intro n
  induction n with
  | zero =>
    intro y1 y2 h
    rw [fX5_bent_4] at h
    cases h
  | succ n ih =>
    intro y1 y2 h
    rw [fX5_bent_4] at h
    refine v_iload_n dX5_bent_4 rfl ?_
    refine v_aload_n dX5_bent_5 rfl ?_
    refine v_getr dX5_bent_6 flX5_12 sh_0 rfl ?_
    refine v_callV (as := []) (st := [.int y2]) (sX0_ways rfl) dX5_bent_9 mlX5_207 (CRn (by decide) (by decide)) sh_1 rfl rfl rfl (Nat.le_of_ble_eq_true rfl) ?_
    refine v_icmp_ge (tgt := 53) dX5_bent_12 rfl (fun c1 => ?_) (fun c1 => ?_)
    · replace h := (if_pos c1).symm.trans h
      refine V.sub (ls' := [none, some (.int y1), none, none, none]) (And.intro rfl trivial) ?_
      exact hk _ h
    · replace h := (if_neg c1).symm.trans h
      refine v_aload_n dX5_bent_15 rfl ?_
      refine v_getr dX5_bent_16 flX5_12 sh_0 rfl ?_
      refine v_iload_n dX5_bent_19 rfl ?_
      obtain ⟨v2, e3, h⟩ := Option.bind_eq_some_iff.mp h
      refine v_callV (as := [.int y2]) (st := []) (sX0_roundCorner e3) dX5_bent_20 mlX5_195 (CRn (by decide) (by decide)) sh_1 rfl rfl rfl (Nat.le_of_ble_eq_true rfl) ?_
      refine v_lstore_n (ls1 := [some (.ref 0), some (.int y1), some (.int y2), some (.long v2), none]) dX5_bent_23 (Nat.le_of_ble_eq_true rfl) rfl ?_
      refine v_lload_n dX5_bent_24 rfl ?_
      refine v_lconst (v := 0) dX5_bent_25 rfl ?_
      refine v_lcmp dX5_bent_26 ?_
      have hJ : V g kX5_bent (jm g 3 rr Mr) 47 [some (.ref 0), some (.int (if (lg_cmp v2 (0 : Int64)) = 0 then y1 else (if (fJ13_bitCount_95d88 v2) = (4 : Int32) then y1 else (y1 ||| ((1 : Int32) <<< ((fX5_fieldOf y2) &&& 31)))))), some (.int y2), none, none] [] M := by
        refine v_iinc (v := 1) (ls1 := [some (.ref 0), some (.int (if (lg_cmp v2 (0 : Int64)) = 0 then y1 else (if (fJ13_bitCount_95d88 v2) = (4 : Int32) then y1 else (y1 ||| ((1 : Int32) <<< ((fX5_fieldOf y2) &&& 31)))))), some (.int (y2 + (1 : Int32))), none, none]) dX5_bent_47 rfl rfl (Nat.le_of_ble_eq_true rfl) rfl ?_
        refine v_goto (tgt := 4) dX5_bent_50 rfl ?_
        refine V.sub (ls' := [some (.ref 0), some (.int (if (lg_cmp v2 (0 : Int64)) = 0 then y1 else (if (fJ13_bitCount_95d88 v2) = (4 : Int32) then y1 else (y1 ||| ((1 : Int32) <<< ((fX5_fieldOf y2) &&& 31)))))), some (.int (y2 + (1 : Int32))), none, none]) (And.intro rfl (And.intro rfl (And.intro rfl trivial))) ?_
        exact ih _ _ h
      refine v_if_eq (tgt := 47) dX5_bent_27 rfl (fun c4 => ?_) (fun c4 => ?_)
      · refine V.sub (ls' := [some (.ref 0), some (.int y1), some (.int y2), none, none]) (And.intro rfl (And.intro rfl (And.intro rfl trivial))) ?_
        first | (simp only [if_pos c4] at hJ; exact hJ) | exact hJ | (simp only [if_pos c4] at hJ ⊢; exact hJ)
      · refine v_lload_n dX5_bent_30 rfl ?_
        refine v_callS (as := [.long v2]) (st := []) (sJ13_bitCount_95d88 rfl) dX5_bent_31 mlX5_199 (CRn (by decide) (by decide)) rfl rfl (Nat.le_of_ble_eq_true rfl) ?_
        refine v_iconst (v := 4) dX5_bent_34 rfl ?_
        refine v_icmp_eq (tgt := 47) dX5_bent_35 rfl (fun c5 => ?_) (fun c5 => ?_)
        · refine V.sub (ls' := [some (.ref 0), some (.int y1), some (.int y2), none, none]) (And.intro rfl (And.intro rfl (And.intro rfl trivial))) ?_
          first | (simp only [if_neg c4, if_pos c5] at hJ; exact hJ) | exact hJ | (simp only [if_neg c4, if_pos c5] at hJ ⊢; exact hJ)
        · refine v_iload_n dX5_bent_38 rfl ?_
          refine v_iconst (v := 1) dX5_bent_39 rfl ?_
          refine v_iload_n dX5_bent_40 rfl ?_
          refine v_callS (as := [.int y2]) (st := [.int (1 : Int32), .int y1]) (sX5_fieldOf rfl) dX5_bent_41 mlX5_139 (CRn (by decide) (by decide)) rfl rfl (Nat.le_of_ble_eq_true rfl) ?_
          refine v_ishl dX5_bent_44 ?_
          refine v_ior dX5_bent_45 ?_
          refine v_istore_n (ls1 := [some (.ref 0), some (.int (y1 ||| ((1 : Int32) <<< ((fX5_fieldOf y2) &&& 31)))), some (.int y2), some (.long v2), none]) dX5_bent_46 (Nat.le_of_ble_eq_true rfl) rfl ?_
          refine V.sub (ls' := [some (.ref 0), some (.int (y1 ||| ((1 : Int32) <<< ((fX5_fieldOf y2) &&& 31)))), some (.int y2), none, none]) (And.intro rfl (And.intro rfl (And.intro rfl trivial))) ?_
          first | (simp only [if_neg c4, if_neg c5] at hJ; exact hJ) | exact hJ | (simp only [if_neg c4, if_neg c5] at hJ ⊢; exact hJ)
set_option maxRecDepth 100000 in
set_option maxHeartbeats 4000000 in
theorem sX5_bent {g : Wo} {M : Mem} {r : Int32} (h : fX5_bent M = some r) : Sp g kX5_bent 3 [.ref 0] M (some (.int r)) M := by
  rw [fX5_bent] at h
  refine Sp_intro (by decide) [some (.ref 0), none, none, none, none] rfl (Nat.le_of_ble_eq_true rfl) ?_
  refine v_iconst (v := 0) dX5_bent_0 rfl ?_
  refine v_istore_n (ls1 := [some (.ref 0), some (.int (0 : Int32)), none, none, none]) dX5_bent_1 (Nat.le_of_ble_eq_true rfl) rfl ?_
  refine v_iconst (v := 0) dX5_bent_2 rfl ?_
  refine v_istore_n (ls1 := [some (.ref 0), some (.int (0 : Int32)), some (.int (0 : Int32)), none, none]) dX5_bent_3 (Nat.le_of_ble_eq_true rfl) rfl ?_
  refine V.sub (ls' := [some (.ref 0), some (.int (0 : Int32)), some (.int (0 : Int32)), none, none]) (And.intro rfl (And.intro rfl (And.intro rfl trivial))) ?_
  refine tX5_bent_4 (fun u6 h => ?_) FU _ _ h
  refine v_iload_n dX5_bent_53 rfl ?_
  replace h := Option.some.inj h; subst h
  exact v_iret rfl dX5_bent_54
/-! ===== BentPlain$Ground.lower([III)Z ===== -/
def fX0_lower (x0 : Nat) (x1 : Int32) (x2 : Int32) (M : Mem) : Option (Int32 × Mem) := (if x1 < 0 then some ((0 : Int32), M) else (if (Int32.ofNat (alen x0)) ≤ x1 then some ((0 : Int32), M) else ((ldI M x0 (alen x0) x1).bind fun v3 => (if x2 < v3 then ((stI M x0 (alen x0) x1 x2).bind fun M6 => some ((1 : Int32), M6)) else some ((0 : Int32), M)))))
set_option maxRecDepth 100000 in
set_option maxHeartbeats 4000000 in
theorem sX0_lower {g : Wo} {M : Mem} {x0 : Nat} {x1 : Int32} {x2 : Int32} {r : Int32 × Mem} (hx0 : isI x0) (h : fX0_lower x0 x1 x2 M = some r) : Sp g kX0_lower 0 [.ref x0, .int x1, .int x2] M (some (.int r.1)) r.2 := by
  rw [fX0_lower] at h
  refine Sp_intro (by decide) [some (.ref x0), some (.int x1), some (.int x2)] rfl (Nat.le_of_ble_eq_true rfl) ?_
  refine v_iload_n dX0_lower_0 rfl ?_
  refine v_if_lt (tgt := 17) dX0_lower_1 rfl (fun c1 => ?_) (fun c1 => ?_)
  · replace h := (if_pos c1).symm.trans h
    refine v_iconst (v := 0) dX0_lower_17 rfl ?_
    replace h := Option.some.inj h; subst h
    exact v_zret rfl (z_nar z_0) dX0_lower_18
  · replace h := (if_neg c1).symm.trans h
    refine v_iload_n dX0_lower_4 rfl ?_
    refine v_aload_n dX0_lower_5 rfl ?_
    refine v_alen dX0_lower_6 hx0 rfl ?_
    refine v_icmp_ge (tgt := 17) dX0_lower_7 rfl (fun c2 => ?_) (fun c2 => ?_)
    · replace h := (if_pos c2).symm.trans h
      refine v_iconst (v := 0) dX0_lower_17 rfl ?_
      replace h := Option.some.inj h; subst h
      exact v_zret rfl (z_nar z_0) dX0_lower_18
    · replace h := (if_neg c2).symm.trans h
      refine v_aload_n dX0_lower_10 rfl ?_
      refine v_iload_n dX0_lower_11 rfl ?_
      obtain ⟨v3, e4, h⟩ := Option.bind_eq_some_iff.mp h
      refine v_ild e4 dX0_lower_12 hx0 ?_
      refine v_iload_n dX0_lower_13 rfl ?_
      refine v_icmp_gt (tgt := 19) dX0_lower_14 rfl (fun c5 => ?_) (fun c5 => ?_)
      · replace h := (if_pos c5).symm.trans h
        refine v_aload_n dX0_lower_19 rfl ?_
        refine v_iload_n dX0_lower_20 rfl ?_
        refine v_iload_n dX0_lower_21 rfl ?_
        obtain ⟨M6, e7, h⟩ := Option.bind_eq_some_iff.mp h
        refine v_ist e7 dX0_lower_22 hx0 ?_
        refine v_iconst (v := 1) dX0_lower_23 rfl ?_
        replace h := Option.some.inj h; subst h
        exact v_zret rfl (z_nar z_1) dX0_lower_24
      · replace h := (if_neg c5).symm.trans h
        refine v_iconst (v := 0) dX0_lower_17 rfl ?_
        replace h := Option.some.inj h; subst h
        exact v_zret rfl (z_nar z_0) dX0_lower_18
/-! ===== BentPlain$Ground.spread([IIZ)V ===== -/
def fX0_spread_37 {ρ : Type} (kx : Int32 → Mem → Option ρ) (y1 : Nat) (y3 : Int32) (y5 : Int32) : Nat → Int32 → Int32 → Mem → Option ρ
  | 0, _, _, _ => none
  | n + 1, y4, y6, M => (if (fX0_ways M) ≤ y6 then (kx y4 M) else ((fX0_goOn y6 M).bind fun v8 => ((if v8 = (-1 : Int32) then some (y4, M) else ((if y3 = 0 then some (1 : Int32) else ((fX0_roughOf (fX5_fieldOf v8) M).bind fun v18 => some v18)).bind fun t16 => ((ldI M y1 (alen y1) (fX5_fieldOf y6)).bind fun v20 => ((fX0_lower y1 (fX5_fieldOf v8) (v20 + t16) M).bind fun w22 => some ((y4 ||| w22.1), w22.2))))).bind fun t12 => (fX0_spread_37 kx y1 y3 y5 n t12.1 (y6 + (1 : Int32)) t12.2))))
def fX0_spread_19 {ρ : Type} (kx : Mem → Option ρ) (y1 : Nat) (y3 : Int32) : Nat → Int32 → Int32 → Mem → Option ρ
  | 0, _, _, _ => none
  | n + 1, y4, y5, M => (if (16 : Int32) ≤ y5 then (kx M) else (if y4 = 0 then (kx M) else (fX0_spread_37 (fun u24 M25 => (fX0_spread_19 kx y1 y3 n u24 (y5 + (1 : Int32)) M25)) y1 y3 y5 FU (0 : Int32) (0 : Int32) M)))
def fX0_spread (x1 : Nat) (x2 : Int32) (x3 : Int32) (M : Mem) : Option Mem := ((fJ7_fill_53178 x1 (1000000 : Int32) M).bind fun w1 => ((fX0_lower x1 x2 (0 : Int32) w1).bind fun w3 => (fX0_spread_19 (fun M26 => some M26) x1 x3 FU (1 : Int32) (0 : Int32) w3.2)))
set_option maxRecDepth 100000 in
set_option maxHeartbeats 4000000 in
theorem tX0_spread_37 {g : Wo} {ρ : Type} {kx : Int32 → Mem → Option ρ} {y1 : Nat} {y3 : Int32} {y5 : Int32} (hy1 : isI y1) {r : ρ} {rr : Option Value} {Mr : Mem} (hk : ∀ (z4 : Int32) (Mx : Mem), kx z4 Mx = some r → V g kX0_spread (jm g 3 rr Mr) 109 [some (.ref 1), some (.ref y1), none, some (.int y3), some (.int z4), some (.int y5), none, none, none] [] Mx) : ∀ (n : Nat) (y4 : Int32) (y6 : Int32) (M : Mem), fX0_spread_37 kx y1 y3 y5 n y4 y6 M = some r → V g kX0_spread (jm g 3 rr Mr) 37 [some (.ref 1), some (.ref y1), none, some (.int y3), some (.int y4), some (.int y5), some (.int y6), none, none] [] M := by
  intro n
  induction n with
  | zero =>
    intro y4 y6 M h
    rw [fX0_spread_37] at h
    cases h
  | succ n ih =>
    intro y4 y6 M h
    rw [fX0_spread_37] at h
    refine v_iload dX0_spread_37 rfl ?_
    refine v_aload_n dX0_spread_39 rfl ?_
    refine v_callV (as := []) (st := [.int y6]) (sX0_ways rfl) dX0_spread_40 mlX0_54 (CRn (by decide) (by decide)) sh_1 rfl rfl rfl (Nat.le_of_ble_eq_true rfl) ?_
    refine v_icmp_ge (tgt := 109) dX0_spread_43 rfl (fun c7 => ?_) (fun c7 => ?_)
    · replace h := (if_pos c7).symm.trans h
      refine V.sub (ls' := [some (.ref 1), some (.ref y1), none, some (.int y3), some (.int y4), some (.int y5), none, none, none]) (And.intro rfl (And.intro rfl (And.intro rfl (And.intro rfl (And.intro rfl trivial))))) ?_
      exact hk _ _ h
    · replace h := (if_neg c7).symm.trans h
      refine v_aload_n dX0_spread_46 rfl ?_
      refine v_iload dX0_spread_47 rfl ?_
      obtain ⟨v8, e9, h⟩ := Option.bind_eq_some_iff.mp h
      refine v_callV (as := [.int y6]) (st := []) (sX0_goOn e9) dX0_spread_49 mlX0_77 (CRn (by decide) (by decide)) sh_1 rfl rfl rfl (Nat.le_of_ble_eq_true rfl) ?_
      refine v_istore (ls1 := [some (.ref 1), some (.ref y1), none, some (.int y3), some (.int y4), some (.int y5), some (.int y6), some (.int v8), none]) dX0_spread_52 (Nat.le_of_ble_eq_true rfl) rfl ?_
      refine v_iload dX0_spread_54 rfl ?_
      refine v_iconst (v := -1) dX0_spread_56 rfl ?_
      obtain ⟨t12, e13, h⟩ := Option.bind_eq_some_iff.mp h
      have hJ : V g kX0_spread (jm g 3 rr Mr) 103 [some (.ref 1), some (.ref y1), none, some (.int y3), some (.int t12.1), some (.int y5), some (.int y6), none, none] [] t12.2 := by
        refine v_iinc (v := 1) (ls1 := [some (.ref 1), some (.ref y1), none, some (.int y3), some (.int t12.1), some (.int y5), some (.int (y6 + (1 : Int32))), none, none]) dX0_spread_103 rfl rfl (Nat.le_of_ble_eq_true rfl) rfl ?_
        refine v_goto (tgt := 37) dX0_spread_106 rfl ?_
        refine V.sub (ls' := [some (.ref 1), some (.ref y1), none, some (.int y3), some (.int t12.1), some (.int y5), some (.int (y6 + (1 : Int32))), none, none]) (And.intro rfl (And.intro rfl (And.intro rfl (And.intro rfl (And.intro rfl (And.intro rfl trivial)))))) ?_
        exact ih _ _ _ h
      clear h
      have h := e13
      clear e13
      refine v_icmp_eq (tgt := 103) dX0_spread_57 rfl (fun c11 => ?_) (fun c11 => ?_)
      · replace h := (if_pos c11).symm.trans h
        replace h := Option.some.inj h; subst h
        refine V.sub (ls' := [some (.ref 1), some (.ref y1), none, some (.int y3), some (.int y4), some (.int y5), some (.int y6), none, none]) (And.intro rfl (And.intro rfl (And.intro rfl (And.intro rfl (And.intro rfl (And.intro rfl trivial)))))) ?_
        exact hJ
      · replace h := (if_neg c11).symm.trans h
        refine v_iload_n dX0_spread_60 rfl ?_
        obtain ⟨t16, e17, h⟩ := Option.bind_eq_some_iff.mp h
        have hJ : V g kX0_spread (jm g 3 rr Mr) 77 [some (.ref 1), some (.ref y1), none, some (.int y3), some (.int y4), some (.int y5), some (.int y6), some (.int v8), none] [.int t16] M := by
          refine v_istore (ls1 := [some (.ref 1), some (.ref y1), none, some (.int y3), some (.int y4), some (.int y5), some (.int y6), some (.int v8), some (.int t16)]) dX0_spread_77 (Nat.le_of_ble_eq_true rfl) rfl ?_
          refine v_iload dX0_spread_79 rfl ?_
          refine v_aload_n dX0_spread_81 rfl ?_
          refine v_iload dX0_spread_82 rfl ?_
          refine v_callN (as := [.int v8]) (st := [.ref y1, .int y4]) (sX5_fieldOf rfl) dX0_spread_84 mlX0_68 (CRn (by decide) (by decide)) rfl rfl (Nat.le_of_ble_eq_true rfl) ?_
          refine v_aload_n dX0_spread_87 rfl ?_
          refine v_iload dX0_spread_88 rfl ?_
          refine v_callN (as := [.int y6]) (st := [.ref y1, .int (fX5_fieldOf v8), .ref y1, .int y4]) (sX5_fieldOf rfl) dX0_spread_90 mlX0_68 (CRn (by decide) (by decide)) rfl rfl (Nat.le_of_ble_eq_true rfl) ?_
          obtain ⟨v20, e21, h⟩ := Option.bind_eq_some_iff.mp h
          refine v_ild e21 dX0_spread_93 hy1 ?_
          refine v_iload dX0_spread_94 rfl ?_
          refine v_iadd dX0_spread_96 ?_
          obtain ⟨w22, e23, h⟩ := Option.bind_eq_some_iff.mp h
          refine v_callS (as := [.ref y1, .int (fX5_fieldOf v8), .int (v20 + t16)]) (st := [.int y4]) (sX0_lower hy1 e23) dX0_spread_97 mlX0_97 (CRn (by decide) (by decide)) rfl rfl (Nat.le_of_ble_eq_true rfl) ?_
          refine v_ior dX0_spread_100 ?_
          refine v_istore (ls1 := [some (.ref 1), some (.ref y1), none, some (.int y3), some (.int (y4 ||| w22.1)), some (.int y5), some (.int y6), some (.int v8), some (.int t16)]) dX0_spread_101 (Nat.le_of_ble_eq_true rfl) rfl ?_
          replace h := Option.some.inj h; subst h
          refine V.sub (ls' := [some (.ref 1), some (.ref y1), none, some (.int y3), some (.int (y4 ||| w22.1)), some (.int y5), some (.int y6), none, none]) (And.intro rfl (And.intro rfl (And.intro rfl (And.intro rfl (And.intro rfl (And.intro rfl trivial)))))) ?_
          exact hJ
        clear h
        have h := e17
        clear e17
        refine v_if_eq (tgt := 76) dX0_spread_61 rfl (fun c15 => ?_) (fun c15 => ?_)
        · replace h := (if_pos c15).symm.trans h
          refine v_iconst (v := 1) dX0_spread_76 rfl ?_
          replace h := Option.some.inj h; subst h
          refine V.sub (ls' := [some (.ref 1), some (.ref y1), none, some (.int y3), some (.int y4), some (.int y5), some (.int y6), some (.int v8), none]) (And.intro rfl (And.intro rfl (And.intro rfl (And.intro rfl (And.intro rfl (And.intro rfl (And.intro rfl trivial))))))) ?_
          exact hJ
        · replace h := (if_neg c15).symm.trans h
          refine v_aload_n dX0_spread_64 rfl ?_
          refine v_iload dX0_spread_65 rfl ?_
          refine v_callN (as := [.int v8]) (st := [.ref 1]) (sX5_fieldOf rfl) dX0_spread_67 mlX0_68 (CRn (by decide) (by decide)) rfl rfl (Nat.le_of_ble_eq_true rfl) ?_
          obtain ⟨v18, e19, h⟩ := Option.bind_eq_some_iff.mp h
          refine v_callV (as := [.int (fX5_fieldOf v8)]) (st := []) (sX0_roughOf e19) dX0_spread_70 mlX0_101 (CRn (by decide) (by decide)) sh_1 rfl rfl rfl (Nat.le_of_ble_eq_true rfl) ?_
          refine v_goto (tgt := 77) dX0_spread_73 rfl ?_
          replace h := Option.some.inj h; subst h
          refine V.sub (ls' := [some (.ref 1), some (.ref y1), none, some (.int y3), some (.int y4), some (.int y5), some (.int y6), some (.int v8), none]) (And.intro rfl (And.intro rfl (And.intro rfl (And.intro rfl (And.intro rfl (And.intro rfl (And.intro rfl trivial))))))) ?_
          exact hJ
set_option maxRecDepth 100000 in
set_option maxHeartbeats 4000000 in
theorem tX0_spread_19 {g : Wo} {ρ : Type} {kx : Mem → Option ρ} {y1 : Nat} {y3 : Int32} (hy1 : isI y1) {r : ρ} {rr : Option Value} {Mr : Mem} (hk : ∀ (Mx : Mem), kx Mx = some r → V g kX0_spread (jm g 3 rr Mr) 115 [none, none, none, none, none, none, none, none, none] [] Mx) : ∀ (n : Nat) (y4 : Int32) (y5 : Int32) (M : Mem), fX0_spread_19 kx y1 y3 n y4 y5 M = some r → V g kX0_spread (jm g 3 rr Mr) 19 [some (.ref 1), some (.ref y1), none, some (.int y3), some (.int y4), some (.int y5), none, none, none] [] M := by
  intro n
  induction n with
  | zero =>
    intro y4 y5 M h
    rw [fX0_spread_19] at h
    cases h
  | succ n ih =>
    intro y4 y5 M h
    rw [fX0_spread_19] at h
    refine v_iload dX0_spread_19 rfl ?_
    refine v_bipush (v := 16) dX0_spread_21 rfl ?_
    refine v_icmp_ge (tgt := 115) dX0_spread_23 rfl (fun c5 => ?_) (fun c5 => ?_)
    · replace h := (if_pos c5).symm.trans h
      refine V.sub (ls' := [none, none, none, none, none, none, none, none, none]) trivial ?_
      exact hk _ h
    · replace h := (if_neg c5).symm.trans h
      refine v_iload dX0_spread_26 rfl ?_
      refine v_if_eq (tgt := 115) dX0_spread_28 rfl (fun c6 => ?_) (fun c6 => ?_)
      · replace h := (if_pos c6).symm.trans h
        refine V.sub (ls' := [none, none, none, none, none, none, none, none, none]) trivial ?_
        exact hk _ h
      · replace h := (if_neg c6).symm.trans h
        refine v_iconst (v := 0) dX0_spread_31 rfl ?_
        refine v_istore (ls1 := [some (.ref 1), some (.ref y1), none, some (.int y3), some (.int (0 : Int32)), some (.int y5), none, none, none]) dX0_spread_32 (Nat.le_of_ble_eq_true rfl) rfl ?_
        refine v_iconst (v := 0) dX0_spread_34 rfl ?_
        refine v_istore (ls1 := [some (.ref 1), some (.ref y1), none, some (.int y3), some (.int (0 : Int32)), some (.int y5), some (.int (0 : Int32)), none, none]) dX0_spread_35 (Nat.le_of_ble_eq_true rfl) rfl ?_
        refine V.sub (ls' := [some (.ref 1), some (.ref y1), none, some (.int y3), some (.int (0 : Int32)), some (.int y5), some (.int (0 : Int32)), none, none]) (And.intro rfl (And.intro rfl (And.intro rfl (And.intro rfl (And.intro rfl (And.intro rfl trivial)))))) ?_
        refine tX0_spread_37 hy1 (fun u24 M25 h => ?_) FU _ _ _ h
        refine v_iinc (v := 1) (ls1 := [some (.ref 1), some (.ref y1), none, some (.int y3), some (.int u24), some (.int (y5 + (1 : Int32))), none, none, none]) dX0_spread_109 rfl rfl (Nat.le_of_ble_eq_true rfl) rfl ?_
        refine v_goto (tgt := 19) dX0_spread_112 rfl ?_
        refine V.sub (ls' := [some (.ref 1), some (.ref y1), none, some (.int y3), some (.int u24), some (.int (y5 + (1 : Int32))), none, none, none]) (And.intro rfl (And.intro rfl (And.intro rfl (And.intro rfl (And.intro rfl trivial))))) ?_
        exact ih _ _ _ h
set_option maxRecDepth 100000 in
set_option maxHeartbeats 4000000 in
theorem sX0_spread {g : Wo} {M : Mem} {x1 : Nat} {x2 : Int32} {x3 : Int32} {r : Mem} (hx1 : isI x1) (h : fX0_spread x1 x2 x3 M = some r) : Sp g kX0_spread 3 [.ref 1, .ref x1, .int x2, .int x3] M none r := by
  rw [fX0_spread] at h
  refine Sp_intro (by decide) [some (.ref 1), some (.ref x1), some (.int x2), some (.int x3), none, none, none, none, none] rfl (Nat.le_of_ble_eq_true rfl) ?_
  refine v_aload_n dX0_spread_0 rfl ?_
  refine v_ldc (v := 1000000) dX0_spread_1 w_461 ?_
  obtain ⟨w1, e2, h⟩ := Option.bind_eq_some_iff.mp h
  refine v_callS (as := [.ref x1, .int (1000000 : Int32)]) (st := []) (sJ7_fill_53178 hx1 e2) dX0_spread_3 mlX0_91 (CRn (by decide) (by decide)) rfl rfl (Nat.le_of_ble_eq_true rfl) ?_
  refine v_aload_n dX0_spread_6 rfl ?_
  refine v_iload_n dX0_spread_7 rfl ?_
  refine v_iconst (v := 0) dX0_spread_8 rfl ?_
  obtain ⟨w3, e4, h⟩ := Option.bind_eq_some_iff.mp h
  refine v_callS (as := [.ref x1, .int x2, .int (0 : Int32)]) (st := []) (sX0_lower hx1 e4) dX0_spread_9 mlX0_97 (CRn (by decide) (by decide)) rfl rfl (Nat.le_of_ble_eq_true rfl) ?_
  refine v_pop dX0_spread_12 rfl ?_
  refine v_iconst (v := 1) dX0_spread_13 rfl ?_
  refine v_istore (ls1 := [some (.ref 1), some (.ref x1), some (.int x2), some (.int x3), some (.int (1 : Int32)), none, none, none, none]) dX0_spread_14 (Nat.le_of_ble_eq_true rfl) rfl ?_
  refine v_iconst (v := 0) dX0_spread_16 rfl ?_
  refine v_istore (ls1 := [some (.ref 1), some (.ref x1), some (.int x2), some (.int x3), some (.int (1 : Int32)), some (.int (0 : Int32)), none, none, none]) dX0_spread_17 (Nat.le_of_ble_eq_true rfl) rfl ?_
  refine V.sub (ls' := [some (.ref 1), some (.ref x1), none, some (.int x3), some (.int (1 : Int32)), some (.int (0 : Int32)), none, none, none]) (And.intro rfl (And.intro rfl (And.intro rfl (And.intro rfl (And.intro rfl trivial))))) ?_
  refine tX0_spread_19 hx1 (fun M26 h => ?_) FU _ _ _ h
  replace h := Option.some.inj h; subst h
  exact v_vret rfl dX0_spread_115
/-! ===== BentPlain.reached(I)I ===== -/
def fX5_reached_4 {ρ : Type} (kx : Int32 → Option ρ) (y1 : Int32) (M : Mem) : Nat → Int32 → Int32 → Option ρ
  | 0, _, _ => none
  | n + 1, y2, y3 => (if (M.1 1 0) ≤ y3 then (kx y2) else ((ldI M 33 16 y3).bind fun v2 => (fX5_reached_4 kx y1 M n (if y1 < v2 then y2 else (y2 ||| ((1 : Int32) <<< (y3 &&& 31)))) (y3 + (1 : Int32)))))
def fX5_reached (x1 : Int32) (M : Mem) : Option Int32 := (fX5_reached_4 (fun u5 => some u5) x1 M FU (0 : Int32) (0 : Int32))
set_option maxRecDepth 100000 in
set_option maxHeartbeats 4000000 in
theorem tX5_reached_4 {g : Wo} {ρ : Type} {kx : Int32 → Option ρ} {y1 : Int32} {M : Mem} {r : ρ} {rr : Option Value} {Mr : Mem} (hk : ∀ (z2 : Int32), kx z2 = some r → V g kX5_reached (jm g 0 rr Mr) 37 [none, none, some (.int z2), none] [] M) : ∀ (n : Nat) (y2 : Int32) (y3 : Int32), fX5_reached_4 kx y1 M n y2 y3 = some r → V g kX5_reached (jm g 0 rr Mr) 4 [some (.ref 0), some (.int y1), some (.int y2), some (.int y3)] [] M := by
  intro n
  induction n with
  | zero =>
    intro y2 y3 h
    rw [fX5_reached_4] at h
    cases h
  | succ n ih =>
    intro y2 y3 h
    rw [fX5_reached_4] at h
    refine v_iload_n dX5_reached_4 rfl ?_
    refine v_aload_n dX5_reached_5 rfl ?_
    refine v_getr dX5_reached_6 flX5_12 sh_0 rfl ?_
    refine v_geti dX5_reached_9 flX5_68 sh_1 rfl ?_
    refine v_icmp_ge (tgt := 37) dX5_reached_12 rfl (fun c1 => ?_) (fun c1 => ?_)
    · replace h := (if_pos c1).symm.trans h
      refine V.sub (ls' := [none, none, some (.int y2), none]) (And.intro rfl trivial) ?_
      exact hk _ h
    · replace h := (if_neg c1).symm.trans h
      refine v_aload_n dX5_reached_15 rfl ?_
      refine v_getr dX5_reached_16 flX5_32 sh_0 rfl ?_
      refine v_iload_n dX5_reached_19 rfl ?_
      obtain ⟨v2, e3, h⟩ := Option.bind_eq_some_iff.mp h
      refine v_ild e3 dX5_reached_20 sh_33 ?_
      refine v_iload_n dX5_reached_21 rfl ?_
      have hJ : V g kX5_reached (jm g 0 rr Mr) 31 [some (.ref 0), some (.int y1), some (.int (if y1 < v2 then y2 else (y2 ||| ((1 : Int32) <<< (y3 &&& 31))))), some (.int y3)] [] M := by
        refine v_iinc (v := 1) (ls1 := [some (.ref 0), some (.int y1), some (.int (if y1 < v2 then y2 else (y2 ||| ((1 : Int32) <<< (y3 &&& 31))))), some (.int (y3 + (1 : Int32)))]) dX5_reached_31 rfl rfl (Nat.le_of_ble_eq_true rfl) rfl ?_
        refine v_goto (tgt := 4) dX5_reached_34 rfl ?_
        refine V.sub (ls' := [some (.ref 0), some (.int y1), some (.int (if y1 < v2 then y2 else (y2 ||| ((1 : Int32) <<< (y3 &&& 31))))), some (.int (y3 + (1 : Int32)))]) (And.intro rfl (And.intro rfl (And.intro rfl (And.intro rfl trivial)))) ?_
        exact ih _ _ h
      refine v_icmp_gt (tgt := 31) dX5_reached_22 rfl (fun c4 => ?_) (fun c4 => ?_)
      · refine V.sub (ls' := [some (.ref 0), some (.int y1), some (.int y2), some (.int y3)]) (And.intro rfl (And.intro rfl (And.intro rfl (And.intro rfl trivial)))) ?_
        first | (simp only [if_pos c4] at hJ; exact hJ) | exact hJ | (simp only [if_pos c4] at hJ ⊢; exact hJ)
      · refine v_iload_n dX5_reached_25 rfl ?_
        refine v_iconst (v := 1) dX5_reached_26 rfl ?_
        refine v_iload_n dX5_reached_27 rfl ?_
        refine v_ishl dX5_reached_28 ?_
        refine v_ior dX5_reached_29 ?_
        refine v_istore_n (ls1 := [some (.ref 0), some (.int y1), some (.int (y2 ||| ((1 : Int32) <<< (y3 &&& 31)))), some (.int y3)]) dX5_reached_30 (Nat.le_of_ble_eq_true rfl) rfl ?_
        refine V.sub (ls' := [some (.ref 0), some (.int y1), some (.int (y2 ||| ((1 : Int32) <<< (y3 &&& 31)))), some (.int y3)]) (And.intro rfl (And.intro rfl (And.intro rfl (And.intro rfl trivial)))) ?_
        first | (simp only [if_neg c4] at hJ; exact hJ) | exact hJ | (simp only [if_neg c4] at hJ ⊢; exact hJ)
set_option maxRecDepth 100000 in
set_option maxHeartbeats 4000000 in
theorem sX5_reached {g : Wo} {M : Mem} {x1 : Int32} {r : Int32} (h : fX5_reached x1 M = some r) : Sp g kX5_reached 0 [.ref 0, .int x1] M (some (.int r)) M := by
  rw [fX5_reached] at h
  refine Sp_intro (by decide) [some (.ref 0), some (.int x1), none, none] rfl (Nat.le_of_ble_eq_true rfl) ?_
  refine v_iconst (v := 0) dX5_reached_0 rfl ?_
  refine v_istore_n (ls1 := [some (.ref 0), some (.int x1), some (.int (0 : Int32)), none]) dX5_reached_1 (Nat.le_of_ble_eq_true rfl) rfl ?_
  refine v_iconst (v := 0) dX5_reached_2 rfl ?_
  refine v_istore_n (ls1 := [some (.ref 0), some (.int x1), some (.int (0 : Int32)), some (.int (0 : Int32))]) dX5_reached_3 (Nat.le_of_ble_eq_true rfl) rfl ?_
  refine V.sub (ls' := [some (.ref 0), some (.int x1), some (.int (0 : Int32)), some (.int (0 : Int32))]) (And.intro rfl (And.intro rfl (And.intro rfl (And.intro rfl trivial)))) ?_
  refine tX5_reached_4 (fun u5 h => ?_) FU _ _ h
  refine v_iload_n dX5_reached_37 rfl ?_
  replace h := Option.some.inj h; subst h
  exact v_iret rfl dX5_reached_38
/-! ===== BentPlain.parts()I ===== -/
def fX5_parts_6 {ρ : Type} (kx : Int32 → Mem → Option ρ) : Nat → Int32 → Int32 → Int32 → Mem → Option ρ
  | 0, _, _, _, _ => none
  | n + 1, y1, y2, y3, M => (if (M.1 1 0) ≤ y3 then (kx y2 M) else ((if ((y1 >>> (y3 &&& 31)) &&& (1 : Int32)) = 0 then ((fX0_spread 33 y3 (0 : Int32) M).bind fun w6 => ((fX5_reached (999999 : Int32) w6).bind fun v8 => some ((y1 ||| v8), (y2 + (1 : Int32)), w6))) else some (y1, y2, M)).bind fun t4 => (fX5_parts_6 kx n t4.1 t4.2.1 (y3 + (1 : Int32)) t4.2.2)))
def fX5_parts (M : Mem) : Option (Int32 × Mem) := (fX5_parts_6 (fun u10 M11 => some (u10, M11)) FU (0 : Int32) (0 : Int32) (0 : Int32) M)
set_option maxRecDepth 100000 in
set_option maxHeartbeats 4000000 in
theorem tX5_parts_6 {g : Wo} {ρ : Type} {kx : Int32 → Mem → Option ρ} {r : ρ} {rr : Option Value} {Mr : Mem} (hk : ∀ (z2 : Int32) (Mx : Mem), kx z2 Mx = some r → V g kX5_parts (jm g 4 rr Mr) 56 [none, none, some (.int z2), none] [] Mx) : ∀ (n : Nat) (y1 : Int32) (y2 : Int32) (y3 : Int32) (M : Mem), fX5_parts_6 kx n y1 y2 y3 M = some r → V g kX5_parts (jm g 4 rr Mr) 6 [some (.ref 0), some (.int y1), some (.int y2), some (.int y3)] [] M := by
  intro n
  induction n with
  | zero =>
    intro y1 y2 y3 M h
    rw [fX5_parts_6] at h
    cases h
  | succ n ih =>
    intro y1 y2 y3 M h
    rw [fX5_parts_6] at h
    refine v_iload_n dX5_parts_6 rfl ?_
    refine v_aload_n dX5_parts_7 rfl ?_
    refine v_getr dX5_parts_8 flX5_12 sh_0 rfl ?_
    refine v_geti dX5_parts_11 flX5_68 sh_1 rfl ?_
    refine v_icmp_ge (tgt := 56) dX5_parts_14 rfl (fun c1 => ?_) (fun c1 => ?_)
    · replace h := (if_pos c1).symm.trans h
      refine V.sub (ls' := [none, none, some (.int y2), none]) (And.intro rfl trivial) ?_
      exact hk _ _ h
    · replace h := (if_neg c1).symm.trans h
      refine v_iload_n dX5_parts_17 rfl ?_
      refine v_iload_n dX5_parts_18 rfl ?_
      refine v_ishr dX5_parts_19 ?_
      refine v_iconst (v := 1) dX5_parts_20 rfl ?_
      refine v_iand dX5_parts_21 ?_
      obtain ⟨t4, e5, h⟩ := Option.bind_eq_some_iff.mp h
      have hJ : V g kX5_parts (jm g 4 rr Mr) 50 [some (.ref 0), some (.int t4.1), some (.int t4.2.1), some (.int y3)] [] t4.2.2 := by
        refine v_iinc (v := 1) (ls1 := [some (.ref 0), some (.int t4.1), some (.int t4.2.1), some (.int (y3 + (1 : Int32)))]) dX5_parts_50 rfl rfl (Nat.le_of_ble_eq_true rfl) rfl ?_
        refine v_goto (tgt := 6) dX5_parts_53 rfl ?_
        refine V.sub (ls' := [some (.ref 0), some (.int t4.1), some (.int t4.2.1), some (.int (y3 + (1 : Int32)))]) (And.intro rfl (And.intro rfl (And.intro rfl (And.intro rfl trivial)))) ?_
        exact ih _ _ _ _ h
      clear h
      have h := e5
      clear e5
      refine v_if_ne (tgt := 50) dX5_parts_22 rfl (fun c3 => ?_) (fun c3 => ?_)
      · replace h := (if_neg c3).symm.trans h
        replace h := Option.some.inj h; subst h
        refine V.sub (ls' := [some (.ref 0), some (.int y1), some (.int y2), some (.int y3)]) (And.intro rfl (And.intro rfl (And.intro rfl (And.intro rfl trivial)))) ?_
        exact hJ
      · replace h := (if_pos c3).symm.trans h
        refine v_iinc (v := 1) (ls1 := [some (.ref 0), some (.int y1), some (.int (y2 + (1 : Int32))), some (.int y3)]) dX5_parts_25 rfl rfl (Nat.le_of_ble_eq_true rfl) rfl ?_
        refine v_aload_n dX5_parts_28 rfl ?_
        refine v_getr dX5_parts_29 flX5_12 sh_0 rfl ?_
        refine v_aload_n dX5_parts_32 rfl ?_
        refine v_getr dX5_parts_33 flX5_32 sh_0 rfl ?_
        refine v_iload_n dX5_parts_36 rfl ?_
        refine v_iconst (v := 0) dX5_parts_37 rfl ?_
        obtain ⟨w6, e7, h⟩ := Option.bind_eq_some_iff.mp h
        refine v_callV (as := [.ref 33, .int y3, .int (0 : Int32)]) (st := []) (sX0_spread (isI_of sh_33) e7) dX5_parts_38 mlX5_210 (CRn (by decide) (by decide)) sh_1 rfl rfl rfl (Nat.le_of_ble_eq_true rfl) ?_
        refine v_iload_n dX5_parts_41 rfl ?_
        refine v_aload_n dX5_parts_42 rfl ?_
        refine v_ldc (v := 999999) dX5_parts_43 w_469 ?_
        obtain ⟨v8, e9, h⟩ := Option.bind_eq_some_iff.mp h
        refine v_callV (as := [.int (999999 : Int32)]) (st := [.int y1]) (sX5_reached e9) dX5_parts_45 mlX5_215 (CRn (by decide) (by decide)) sh_0 rfl rfl rfl (Nat.le_of_ble_eq_true rfl) ?_
        refine v_ior dX5_parts_48 ?_
        refine v_istore_n (ls1 := [some (.ref 0), some (.int (y1 ||| v8)), some (.int (y2 + (1 : Int32))), some (.int y3)]) dX5_parts_49 (Nat.le_of_ble_eq_true rfl) rfl ?_
        replace h := Option.some.inj h; subst h
        refine V.sub (ls' := [some (.ref 0), some (.int (y1 ||| v8)), some (.int (y2 + (1 : Int32))), some (.int y3)]) (And.intro rfl (And.intro rfl (And.intro rfl (And.intro rfl trivial)))) ?_
        exact hJ
set_option maxRecDepth 100000 in
set_option maxHeartbeats 4000000 in
theorem sX5_parts {g : Wo} {M : Mem} {r : Int32 × Mem} (h : fX5_parts M = some r) : Sp g kX5_parts 4 [.ref 0] M (some (.int r.1)) r.2 := by
  rw [fX5_parts] at h
  refine Sp_intro (by decide) [some (.ref 0), none, none, none] rfl (Nat.le_of_ble_eq_true rfl) ?_
  refine v_iconst (v := 0) dX5_parts_0 rfl ?_
  refine v_istore_n (ls1 := [some (.ref 0), some (.int (0 : Int32)), none, none]) dX5_parts_1 (Nat.le_of_ble_eq_true rfl) rfl ?_
  refine v_iconst (v := 0) dX5_parts_2 rfl ?_
  refine v_istore_n (ls1 := [some (.ref 0), some (.int (0 : Int32)), some (.int (0 : Int32)), none]) dX5_parts_3 (Nat.le_of_ble_eq_true rfl) rfl ?_
  refine v_iconst (v := 0) dX5_parts_4 rfl ?_
  refine v_istore_n (ls1 := [some (.ref 0), some (.int (0 : Int32)), some (.int (0 : Int32)), some (.int (0 : Int32))]) dX5_parts_5 (Nat.le_of_ble_eq_true rfl) rfl ?_
  refine V.sub (ls' := [some (.ref 0), some (.int (0 : Int32)), some (.int (0 : Int32)), some (.int (0 : Int32))]) (And.intro rfl (And.intro rfl (And.intro rfl (And.intro rfl trivial)))) ?_
  refine tX5_parts_6 (fun u10 M11 h => ?_) FU _ _ _ _ h
  refine v_iload_n dX5_parts_56 rfl ?_
  replace h := Option.some.inj h; subst h
  exact v_iret rfl dX5_parts_57
/-! ===== BentPlain.least(IIZ)I ===== -/
def fX5_least (x1 : Int32) (x2 : Int32) (x3 : Int32) (M : Mem) : Option (Int32 × Mem) := (if (fX0_hasField x1 M) = 0 then ((fX5_tell (-1000000001 : Int32) M).bind fun w2 => some (w2.1, w2.2)) else (if (fX0_hasField x2 M) = 0 then ((fX5_tell (-1000000001 : Int32) M).bind fun w12 => some (w12.1, w12.2)) else ((fX0_spread 33 x1 x3 M).bind fun w5 => ((ldI w5 33 16 x2).bind fun v7 => (if v7 = (1000000 : Int32) then ((fX5_tell (-1000000004 : Int32) w5).bind fun w10 => some (w10.1, w10.2)) else some (v7, w5))))))
set_option maxRecDepth 100000 in
set_option maxHeartbeats 4000000 in
theorem sX5_least {g : Wo} {M : Mem} {x1 : Int32} {x2 : Int32} {x3 : Int32} {r : Int32 × Mem} (h : fX5_least x1 x2 x3 M = some r) : Sp g kX5_least 4 [.ref 0, .int x1, .int x2, .int x3] M (some (.int r.1)) r.2 := by
  rw [fX5_least] at h
  refine Sp_intro (by decide) [some (.ref 0), some (.int x1), some (.int x2), some (.int x3), none] rfl (Nat.le_of_ble_eq_true rfl) ?_
  refine v_aload_n dX5_least_0 rfl ?_
  refine v_getr dX5_least_1 flX5_12 sh_0 rfl ?_
  refine v_iload_n dX5_least_4 rfl ?_
  refine v_callV (as := [.int x1]) (st := []) (sX0_hasField rfl) dX5_least_5 mlX5_76 (CRn (by decide) (by decide)) sh_1 rfl rfl rfl (Nat.le_of_ble_eq_true rfl) ?_
  refine v_if_eq (tgt := 22) dX5_least_8 rfl (fun c1 => ?_) (fun c1 => ?_)
  · replace h := (if_pos c1).symm.trans h
    refine v_aload_n dX5_least_22 rfl ?_
    refine v_ldc (v := -1000000001) dX5_least_23 w_175 ?_
    obtain ⟨w2, e3, h⟩ := Option.bind_eq_some_iff.mp h
    refine v_callV (as := [.int (-1000000001 : Int32)]) (st := []) (sX5_tell e3) dX5_least_25 mlX5_64 (CRn (by decide) (by decide)) sh_0 rfl rfl rfl (Nat.le_of_ble_eq_true rfl) ?_
    replace h := Option.some.inj h; subst h
    exact v_iret rfl dX5_least_28
  · replace h := (if_neg c1).symm.trans h
    refine v_aload_n dX5_least_11 rfl ?_
    refine v_getr dX5_least_12 flX5_12 sh_0 rfl ?_
    refine v_iload_n dX5_least_15 rfl ?_
    refine v_callV (as := [.int x2]) (st := []) (sX0_hasField rfl) dX5_least_16 mlX5_76 (CRn (by decide) (by decide)) sh_1 rfl rfl rfl (Nat.le_of_ble_eq_true rfl) ?_
    refine v_if_ne (tgt := 29) dX5_least_19 rfl (fun c4 => ?_) (fun c4 => ?_)
    · replace h := (if_neg c4).symm.trans h
      refine v_aload_n dX5_least_29 rfl ?_
      refine v_getr dX5_least_30 flX5_12 sh_0 rfl ?_
      refine v_aload_n dX5_least_33 rfl ?_
      refine v_getr dX5_least_34 flX5_32 sh_0 rfl ?_
      refine v_iload_n dX5_least_37 rfl ?_
      refine v_iload_n dX5_least_38 rfl ?_
      obtain ⟨w5, e6, h⟩ := Option.bind_eq_some_iff.mp h
      refine v_callV (as := [.ref 33, .int x1, .int x3]) (st := []) (sX0_spread (isI_of sh_33) e6) dX5_least_39 mlX5_210 (CRn (by decide) (by decide)) sh_1 rfl rfl rfl (Nat.le_of_ble_eq_true rfl) ?_
      refine v_aload_n dX5_least_42 rfl ?_
      refine v_getr dX5_least_43 flX5_32 sh_0 rfl ?_
      refine v_iload_n dX5_least_46 rfl ?_
      obtain ⟨v7, e8, h⟩ := Option.bind_eq_some_iff.mp h
      refine v_ild e8 dX5_least_47 sh_33 ?_
      refine v_istore (ls1 := [some (.ref 0), some (.int x1), some (.int x2), some (.int x3), some (.int v7)]) dX5_least_48 (Nat.le_of_ble_eq_true rfl) rfl ?_
      refine v_iload dX5_least_50 rfl ?_
      refine v_ldc (v := 1000000) dX5_least_52 w_482 ?_
      refine v_icmp_ne (tgt := 66) dX5_least_54 rfl (fun c9 => ?_) (fun c9 => ?_)
      · replace h := (if_neg c9).symm.trans h
        refine v_iload dX5_least_66 rfl ?_
        replace h := Option.some.inj h; subst h
        exact v_iret rfl dX5_least_68
      · replace h := (if_pos c9).symm.trans h
        refine v_aload_n dX5_least_57 rfl ?_
        refine v_ldc (v := -1000000004) dX5_least_58 w_264 ?_
        obtain ⟨w10, e11, h⟩ := Option.bind_eq_some_iff.mp h
        refine v_callV (as := [.int (-1000000004 : Int32)]) (st := []) (sX5_tell e11) dX5_least_60 mlX5_64 (CRn (by decide) (by decide)) sh_0 rfl rfl rfl (Nat.le_of_ble_eq_true rfl) ?_
        refine v_goto (tgt := 68) dX5_least_63 rfl ?_
        replace h := Option.some.inj h; subst h
        exact v_iret rfl dX5_least_68
    · replace h := (if_pos c4).symm.trans h
      refine v_aload_n dX5_least_22 rfl ?_
      refine v_ldc (v := -1000000001) dX5_least_23 w_175 ?_
      obtain ⟨w12, e13, h⟩ := Option.bind_eq_some_iff.mp h
      refine v_callV (as := [.int (-1000000001 : Int32)]) (st := []) (sX5_tell e13) dX5_least_25 mlX5_64 (CRn (by decide) (by decide)) sh_0 rfl rfl rfl (Nat.le_of_ble_eq_true rfl) ?_
      replace h := Option.some.inj h; subst h
      exact v_iret rfl dX5_least_28
