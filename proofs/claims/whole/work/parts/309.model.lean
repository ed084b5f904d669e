/-! ===== BentPlainModel.glueItem()V ===== -/
def fX6_glueItem (M : Mem) : Option Mem := ((fX6_wants (1 : Int32) M).bind fun w1 => ((fX6_fieldHere w1).bind fun w3 => ((if (w3.1 49 12) = 0 then ((fX6_sideHere (w3.1 49 11) (0 : Int32) (-1 : Int32) w3).bind fun w9 => some (w9.1, w9.2)) else some ((0 : Int32), w3)).bind fun t7 => ((fX6_fieldHere t7.2).bind fun w11 => ((if (w11.1 49 12) = 0 then ((fX6_sideHere (w11.1 49 11) (0 : Int32) t7.1 w11).bind fun w17 => some (w17.1, w17.2)) else some ((0 : Int32), w11)).bind fun t15 => (if (t15.2.1 49 12) = 0 then ((fX6_glues t7.1 t15.1 t15.2).bind fun w20 => some w20) else some t15.2))))))
set_option maxRecDepth 100000 in
set_option maxHeartbeats 4000000 in
theorem sX6_glueItem {g : Wo} {M : Mem} {r : Mem} (h : fX6_glueItem M = some r) : Sp g kX6_glueItem 6 [.ref 49] M none r := by
  rw [fX6_glueItem] at h
  refine Sp_intro (by decide) [some (.ref 49), none, none] rfl (Nat.le_of_ble_eq_true rfl) ?_
  refine v_aload_n dX6_glueItem_0 rfl ?_
  refine v_iconst (v := 1) dX6_glueItem_1 rfl ?_
  obtain ⟨w1, e2, h⟩ := Option.bind_eq_some_iff.mp h
  refine v_callV (as := [.int (1 : Int32)]) (st := []) (sX6_wants e2) dX6_glueItem_2 mlX6_223 (CRn (by decide) (by decide)) sh_49 rfl rfl rfl (Nat.le_of_ble_eq_true rfl) ?_
  refine v_aload_n dX6_glueItem_5 rfl ?_
  obtain ⟨w3, e4, h⟩ := Option.bind_eq_some_iff.mp h
  refine v_callV (as := []) (st := []) (sX6_fieldHere e4) dX6_glueItem_6 mlX6_259 (CRn (by decide) (by decide)) sh_49 rfl rfl rfl (Nat.le_of_ble_eq_true rfl) ?_
  refine v_aload_n dX6_glueItem_9 rfl ?_
  refine v_geti dX6_glueItem_10 flX6_209 sh_49 rfl ?_
  obtain ⟨t7, e8, h⟩ := Option.bind_eq_some_iff.mp h
  have hJ : V g kX6_glueItem (jm g 6 none r) 30 [some (.ref 49), none, none] [.int t7.1] t7.2 := by
    refine v_istore_n (ls1 := [some (.ref 49), some (.int t7.1), none]) dX6_glueItem_30 (Nat.le_of_ble_eq_true rfl) rfl ?_
    refine v_aload_n dX6_glueItem_31 rfl ?_
    obtain ⟨w11, e12, h⟩ := Option.bind_eq_some_iff.mp h
    refine v_callV (as := []) (st := []) (sX6_fieldHere e12) dX6_glueItem_32 mlX6_259 (CRn (by decide) (by decide)) sh_49 rfl rfl rfl (Nat.le_of_ble_eq_true rfl) ?_
    refine v_aload_n dX6_glueItem_35 rfl ?_
    refine v_geti dX6_glueItem_36 flX6_209 sh_49 rfl ?_
    obtain ⟨t15, e16, h⟩ := Option.bind_eq_some_iff.mp h
    have hJ : V g kX6_glueItem (jm g 6 none r) 56 [some (.ref 49), some (.int t7.1), none] [.int t15.1] t15.2 := by
      refine v_istore_n (ls1 := [some (.ref 49), some (.int t7.1), some (.int t15.1)]) dX6_glueItem_56 (Nat.le_of_ble_eq_true rfl) rfl ?_
      refine v_aload_n dX6_glueItem_57 rfl ?_
      refine v_geti dX6_glueItem_58 flX6_209 sh_49 rfl ?_
      refine v_if_ne (tgt := 70) dX6_glueItem_61 rfl (fun c19 => ?_) (fun c19 => ?_)
      · replace h := (if_neg c19).symm.trans h
        replace h := Option.some.inj h; subst h
        exact v_vret rfl dX6_glueItem_70
      · replace h := (if_pos c19).symm.trans h
        refine v_aload_n dX6_glueItem_64 rfl ?_
        refine v_iload_n dX6_glueItem_65 rfl ?_
        refine v_iload_n dX6_glueItem_66 rfl ?_
        obtain ⟨w20, e21, h⟩ := Option.bind_eq_some_iff.mp h
        refine v_callV (as := [.int t7.1, .int t15.1]) (st := []) (sX6_glues e21) dX6_glueItem_67 mlX6_93 (CRn (by decide) (by decide)) sh_49 rfl rfl rfl (Nat.le_of_ble_eq_true rfl) ?_
        replace h := Option.some.inj h; subst h
        exact v_vret rfl dX6_glueItem_70
    clear h
    have h := e16
    clear e16
    refine v_if_eq (tgt := 46) dX6_glueItem_39 rfl (fun c14 => ?_) (fun c14 => ?_)
    · replace h := (if_pos c14).symm.trans h
      refine v_aload_n dX6_glueItem_46 rfl ?_
      refine v_aload_n dX6_glueItem_47 rfl ?_
      refine v_geti dX6_glueItem_48 flX6_220 sh_49 rfl ?_
      refine v_iconst (v := 0) dX6_glueItem_51 rfl ?_
      refine v_iload_n dX6_glueItem_52 rfl ?_
      obtain ⟨w17, e18, h⟩ := Option.bind_eq_some_iff.mp h
      refine v_callV (as := [.int (w11.1 49 11), .int (0 : Int32), .int t7.1]) (st := []) (sX6_sideHere e18) dX6_glueItem_53 mlX6_262 (CRn (by decide) (by decide)) sh_49 rfl rfl rfl (Nat.le_of_ble_eq_true rfl) ?_
      replace h := Option.some.inj h; subst h
      refine V.sub (ls' := [some (.ref 49), some (.int t7.1), none]) (And.intro rfl (And.intro rfl trivial)) ?_
      exact hJ
    · replace h := (if_neg c14).symm.trans h
      refine v_iconst (v := 0) dX6_glueItem_42 rfl ?_
      refine v_goto (tgt := 56) dX6_glueItem_43 rfl ?_
      replace h := Option.some.inj h; subst h
      refine V.sub (ls' := [some (.ref 49), some (.int t7.1), none]) (And.intro rfl (And.intro rfl trivial)) ?_
      exact hJ
  clear h
  have h := e8
  clear e8
  refine v_if_eq (tgt := 20) dX6_glueItem_13 rfl (fun c6 => ?_) (fun c6 => ?_)
  · replace h := (if_pos c6).symm.trans h
    refine v_aload_n dX6_glueItem_20 rfl ?_
    refine v_aload_n dX6_glueItem_21 rfl ?_
    refine v_geti dX6_glueItem_22 flX6_220 sh_49 rfl ?_
    refine v_iconst (v := 0) dX6_glueItem_25 rfl ?_
    refine v_iconst (v := -1) dX6_glueItem_26 rfl ?_
    obtain ⟨w9, e10, h⟩ := Option.bind_eq_some_iff.mp h
    refine v_callV (as := [.int (w3.1 49 11), .int (0 : Int32), .int (-1 : Int32)]) (st := []) (sX6_sideHere e10) dX6_glueItem_27 mlX6_262 (CRn (by decide) (by decide)) sh_49 rfl rfl rfl (Nat.le_of_ble_eq_true rfl) ?_
    replace h := Option.some.inj h; subst h
    refine V.sub (ls' := [some (.ref 49), none, none]) (And.intro rfl trivial) ?_
    exact hJ
  · replace h := (if_neg c6).symm.trans h
    refine v_iconst (v := 0) dX6_glueItem_16 rfl ?_
    refine v_goto (tgt := 30) dX6_glueItem_17 rfl ?_
    replace h := Option.some.inj h; subst h
    refine V.sub (ls' := [some (.ref 49), none, none]) (And.intro rfl trivial) ?_
    exact hJ
/-! ===== BentPlainModel.cutItem()V ===== -/
def fX6_cutItem (M : Mem) : Option Mem := ((fX6_wants (1 : Int32) M).bind fun w1 => ((fX6_fieldHere w1).bind fun w3 => ((if (w3.1 49 12) = 0 then ((fX6_sideHere (w3.1 49 11) (1 : Int32) (-1 : Int32) w3).bind fun w9 => some (w9.1, w9.2)) else some ((0 : Int32), w3)).bind fun t7 => (if (t7.2.1 49 12) = 0 then ((fX6_cuts t7.1 t7.2).bind fun w12 => some w12) else some t7.2))))
set_option maxRecDepth 100000 in
set_option maxHeartbeats 4000000 in
theorem sX6_cutItem {g : Wo} {M : Mem} {r : Mem} (h : fX6_cutItem M = some r) : Sp g kX6_cutItem 6 [.ref 49] M none r := by
  rw [fX6_cutItem] at h
  refine Sp_intro (by decide) [some (.ref 49), none] rfl (Nat.le_of_ble_eq_true rfl) ?_
  refine v_aload_n dX6_cutItem_0 rfl ?_
  refine v_iconst (v := 1) dX6_cutItem_1 rfl ?_
  obtain ⟨w1, e2, h⟩ := Option.bind_eq_some_iff.mp h
  refine v_callV (as := [.int (1 : Int32)]) (st := []) (sX6_wants e2) dX6_cutItem_2 mlX6_223 (CRn (by decide) (by decide)) sh_49 rfl rfl rfl (Nat.le_of_ble_eq_true rfl) ?_
  refine v_aload_n dX6_cutItem_5 rfl ?_
  obtain ⟨w3, e4, h⟩ := Option.bind_eq_some_iff.mp h
  refine v_callV (as := []) (st := []) (sX6_fieldHere e4) dX6_cutItem_6 mlX6_259 (CRn (by decide) (by decide)) sh_49 rfl rfl rfl (Nat.le_of_ble_eq_true rfl) ?_
  refine v_aload_n dX6_cutItem_9 rfl ?_
  refine v_geti dX6_cutItem_10 flX6_209 sh_49 rfl ?_
  obtain ⟨t7, e8, h⟩ := Option.bind_eq_some_iff.mp h
  have hJ : V g kX6_cutItem (jm g 6 none r) 30 [some (.ref 49), none] [.int t7.1] t7.2 := by
    refine v_istore_n (ls1 := [some (.ref 49), some (.int t7.1)]) dX6_cutItem_30 (Nat.le_of_ble_eq_true rfl) rfl ?_
    refine v_aload_n dX6_cutItem_31 rfl ?_
    refine v_geti dX6_cutItem_32 flX6_209 sh_49 rfl ?_
    refine v_if_ne (tgt := 43) dX6_cutItem_35 rfl (fun c11 => ?_) (fun c11 => ?_)
    · replace h := (if_neg c11).symm.trans h
      replace h := Option.some.inj h; subst h
      exact v_vret rfl dX6_cutItem_43
    · replace h := (if_pos c11).symm.trans h
      refine v_aload_n dX6_cutItem_38 rfl ?_
      refine v_iload_n dX6_cutItem_39 rfl ?_
      obtain ⟨w12, e13, h⟩ := Option.bind_eq_some_iff.mp h
      refine v_callV (as := [.int t7.1]) (st := []) (sX6_cuts e13) dX6_cutItem_40 mlX6_97 (CRn (by decide) (by decide)) sh_49 rfl rfl rfl (Nat.le_of_ble_eq_true rfl) ?_
      replace h := Option.some.inj h; subst h
      exact v_vret rfl dX6_cutItem_43
  clear h
  have h := e8
  clear e8
  refine v_if_eq (tgt := 20) dX6_cutItem_13 rfl (fun c6 => ?_) (fun c6 => ?_)
  · replace h := (if_pos c6).symm.trans h
    refine v_aload_n dX6_cutItem_20 rfl ?_
    refine v_aload_n dX6_cutItem_21 rfl ?_
    refine v_geti dX6_cutItem_22 flX6_220 sh_49 rfl ?_
    refine v_iconst (v := 1) dX6_cutItem_25 rfl ?_
    refine v_iconst (v := -1) dX6_cutItem_26 rfl ?_
    obtain ⟨w9, e10, h⟩ := Option.bind_eq_some_iff.mp h
    refine v_callV (as := [.int (w3.1 49 11), .int (1 : Int32), .int (-1 : Int32)]) (st := []) (sX6_sideHere e10) dX6_cutItem_27 mlX6_262 (CRn (by decide) (by decide)) sh_49 rfl rfl rfl (Nat.le_of_ble_eq_true rfl) ?_
    replace h := Option.some.inj h; subst h
    refine V.sub (ls' := [some (.ref 49), none]) (And.intro rfl trivial) ?_
    exact hJ
  · replace h := (if_neg c6).symm.trans h
    refine v_iconst (v := 0) dX6_cutItem_16 rfl ?_
    refine v_goto (tgt := 30) dX6_cutItem_17 rfl ?_
    replace h := Option.some.inj h; subst h
    refine V.sub (ls' := [some (.ref 49), none]) (And.intro rfl trivial) ?_
    exact hJ
/-! ===== BentPlainModel.item()V ===== -/
def fX6_item (M : Mem) : Option Mem := ((fX6_kindHere M).bind fun v1 => ((fX6_word M).bind fun v3 => (if v1 < 0 then (if (lg_cmp v3 (6591876 : Int64)) = 0 then ((fX6_fieldItem M).bind fun w15 => some w15) else (if (lg_cmp v3 (242341 : Int64)) = 0 then ((fX6_glueItem M).bind fun w13 => some w13) else (if (lg_cmp v3 (3764 : Int64)) = 0 then ((fX6_cutItem M).bind fun w11 => some w11) else ((fX6_wants (0 : Int32) M).bind fun w9 => some w9)))) else ((fX6_walkerItem v1 M).bind fun w17 => some w17))))
set_option maxRecDepth 100000 in
set_option maxHeartbeats 4000000 in
theorem sX6_item {g : Wo} {M : Mem} {r : Mem} (h : fX6_item M = some r) : Sp g kX6_item 7 [.ref 49] M none r := by
  rw [fX6_item] at h
  refine Sp_intro (by decide) [some (.ref 49), none, none, none] rfl (Nat.le_of_ble_eq_true rfl) ?_
  refine v_aload_n dX6_item_0 rfl ?_
  obtain ⟨v1, e2, h⟩ := Option.bind_eq_some_iff.mp h
  refine v_callV (as := []) (st := []) (sX6_kindHere e2) dX6_item_1 mlX6_268 (CRn (by decide) (by decide)) sh_49 rfl rfl rfl (Nat.le_of_ble_eq_true rfl) ?_
  refine v_istore_n (ls1 := [some (.ref 49), some (.int v1), none, none]) dX6_item_4 (Nat.le_of_ble_eq_true rfl) rfl ?_
  refine v_aload_n dX6_item_5 rfl ?_
  obtain ⟨v3, e4, h⟩ := Option.bind_eq_some_iff.mp h
  refine v_callV (as := []) (st := []) (sX6_word e4) dX6_item_6 mlX6_227 (CRn (by decide) (by decide)) sh_49 rfl rfl rfl (Nat.le_of_ble_eq_true rfl) ?_
  refine v_lstore_n (ls1 := [some (.ref 49), some (.int v1), some (.long v3), none]) dX6_item_9 (Nat.le_of_ble_eq_true rfl) rfl ?_
  refine v_iload_n dX6_item_10 rfl ?_
  refine v_if_lt (tgt := 22) dX6_item_11 rfl (fun c5 => ?_) (fun c5 => ?_)
  · replace h := (if_pos c5).symm.trans h
    refine v_lload_n dX6_item_22 rfl ?_
    refine v_ldc2 (v := 6591876) dX6_item_23 w_1165 ?_
    refine v_lcmp dX6_item_26 ?_
    refine v_if_ne (tgt := 37) dX6_item_27 rfl (fun c6 => ?_) (fun c6 => ?_)
    · replace h := (if_neg c6).symm.trans h
      refine v_lload_n dX6_item_37 rfl ?_
      refine v_ldc2 (v := 242341) dX6_item_38 w_1171 ?_
      refine v_lcmp dX6_item_41 ?_
      refine v_if_ne (tgt := 52) dX6_item_42 rfl (fun c7 => ?_) (fun c7 => ?_)
      · replace h := (if_neg c7).symm.trans h
        refine v_lload_n dX6_item_52 rfl ?_
        refine v_ldc2 (v := 3764) dX6_item_53 w_1180 ?_
        refine v_lcmp dX6_item_56 ?_
        refine v_if_ne (tgt := 67) dX6_item_57 rfl (fun c8 => ?_) (fun c8 => ?_)
        · replace h := (if_neg c8).symm.trans h
          refine v_aload_n dX6_item_67 rfl ?_
          refine v_iconst (v := 0) dX6_item_68 rfl ?_
          obtain ⟨w9, e10, h⟩ := Option.bind_eq_some_iff.mp h
          refine v_callV (as := [.int (0 : Int32)]) (st := []) (sX6_wants e10) dX6_item_69 mlX6_223 (CRn (by decide) (by decide)) sh_49 rfl rfl rfl (Nat.le_of_ble_eq_true rfl) ?_
          replace h := Option.some.inj h; subst h
          exact v_vret rfl dX6_item_72
        · replace h := (if_pos c8).symm.trans h
          refine v_aload_n dX6_item_60 rfl ?_
          obtain ⟨w11, e12, h⟩ := Option.bind_eq_some_iff.mp h
          refine v_callV (as := []) (st := []) (sX6_cutItem e12) dX6_item_61 mlX6_286 (CRn (by decide) (by decide)) sh_49 rfl rfl rfl (Nat.le_of_ble_eq_true rfl) ?_
          refine v_goto (tgt := 72) dX6_item_64 rfl ?_
          replace h := Option.some.inj h; subst h
          exact v_vret rfl dX6_item_72
      · replace h := (if_pos c7).symm.trans h
        refine v_aload_n dX6_item_45 rfl ?_
        obtain ⟨w13, e14, h⟩ := Option.bind_eq_some_iff.mp h
        refine v_callV (as := []) (st := []) (sX6_glueItem e14) dX6_item_46 mlX6_281 (CRn (by decide) (by decide)) sh_49 rfl rfl rfl (Nat.le_of_ble_eq_true rfl) ?_
        refine v_goto (tgt := 72) dX6_item_49 rfl ?_
        replace h := Option.some.inj h; subst h
        exact v_vret rfl dX6_item_72
    · replace h := (if_pos c6).symm.trans h
      refine v_aload_n dX6_item_30 rfl ?_
      obtain ⟨w15, e16, h⟩ := Option.bind_eq_some_iff.mp h
      refine v_callV (as := []) (st := []) (sX6_fieldItem e16) dX6_item_31 mlX6_276 (CRn (by decide) (by decide)) sh_49 rfl rfl rfl (Nat.le_of_ble_eq_true rfl) ?_
      refine v_goto (tgt := 72) dX6_item_34 rfl ?_
      replace h := Option.some.inj h; subst h
      exact v_vret rfl dX6_item_72
  · replace h := (if_neg c5).symm.trans h
    refine v_aload_n dX6_item_14 rfl ?_
    refine v_iload_n dX6_item_15 rfl ?_
    obtain ⟨w17, e18, h⟩ := Option.bind_eq_some_iff.mp h
    refine v_callV (as := [.int v1]) (st := []) (sX6_walkerItem e18) dX6_item_16 mlX6_271 (CRn (by decide) (by decide)) sh_49 rfl rfl rfl (Nat.le_of_ble_eq_true rfl) ?_
    refine v_goto (tgt := 72) dX6_item_19 rfl ?_
    replace h := Option.some.inj h; subst h
    exact v_vret rfl dX6_item_72
/-! ===== BentPlainModel.putsBack()V ===== -/
def fX6_putsBack_2 {ρ : Type} (kx : Mem → Option ρ) : Nat → Int32 → Mem → Option ρ
  | 0, _, _ => none
  | n + 1, y1, M => (if (112 : Int32) ≤ y1 then (kx M) else ((ldI M 52 112 y1).bind fun v2 => ((stI M 50 112 y1 v2).bind fun M4 => (fX6_putsBack_2 kx n (y1 + (1 : Int32)) M4))))
def fX6_putsBack (M : Mem) : Option Mem := (fX6_putsBack_2 (fun M6 => some M6) FU (0 : Int32) M)
set_option maxRecDepth 100000 in
set_option maxHeartbeats 4000000 in
theorem tX6_putsBack_2 {g : Wo} {ρ : Type} {kx : Mem → Option ρ} {r : ρ} {rr : Option Value} {Mr : Mem} (hk : ∀ (Mx : Mem), kx Mx = some r → V g kX6_putsBack (jm g 0 rr Mr) 26 [none, none] [] Mx) : ∀ (n : Nat) (y1 : Int32) (M : Mem), fX6_putsBack_2 kx n y1 M = some r → V g kX6_putsBack (jm g 0 rr Mr) 2 [some (.ref 49), some (.int y1)] [] M := by
  intro n
  induction n with
  | zero =>
    intro y1 M h
    rw [fX6_putsBack_2] at h
    cases h
  | succ n ih =>
    intro y1 M h
    rw [fX6_putsBack_2] at h
    refine v_iload_n dX6_putsBack_2 rfl ?_
    refine v_bipush (v := 112) dX6_putsBack_3 rfl ?_
    refine v_icmp_ge (tgt := 26) dX6_putsBack_5 rfl (fun c1 => ?_) (fun c1 => ?_)
    · replace h := (if_pos c1).symm.trans h
      refine V.sub (ls' := [none, none]) trivial ?_
      exact hk _ h
    · replace h := (if_neg c1).symm.trans h
      refine v_aload_n dX6_putsBack_8 rfl ?_
      refine v_getr dX6_putsBack_9 flX6_7 sh_49 rfl ?_
      refine v_iload_n dX6_putsBack_12 rfl ?_
      refine v_aload_n dX6_putsBack_13 rfl ?_
      refine v_getr dX6_putsBack_14 flX6_16 sh_49 rfl ?_
      refine v_iload_n dX6_putsBack_17 rfl ?_
      obtain ⟨v2, e3, h⟩ := Option.bind_eq_some_iff.mp h
      refine v_ild e3 dX6_putsBack_18 sh_52 ?_
      obtain ⟨M4, e5, h⟩ := Option.bind_eq_some_iff.mp h
      refine v_ist e5 dX6_putsBack_19 sh_50 ?_
      refine v_iinc (v := 1) (ls1 := [some (.ref 49), some (.int (y1 + (1 : Int32)))]) dX6_putsBack_20 rfl rfl (Nat.le_of_ble_eq_true rfl) rfl ?_
      refine v_goto (tgt := 2) dX6_putsBack_23 rfl ?_
      refine V.sub (ls' := [some (.ref 49), some (.int (y1 + (1 : Int32)))]) (And.intro rfl (And.intro rfl trivial)) ?_
      exact ih _ _ h
set_option maxRecDepth 100000 in
set_option maxHeartbeats 4000000 in
theorem sX6_putsBack {g : Wo} {M : Mem} {r : Mem} (h : fX6_putsBack M = some r) : Sp g kX6_putsBack 0 [.ref 49] M none r := by
  rw [fX6_putsBack] at h
  refine Sp_intro (by decide) [some (.ref 49), none] rfl (Nat.le_of_ble_eq_true rfl) ?_
  refine v_iconst (v := 0) dX6_putsBack_0 rfl ?_
  refine v_istore_n (ls1 := [some (.ref 49), some (.int (0 : Int32))]) dX6_putsBack_1 (Nat.le_of_ble_eq_true rfl) rfl ?_
  refine V.sub (ls' := [some (.ref 49), some (.int (0 : Int32))]) (And.intro rfl (And.intro rfl trivial)) ?_
  refine tX6_putsBack_2 (fun M6 h => ?_) FU _ _ h
  replace h := Option.some.inj h; subst h
  exact v_vret rfl dX6_putsBack_26
/-! ===== BentPlainModel.plain()I ===== -/
def fX6_plain_24 {ρ : Type} (kx : Int32 → Mem → Option ρ) : Nat → Int32 → Mem → Option ρ
  | 0, _, _ => none
  | n + 1, y1, M => (if (M.1 49 12) = 0 then ((fX6_byteAt (M.1 49 9) M).bind fun v8 => (if v8 = (59 : Int32) then ((fX6_wants (1 : Int32) M).bind fun w11 => ((fX6_item w11).bind fun w13 => (fX6_plain_24 kx n (y1 + (1 : Int32)) w13))) else (kx y1 M))) else (kx y1 M))
def fX6_plain (M : Mem) : Option (Int32 × Mem) := ((fX6_saves M).bind fun w1 => ((fX6_token (setI (setI w1 49 12 (0 : Int32)) 49 10 (0 : Int32))).bind fun w3 => ((fX6_item w3).bind fun w5 => (fX6_plain_24 (fun u15 M16 => ((if ((setI M16 49 12 (if (M16.1 49 12) = 0 then (if (M16.1 49 8) ≤ (M16.1 49 9) then (0 : Int32) else (1 : Int32)) else (1 : Int32))).1 49 12) = 0 then some (setI M16 49 12 (if (M16.1 49 12) = 0 then (if (M16.1 49 8) ≤ (M16.1 49 9) then (0 : Int32) else (1 : Int32)) else (1 : Int32))) else ((fX6_putsBack (setI M16 49 12 (if (M16.1 49 12) = 0 then (if (M16.1 49 8) ≤ (M16.1 49 9) then (0 : Int32) else (1 : Int32)) else (1 : Int32)))).bind fun w23 => some w23)).bind fun t21 => (if ((setI t21 49 8 (0 : Int32)).1 49 12) = 0 then some (u15, (setI t21 49 8 (0 : Int32))) else some (((-1 : Int32) - ((setI t21 49 8 (0 : Int32)).1 49 9)), (setI t21 49 8 (0 : Int32)))))) FU (1 : Int32) w5))))
set_option maxRecDepth 100000 in
set_option maxHeartbeats 4000000 in
theorem tX6_plain_24 {g : Wo} {ρ : Type} {kx : Int32 → Mem → Option ρ} {r : ρ} {rr : Option Value} {Mr : Mem} (hk : ∀ (z1 : Int32) (Mx : Mem), kx z1 Mx = some r → V g kX6_plain (jm g 8 rr Mr) 59 [some (.ref 49), some (.int z1)] [] Mx) : ∀ (n : Nat) (y1 : Int32) (M : Mem), fX6_plain_24 kx n y1 M = some r → V g kX6_plain (jm g 8 rr Mr) 24 [some (.ref 49), some (.int y1)] [] M := by
  intro n
  induction n with
  | zero =>
    intro y1 M h
    rw [fX6_plain_24] at h
    cases h
  | succ n ih =>
    intro y1 M h
    rw [fX6_plain_24] at h
    refine v_aload_n dX6_plain_24 rfl ?_
    refine v_geti dX6_plain_25 flX6_209 sh_49 rfl ?_
    refine v_if_ne (tgt := 59) dX6_plain_28 rfl (fun c7 => ?_) (fun c7 => ?_)
    · replace h := (if_neg c7).symm.trans h
      refine V.sub (ls' := [some (.ref 49), some (.int y1)]) (And.intro rfl (And.intro rfl trivial)) ?_
      exact hk _ _ h
    · replace h := (if_pos c7).symm.trans h
      refine v_aload_n dX6_plain_31 rfl ?_
      refine v_aload_n dX6_plain_32 rfl ?_
      refine v_geti dX6_plain_33 flX6_197 sh_49 rfl ?_
      obtain ⟨v8, e9, h⟩ := Option.bind_eq_some_iff.mp h
      refine v_callV (as := [.int (M.1 49 9)]) (st := []) (sX6_byteAt e9) dX6_plain_36 mlX6_200 (CRn (by decide) (by decide)) sh_49 rfl rfl rfl (Nat.le_of_ble_eq_true rfl) ?_
      refine v_bipush (v := 59) dX6_plain_39 rfl ?_
      refine v_icmp_ne (tgt := 59) dX6_plain_41 rfl (fun c10 => ?_) (fun c10 => ?_)
      · replace h := (if_neg c10).symm.trans h
        refine V.sub (ls' := [some (.ref 49), some (.int y1)]) (And.intro rfl (And.intro rfl trivial)) ?_
        exact hk _ _ h
      · replace h := (if_pos c10).symm.trans h
        refine v_aload_n dX6_plain_44 rfl ?_
        refine v_iconst (v := 1) dX6_plain_45 rfl ?_
        obtain ⟨w11, e12, h⟩ := Option.bind_eq_some_iff.mp h
        refine v_callV (as := [.int (1 : Int32)]) (st := []) (sX6_wants e12) dX6_plain_46 mlX6_223 (CRn (by decide) (by decide)) sh_49 rfl rfl rfl (Nat.le_of_ble_eq_true rfl) ?_
        refine v_aload_n dX6_plain_49 rfl ?_
        obtain ⟨w13, e14, h⟩ := Option.bind_eq_some_iff.mp h
        refine v_callV (as := []) (st := []) (sX6_item e14) dX6_plain_50 mlX6_292 (CRn (by decide) (by decide)) sh_49 rfl rfl rfl (Nat.le_of_ble_eq_true rfl) ?_
        refine v_iinc (v := 1) (ls1 := [some (.ref 49), some (.int (y1 + (1 : Int32)))]) dX6_plain_53 rfl rfl (Nat.le_of_ble_eq_true rfl) rfl ?_
        refine v_goto (tgt := 24) dX6_plain_56 rfl ?_
        refine V.sub (ls' := [some (.ref 49), some (.int (y1 + (1 : Int32)))]) (And.intro rfl (And.intro rfl trivial)) ?_
        exact ih _ _ h
set_option maxRecDepth 100000 in
set_option maxHeartbeats 4000000 in
theorem sX6_plain {g : Wo} {M : Mem} {r : Int32 × Mem} (h : fX6_plain M = some r) : Sp g kX6_plain 8 [.ref 49] M (some (.int r.1)) r.2 := by
  rw [fX6_plain] at h
  refine Sp_intro (by decide) [some (.ref 49), none] rfl (Nat.le_of_ble_eq_true rfl) ?_
  refine v_aload_n dX6_plain_0 rfl ?_
  obtain ⟨w1, e2, h⟩ := Option.bind_eq_some_iff.mp h
  refine v_callV (as := []) (st := []) (sX6_saves e2) dX6_plain_1 mlX6_289 (CRn (by decide) (by decide)) sh_49 rfl rfl rfl (Nat.le_of_ble_eq_true rfl) ?_
  refine v_aload_n dX6_plain_4 rfl ?_
  refine v_iconst (v := 0) dX6_plain_5 rfl ?_
  refine v_putz dX6_plain_6 fpX6_209 sh_49 rfl z_0 ?_
  refine v_aload_n dX6_plain_9 rfl ?_
  refine v_iconst (v := 0) dX6_plain_10 rfl ?_
  refine v_puti dX6_plain_11 fpX6_194 sh_49 rfl ?_
  refine v_aload_n dX6_plain_14 rfl ?_
  obtain ⟨w3, e4, h⟩ := Option.bind_eq_some_iff.mp h
  refine v_callV (as := []) (st := []) (sX6_token e4) dX6_plain_15 mlX6_213 (CRn (by decide) (by decide)) sh_49 rfl rfl rfl (Nat.le_of_ble_eq_true rfl) ?_
  refine v_iconst (v := 1) dX6_plain_18 rfl ?_
  refine v_istore_n (ls1 := [some (.ref 49), some (.int (1 : Int32))]) dX6_plain_19 (Nat.le_of_ble_eq_true rfl) rfl ?_
  refine v_aload_n dX6_plain_20 rfl ?_
  obtain ⟨w5, e6, h⟩ := Option.bind_eq_some_iff.mp h
  refine v_callV (as := []) (st := []) (sX6_item e6) dX6_plain_21 mlX6_292 (CRn (by decide) (by decide)) sh_49 rfl rfl rfl (Nat.le_of_ble_eq_true rfl) ?_
  refine V.sub (ls' := [some (.ref 49), some (.int (1 : Int32))]) (And.intro rfl (And.intro rfl trivial)) ?_
  refine tX6_plain_24 (fun u15 M16 h => ?_) FU _ _ h
  refine v_aload_n dX6_plain_59 rfl ?_
  refine v_aload_n dX6_plain_60 rfl ?_
  refine v_geti dX6_plain_61 flX6_209 sh_49 rfl ?_
  have hJ : V g kX6_plain (jm g 8 (some (.int r.1)) r.2) 83 [some (.ref 49), some (.int u15)] [.int (if (M16.1 49 12) = 0 then (if (M16.1 49 8) ≤ (M16.1 49 9) then (0 : Int32) else (1 : Int32)) else (1 : Int32)), .ref 49] M16 := by
    refine v_putz dX6_plain_83 fpX6_209 sh_49 rfl (z_ite (z_ite z_0 z_1) z_1) ?_
    refine v_aload_n dX6_plain_86 rfl ?_
    refine v_geti dX6_plain_87 flX6_209 sh_49 rfl ?_
    obtain ⟨t21, e22, h⟩ := Option.bind_eq_some_iff.mp h
    have hJ : V g kX6_plain (jm g 8 (some (.int r.1)) r.2) 97 [some (.ref 49), some (.int u15)] [] t21 := by
      refine v_aload_n dX6_plain_97 rfl ?_
      refine v_iconst (v := 0) dX6_plain_98 rfl ?_
      refine v_puti dX6_plain_99 fpX6_182 sh_49 rfl ?_
      refine v_aload_n dX6_plain_102 rfl ?_
      refine v_geti dX6_plain_103 flX6_209 sh_49 rfl ?_
      refine v_if_eq (tgt := 118) dX6_plain_106 rfl (fun c25 => ?_) (fun c25 => ?_)
      · replace h := (if_pos c25).symm.trans h
        refine v_iload_n dX6_plain_118 rfl ?_
        replace h := Option.some.inj h; subst h
        exact v_iret rfl dX6_plain_119
      · replace h := (if_neg c25).symm.trans h
        refine v_iconst (v := -1) dX6_plain_109 rfl ?_
        refine v_aload_n dX6_plain_110 rfl ?_
        refine v_geti dX6_plain_111 flX6_197 sh_49 rfl ?_
        refine v_isub dX6_plain_114 ?_
        refine v_goto (tgt := 119) dX6_plain_115 rfl ?_
        replace h := Option.some.inj h; subst h
        exact v_iret rfl dX6_plain_119
    clear h
    have h := e22
    clear e22
    refine v_if_eq (tgt := 97) dX6_plain_90 rfl (fun c20 => ?_) (fun c20 => ?_)
    · replace h := (if_pos c20).symm.trans h
      replace h := Option.some.inj h; subst h
      refine V.sub (ls' := [some (.ref 49), some (.int u15)]) (And.intro rfl (And.intro rfl trivial)) ?_
      exact hJ
    · replace h := (if_neg c20).symm.trans h
      refine v_aload_n dX6_plain_93 rfl ?_
      obtain ⟨w23, e24, h⟩ := Option.bind_eq_some_iff.mp h
      refine v_callV (as := []) (st := []) (sX6_putsBack e24) dX6_plain_94 mlX6_295 (CRn (by decide) (by decide)) sh_49 rfl rfl rfl (Nat.le_of_ble_eq_true rfl) ?_
      replace h := Option.some.inj h; subst h
      refine V.sub (ls' := [some (.ref 49), some (.int u15)]) (And.intro rfl (And.intro rfl trivial)) ?_
      exact hJ
  refine v_if_ne (tgt := 78) dX6_plain_64 rfl (fun c17 => ?_) (fun c17 => ?_)
  · refine v_iconst (v := 1) dX6_plain_78 rfl ?_
    refine v_goto (tgt := 83) dX6_plain_79 rfl ?_
    refine V.sub (ls' := [some (.ref 49), some (.int u15)]) (And.intro rfl (And.intro rfl trivial)) ?_
    first | (simp only [if_neg c17] at hJ; exact hJ) | exact hJ | (simp only [if_neg c17] at hJ ⊢; exact hJ)
  · refine v_aload_n dX6_plain_67 rfl ?_
    refine v_geti dX6_plain_68 flX6_197 sh_49 rfl ?_
    refine v_aload_n dX6_plain_71 rfl ?_
    refine v_geti dX6_plain_72 flX6_182 sh_49 rfl ?_
    refine v_icmp_ge (tgt := 82) dX6_plain_75 rfl (fun c18 => ?_) (fun c18 => ?_)
    · refine v_iconst (v := 0) dX6_plain_82 rfl ?_
      refine V.sub (ls' := [some (.ref 49), some (.int u15)]) (And.intro rfl (And.intro rfl trivial)) ?_
      first | (simp only [if_pos c17, if_pos c18] at hJ; exact hJ) | exact hJ | (simp only [if_pos c17, if_pos c18] at hJ ⊢; exact hJ)
    · refine v_iconst (v := 1) dX6_plain_78 rfl ?_
      refine v_goto (tgt := 83) dX6_plain_79 rfl ?_
      refine V.sub (ls' := [some (.ref 49), some (.int u15)]) (And.intro rfl (And.intro rfl trivial)) ?_
      first | (simp only [if_pos c17, if_neg c18] at hJ; exact hJ) | exact hJ | (simp only [if_pos c17, if_neg c18] at hJ ⊢; exact hJ)
/-! ===== BentPlainModel.isOne(I)Z ===== -/
def fX6_isOne (x0 : Int32) : Int32 := (fX6_in ((x0).toInt64) (0 : Int64) (3 : Int64))
set_option maxRecDepth 100000 in
set_option maxHeartbeats 4000000 in
theorem sX6_isOne {g : Wo} {M : Mem} {x0 : Int32} {r : Int32} (h : fX6_isOne x0 = r) : Sp g kX6_isOne 1 [.int x0] M (some (.int r)) M := by
  rw [fX6_isOne] at h
  refine Sp_intro (by decide) [some (.int x0)] rfl (Nat.le_of_ble_eq_true rfl) ?_
  refine v_iload_n dX6_isOne_0 rfl ?_
  refine v_i2l dX6_isOne_1 ?_
  refine v_lconst (v := 0) dX6_isOne_2 rfl ?_
  refine v_ldc2 (v := 3) dX6_isOne_3 w_862 ?_
  refine v_callS (as := [.long ((x0).toInt64), .long (0 : Int64), .long (3 : Int64)]) (st := []) (sX6_in rfl) dX6_isOne_6 mlX6_45 (CRn (by decide) (by decide)) rfl rfl (Nat.le_of_ble_eq_true rfl) ?_
  subst h
  exact v_zret rfl (z_nar (zX6_in ((x0).toInt64) (0 : Int64) (3 : Int64))) dX6_isOne_9
/-! ===== BentPlainModel.sheet(III)I ===== -/
def fX6_sheet_86 {ρ : Type} (kx : Mem → Option ρ) (y1 : Int32) : Nat → Int32 → Mem → Option ρ
  | 0, _, _ => none
  | n + 1, y4, M => (if (40 : Int32) ≤ y4 then (kx M) else ((stJ M 59 160 (((40 : Int32) * y1) + y4) (0 : Int64)).bind fun M13 => (fX6_sheet_86 kx y1 n (y4 + (1 : Int32)) M13)))
def fX6_sheet (x1 : Int32) (x2 : Int32) (x3 : Int32) (M : Mem) : Option (Int32 × Mem) := (if (fX6_isOne x1) = 0 then ((fX6_finds (-1000000001 : Int32) M).bind fun w2 => some (w2.1, w2.2)) else (if x2 = 0 then (if 0 ≤ x3 then (if x3 ≤ (40 : Int32) then ((stI M 57 4 x1 x2).bind fun M7 => ((stI M7 58 4 x1 (if x2 = 0 then (0 : Int32) else x3)).bind fun M10 => (fX6_sheet_86 (fun M15 => ((ldI M15 58 4 x1).bind fun v16 => some (v16, M15))) x1 FU (0 : Int32) M10))) else ((fX6_finds (-1000000001 : Int32) M).bind fun w18 => some (w18.1, w18.2))) else ((fX6_finds (-1000000007 : Int32) M).bind fun w20 => some (w20.1, w20.2))) else (if x2 = (8 : Int32) then (if 0 ≤ x3 then (if x3 ≤ (40 : Int32) then ((stI M 57 4 x1 x2).bind fun M25 => ((stI M25 58 4 x1 (if x2 = 0 then (0 : Int32) else x3)).bind fun M28 => (fX6_sheet_86 (fun M33 => ((ldI M33 58 4 x1).bind fun v34 => some (v34, M33))) x1 FU (0 : Int32) M28))) else ((fX6_finds (-1000000001 : Int32) M).bind fun w36 => some (w36.1, w36.2))) else ((fX6_finds (-1000000007 : Int32) M).bind fun w38 => some (w38.1, w38.2))) else (if x2 = (16 : Int32) then (if 0 ≤ x3 then (if x3 ≤ (40 : Int32) then ((stI M 57 4 x1 x2).bind fun M43 => ((stI M43 58 4 x1 (if x2 = 0 then (0 : Int32) else x3)).bind fun M46 => (fX6_sheet_86 (fun M51 => ((ldI M51 58 4 x1).bind fun v52 => some (v52, M51))) x1 FU (0 : Int32) M46))) else ((fX6_finds (-1000000001 : Int32) M).bind fun w54 => some (w54.1, w54.2))) else ((fX6_finds (-1000000007 : Int32) M).bind fun w56 => some (w56.1, w56.2))) else (if x2 = (64 : Int32) then (if 0 ≤ x3 then (if x3 ≤ (40 : Int32) then ((stI M 57 4 x1 x2).bind fun M61 => ((stI M61 58 4 x1 (if x2 = 0 then (0 : Int32) else x3)).bind fun M64 => (fX6_sheet_86 (fun M69 => ((ldI M69 58 4 x1).bind fun v70 => some (v70, M69))) x1 FU (0 : Int32) M64))) else ((fX6_finds (-1000000001 : Int32) M).bind fun w72 => some (w72.1, w72.2))) else ((fX6_finds (-1000000007 : Int32) M).bind fun w74 => some (w74.1, w74.2))) else ((fX6_finds (-1000000001 : Int32) M).bind fun w76 => some (w76.1, w76.2)))))))
set_option maxRecDepth 100000 in
set_option maxHeartbeats 4000000 in
theorem tX6_sheet_86 {g : Wo} {ρ : Type} {kx : Mem → Option ρ} {y1 : Int32} {r : ρ} {rr : Option Value} {Mr : Mem} (hk : ∀ (Mx : Mem), kx Mx = some r → V g kX6_sheet (jm g 2 rr Mr) 112 [some (.ref 49), some (.int y1), none, none, none] [] Mx) : ∀ (n : Nat) (y4 : Int32) (M : Mem), fX6_sheet_86 kx y1 n y4 M = some r → V g kX6_sheet (jm g 2 rr Mr) 86 [some (.ref 49), some (.int y1), none, none, some (.int y4)] [] M := by
  intro n
  induction n with
  | zero =>
    intro y4 M h
    rw [fX6_sheet_86] at h
    cases h
  | succ n ih =>
    intro y4 M h
    rw [fX6_sheet_86] at h
    refine v_iload dX6_sheet_86 rfl ?_
    refine v_bipush (v := 40) dX6_sheet_88 rfl ?_
    refine v_icmp_ge (tgt := 112) dX6_sheet_90 rfl (fun c12 => ?_) (fun c12 => ?_)
    · replace h := (if_pos c12).symm.trans h
      refine V.sub (ls' := [some (.ref 49), some (.int y1), none, none, none]) (And.intro rfl (And.intro rfl trivial)) ?_
      exact hk _ h
    · replace h := (if_neg c12).symm.trans h
      refine v_aload_n dX6_sheet_93 rfl ?_
      refine v_getr dX6_sheet_94 flX6_37 sh_49 rfl ?_
      refine v_bipush (v := 40) dX6_sheet_97 rfl ?_
      refine v_iload_n dX6_sheet_99 rfl ?_
      refine v_imul dX6_sheet_100 ?_
      refine v_iload dX6_sheet_101 rfl ?_
      refine v_iadd dX6_sheet_103 ?_
      refine v_lconst (v := 0) dX6_sheet_104 rfl ?_
      obtain ⟨M13, e14, h⟩ := Option.bind_eq_some_iff.mp h
      refine v_lst e14 dX6_sheet_105 sh_59 ?_
      refine v_iinc (v := 1) (ls1 := [some (.ref 49), some (.int y1), none, none, some (.int (y4 + (1 : Int32)))]) dX6_sheet_106 rfl rfl (Nat.le_of_ble_eq_true rfl) rfl ?_
      refine v_goto (tgt := 86) dX6_sheet_109 rfl ?_
      refine V.sub (ls' := [some (.ref 49), some (.int y1), none, none, some (.int (y4 + (1 : Int32)))]) (And.intro rfl (And.intro rfl (And.intro rfl trivial))) ?_
      exact ih _ _ h
set_option maxRecDepth 100000 in
set_option maxHeartbeats 4000000 in
theorem sX6_sheet {g : Wo} {M : Mem} {x1 : Int32} {x2 : Int32} {x3 : Int32} {r : Int32 × Mem} (h : fX6_sheet x1 x2 x3 M = some r) : Sp g kX6_sheet 2 [.ref 49, .int x1, .int x2, .int x3] M (some (.int r.1)) r.2 := by
  rw [fX6_sheet] at h
  refine Sp_intro (by decide) [some (.ref 49), some (.int x1), some (.int x2), some (.int x3), none] rfl (Nat.le_of_ble_eq_true rfl) ?_
  refine v_iload_n dX6_sheet_0 rfl ?_
  refine v_callS (as := [.int x1]) (st := []) (sX6_isOne rfl) dX6_sheet_1 mlX6_298 (CRn (by decide) (by decide)) rfl rfl (Nat.le_of_ble_eq_true rfl) ?_
  refine v_if_eq (tgt := 29) dX6_sheet_4 rfl (fun c1 => ?_) (fun c1 => ?_)
  · replace h := (if_pos c1).symm.trans h
    refine v_aload_n dX6_sheet_29 rfl ?_
    refine v_ldc (v := -1000000001) dX6_sheet_30 w_809 ?_
    obtain ⟨w2, e3, h⟩ := Option.bind_eq_some_iff.mp h
    refine v_callV (as := [.int (-1000000001 : Int32)]) (st := []) (sX6_finds e3) dX6_sheet_32 mlX6_69 (CRn (by decide) (by decide)) sh_49 rfl rfl rfl (Nat.le_of_ble_eq_true rfl) ?_
    replace h := Option.some.inj h; subst h
    exact v_iret rfl dX6_sheet_35
  · replace h := (if_neg c1).symm.trans h
    refine v_iload_n dX6_sheet_7 rfl ?_
    refine v_if_eq (tgt := 36) dX6_sheet_8 rfl (fun c4 => ?_) (fun c4 => ?_)
    · replace h := (if_pos c4).symm.trans h
      refine v_iload_n dX6_sheet_36 rfl ?_
      refine v_if_ge (tgt := 48) dX6_sheet_37 rfl (fun c5 => ?_) (fun c5 => ?_)
      · replace h := (if_pos c5).symm.trans h
        refine v_iload_n dX6_sheet_48 rfl ?_
        refine v_bipush (v := 40) dX6_sheet_49 rfl ?_
        refine v_icmp_le (tgt := 61) dX6_sheet_51 rfl (fun c6 => ?_) (fun c6 => ?_)
        · replace h := (if_pos c6).symm.trans h
          refine v_aload_n dX6_sheet_61 rfl ?_
          refine v_getr dX6_sheet_62 flX6_31 sh_49 rfl ?_
          refine v_iload_n dX6_sheet_65 rfl ?_
          refine v_iload_n dX6_sheet_66 rfl ?_
          obtain ⟨M7, e8, h⟩ := Option.bind_eq_some_iff.mp h
          refine v_ist e8 dX6_sheet_67 sh_57 ?_
          refine v_aload_n dX6_sheet_68 rfl ?_
          refine v_getr dX6_sheet_69 flX6_34 sh_49 rfl ?_
          refine v_iload_n dX6_sheet_72 rfl ?_
          refine v_iload_n dX6_sheet_73 rfl ?_
          have hJ : V g kX6_sheet (jm g 2 (some (.int r.1)) r.2) 82 [some (.ref 49), some (.int x1), none, none, none] [.int (if x2 = 0 then (0 : Int32) else x3), .int x1, .ref 58] M7 := by
            obtain ⟨M10, e11, h⟩ := Option.bind_eq_some_iff.mp h
            refine v_ist e11 dX6_sheet_82 sh_58 ?_
            refine v_iconst (v := 0) dX6_sheet_83 rfl ?_
            refine v_istore (ls1 := [some (.ref 49), some (.int x1), none, none, some (.int (0 : Int32))]) dX6_sheet_84 (Nat.le_of_ble_eq_true rfl) rfl ?_
            refine V.sub (ls' := [some (.ref 49), some (.int x1), none, none, some (.int (0 : Int32))]) (And.intro rfl (And.intro rfl (And.intro rfl trivial))) ?_
            refine tX6_sheet_86 (fun M15 h => ?_) FU _ _ h
            refine v_aload_n dX6_sheet_112 rfl ?_
            refine v_getr dX6_sheet_113 flX6_34 sh_49 rfl ?_
            refine v_iload_n dX6_sheet_116 rfl ?_
            obtain ⟨v16, e17, h⟩ := Option.bind_eq_some_iff.mp h
            refine v_ild e17 dX6_sheet_117 sh_58 ?_
            replace h := Option.some.inj h; subst h
            exact v_iret rfl dX6_sheet_118
          refine v_if_ne (tgt := 81) dX6_sheet_74 rfl (fun c9 => ?_) (fun c9 => ?_)
          · refine v_iload_n dX6_sheet_81 rfl ?_
            refine V.sub (ls' := [some (.ref 49), some (.int x1), none, none, none]) (And.intro rfl (And.intro rfl trivial)) ?_
            first | (simp only [if_neg c9] at hJ; exact hJ) | exact hJ | (simp only [if_neg c9] at hJ ⊢; exact hJ)
          · refine v_iconst (v := 0) dX6_sheet_77 rfl ?_
            refine v_goto (tgt := 82) dX6_sheet_78 rfl ?_
            refine V.sub (ls' := [some (.ref 49), some (.int x1), none, none, none]) (And.intro rfl (And.intro rfl trivial)) ?_
            first | (simp only [if_pos c9] at hJ; exact hJ) | exact hJ | (simp only [if_pos c9] at hJ ⊢; exact hJ)
        · replace h := (if_neg c6).symm.trans h
          refine v_aload_n dX6_sheet_54 rfl ?_
          refine v_ldc (v := -1000000001) dX6_sheet_55 w_809 ?_
          obtain ⟨w18, e19, h⟩ := Option.bind_eq_some_iff.mp h
          refine v_callV (as := [.int (-1000000001 : Int32)]) (st := []) (sX6_finds e19) dX6_sheet_57 mlX6_69 (CRn (by decide) (by decide)) sh_49 rfl rfl rfl (Nat.le_of_ble_eq_true rfl) ?_
          replace h := Option.some.inj h; subst h
          exact v_iret rfl dX6_sheet_60
      · replace h := (if_neg c5).symm.trans h
        refine v_aload_n dX6_sheet_40 rfl ?_
        refine v_ldcw (v := -1000000007) dX6_sheet_41 w_1196 ?_
        obtain ⟨w20, e21, h⟩ := Option.bind_eq_some_iff.mp h
        refine v_callV (as := [.int (-1000000007 : Int32)]) (st := []) (sX6_finds e21) dX6_sheet_44 mlX6_69 (CRn (by decide) (by decide)) sh_49 rfl rfl rfl (Nat.le_of_ble_eq_true rfl) ?_
        replace h := Option.some.inj h; subst h
        exact v_iret rfl dX6_sheet_47
    · replace h := (if_neg c4).symm.trans h
      refine v_iload_n dX6_sheet_11 rfl ?_
      refine v_bipush (v := 8) dX6_sheet_12 rfl ?_
      refine v_icmp_eq (tgt := 36) dX6_sheet_14 rfl (fun c22 => ?_) (fun c22 => ?_)
      · replace h := (if_pos c22).symm.trans h
        refine v_iload_n dX6_sheet_36 rfl ?_
        refine v_if_ge (tgt := 48) dX6_sheet_37 rfl (fun c23 => ?_) (fun c23 => ?_)
        · replace h := (if_pos c23).symm.trans h
          refine v_iload_n dX6_sheet_48 rfl ?_
          refine v_bipush (v := 40) dX6_sheet_49 rfl ?_
          refine v_icmp_le (tgt := 61) dX6_sheet_51 rfl (fun c24 => ?_) (fun c24 => ?_)
          · replace h := (if_pos c24).symm.trans h
            refine v_aload_n dX6_sheet_61 rfl ?_
            refine v_getr dX6_sheet_62 flX6_31 sh_49 rfl ?_
            refine v_iload_n dX6_sheet_65 rfl ?_
            refine v_iload_n dX6_sheet_66 rfl ?_
            obtain ⟨M25, e26, h⟩ := Option.bind_eq_some_iff.mp h
            refine v_ist e26 dX6_sheet_67 sh_57 ?_
            refine v_aload_n dX6_sheet_68 rfl ?_
            refine v_getr dX6_sheet_69 flX6_34 sh_49 rfl ?_
            refine v_iload_n dX6_sheet_72 rfl ?_
            refine v_iload_n dX6_sheet_73 rfl ?_
            have hJ : V g kX6_sheet (jm g 2 (some (.int r.1)) r.2) 82 [some (.ref 49), some (.int x1), none, none, none] [.int (if x2 = 0 then (0 : Int32) else x3), .int x1, .ref 58] M25 := by
              obtain ⟨M28, e29, h⟩ := Option.bind_eq_some_iff.mp h
              refine v_ist e29 dX6_sheet_82 sh_58 ?_
              refine v_iconst (v := 0) dX6_sheet_83 rfl ?_
              refine v_istore (ls1 := [some (.ref 49), some (.int x1), none, none, some (.int (0 : Int32))]) dX6_sheet_84 (Nat.le_of_ble_eq_true rfl) rfl ?_
              refine V.sub (ls' := [some (.ref 49), some (.int x1), none, none, some (.int (0 : Int32))]) (And.intro rfl (And.intro rfl (And.intro rfl trivial))) ?_
              refine tX6_sheet_86 (fun M33 h => ?_) FU _ _ h
              refine v_aload_n dX6_sheet_112 rfl ?_
              refine v_getr dX6_sheet_113 flX6_34 sh_49 rfl ?_
              refine v_iload_n dX6_sheet_116 rfl ?_
              obtain ⟨v34, e35, h⟩ := Option.bind_eq_some_iff.mp h
              refine v_ild e35 dX6_sheet_117 sh_58 ?_
              replace h := Option.some.inj h; subst h
              exact v_iret rfl dX6_sheet_118
            refine v_if_ne (tgt := 81) dX6_sheet_74 rfl (fun c27 => ?_) (fun c27 => ?_)
            · refine v_iload_n dX6_sheet_81 rfl ?_
              refine V.sub (ls' := [some (.ref 49), some (.int x1), none, none, none]) (And.intro rfl (And.intro rfl trivial)) ?_
              first | (simp only [if_neg c27] at hJ; exact hJ) | exact hJ | (simp only [if_neg c27] at hJ ⊢; exact hJ)
            · refine v_iconst (v := 0) dX6_sheet_77 rfl ?_
              refine v_goto (tgt := 82) dX6_sheet_78 rfl ?_
              refine V.sub (ls' := [some (.ref 49), some (.int x1), none, none, none]) (And.intro rfl (And.intro rfl trivial)) ?_
              first | (simp only [if_pos c27] at hJ; exact hJ) | exact hJ | (simp only [if_pos c27] at hJ ⊢; exact hJ)
          · replace h := (if_neg c24).symm.trans h
            refine v_aload_n dX6_sheet_54 rfl ?_
            refine v_ldc (v := -1000000001) dX6_sheet_55 w_809 ?_
            obtain ⟨w36, e37, h⟩ := Option.bind_eq_some_iff.mp h
            refine v_callV (as := [.int (-1000000001 : Int32)]) (st := []) (sX6_finds e37) dX6_sheet_57 mlX6_69 (CRn (by decide) (by decide)) sh_49 rfl rfl rfl (Nat.le_of_ble_eq_true rfl) ?_
            replace h := Option.some.inj h; subst h
            exact v_iret rfl dX6_sheet_60
        · replace h := (if_neg c23).symm.trans h
          refine v_aload_n dX6_sheet_40 rfl ?_
          refine v_ldcw (v := -1000000007) dX6_sheet_41 w_1196 ?_
          obtain ⟨w38, e39, h⟩ := Option.bind_eq_some_iff.mp h
          refine v_callV (as := [.int (-1000000007 : Int32)]) (st := []) (sX6_finds e39) dX6_sheet_44 mlX6_69 (CRn (by decide) (by decide)) sh_49 rfl rfl rfl (Nat.le_of_ble_eq_true rfl) ?_
          replace h := Option.some.inj h; subst h
          exact v_iret rfl dX6_sheet_47
      · replace h := (if_neg c22).symm.trans h
        refine v_iload_n dX6_sheet_17 rfl ?_
        refine v_bipush (v := 16) dX6_sheet_18 rfl ?_
        refine v_icmp_eq (tgt := 36) dX6_sheet_20 rfl (fun c40 => ?_) (fun c40 => ?_)
        · replace h := (if_pos c40).symm.trans h
          refine v_iload_n dX6_sheet_36 rfl ?_
          refine v_if_ge (tgt := 48) dX6_sheet_37 rfl (fun c41 => ?_) (fun c41 => ?_)
          · replace h := (if_pos c41).symm.trans h
            refine v_iload_n dX6_sheet_48 rfl ?_
            refine v_bipush (v := 40) dX6_sheet_49 rfl ?_
            refine v_icmp_le (tgt := 61) dX6_sheet_51 rfl (fun c42 => ?_) (fun c42 => ?_)
            · replace h := (if_pos c42).symm.trans h
              refine v_aload_n dX6_sheet_61 rfl ?_
              refine v_getr dX6_sheet_62 flX6_31 sh_49 rfl ?_
              refine v_iload_n dX6_sheet_65 rfl ?_
              refine v_iload_n dX6_sheet_66 rfl ?_
              obtain ⟨M43, e44, h⟩ := Option.bind_eq_some_iff.mp h
              refine v_ist e44 dX6_sheet_67 sh_57 ?_
              refine v_aload_n dX6_sheet_68 rfl ?_
              refine v_getr dX6_sheet_69 flX6_34 sh_49 rfl ?_
              refine v_iload_n dX6_sheet_72 rfl ?_
              refine v_iload_n dX6_sheet_73 rfl ?_
              have hJ : V g kX6_sheet (jm g 2 (some (.int r.1)) r.2) 82 [some (.ref 49), some (.int x1), none, none, none] [.int (if x2 = 0 then (0 : Int32) else x3), .int x1, .ref 58] M43 := by
                obtain ⟨M46, e47, h⟩ := Option.bind_eq_some_iff.mp h
                refine v_ist e47 dX6_sheet_82 sh_58 ?_
                refine v_iconst (v := 0) dX6_sheet_83 rfl ?_
                refine v_istore (ls1 := [some (.ref 49), some (.int x1), none, none, some (.int (0 : Int32))]) dX6_sheet_84 (Nat.le_of_ble_eq_true rfl) rfl ?_
                refine V.sub (ls' := [some (.ref 49), some (.int x1), none, none, some (.int (0 : Int32))]) (And.intro rfl (And.intro rfl (And.intro rfl trivial))) ?_
                refine tX6_sheet_86 (fun M51 h => ?_) FU _ _ h
                refine v_aload_n dX6_sheet_112 rfl ?_
                refine v_getr dX6_sheet_113 flX6_34 sh_49 rfl ?_
                refine v_iload_n dX6_sheet_116 rfl ?_
                obtain ⟨v52, e53, h⟩ := Option.bind_eq_some_iff.mp h
                refine v_ild e53 dX6_sheet_117 sh_58 ?_
                replace h := Option.some.inj h; subst h
                exact v_iret rfl dX6_sheet_118
              refine v_if_ne (tgt := 81) dX6_sheet_74 rfl (fun c45 => ?_) (fun c45 => ?_)
              · refine v_iload_n dX6_sheet_81 rfl ?_
                refine V.sub (ls' := [some (.ref 49), some (.int x1), none, none, none]) (And.intro rfl (And.intro rfl trivial)) ?_
                first | (simp only [if_neg c45] at hJ; exact hJ) | exact hJ | (simp only [if_neg c45] at hJ ⊢; exact hJ)
              · refine v_iconst (v := 0) dX6_sheet_77 rfl ?_
                refine v_goto (tgt := 82) dX6_sheet_78 rfl ?_
                refine V.sub (ls' := [some (.ref 49), some (.int x1), none, none, none]) (And.intro rfl (And.intro rfl trivial)) ?_
                first | (simp only [if_pos c45] at hJ; exact hJ) | exact hJ | (simp only [if_pos c45] at hJ ⊢; exact hJ)
            · replace h := (if_neg c42).symm.trans h
              refine v_aload_n dX6_sheet_54 rfl ?_
              refine v_ldc (v := -1000000001) dX6_sheet_55 w_809 ?_
              obtain ⟨w54, e55, h⟩ := Option.bind_eq_some_iff.mp h
              refine v_callV (as := [.int (-1000000001 : Int32)]) (st := []) (sX6_finds e55) dX6_sheet_57 mlX6_69 (CRn (by decide) (by decide)) sh_49 rfl rfl rfl (Nat.le_of_ble_eq_true rfl) ?_
              replace h := Option.some.inj h; subst h
              exact v_iret rfl dX6_sheet_60
          · replace h := (if_neg c41).symm.trans h
            refine v_aload_n dX6_sheet_40 rfl ?_
            refine v_ldcw (v := -1000000007) dX6_sheet_41 w_1196 ?_
            obtain ⟨w56, e57, h⟩ := Option.bind_eq_some_iff.mp h
            refine v_callV (as := [.int (-1000000007 : Int32)]) (st := []) (sX6_finds e57) dX6_sheet_44 mlX6_69 (CRn (by decide) (by decide)) sh_49 rfl rfl rfl (Nat.le_of_ble_eq_true rfl) ?_
            replace h := Option.some.inj h; subst h
            exact v_iret rfl dX6_sheet_47
        · replace h := (if_neg c40).symm.trans h
          refine v_iload_n dX6_sheet_23 rfl ?_
          refine v_bipush (v := 64) dX6_sheet_24 rfl ?_
          refine v_icmp_eq (tgt := 36) dX6_sheet_26 rfl (fun c58 => ?_) (fun c58 => ?_)
          · replace h := (if_pos c58).symm.trans h
            refine v_iload_n dX6_sheet_36 rfl ?_
            refine v_if_ge (tgt := 48) dX6_sheet_37 rfl (fun c59 => ?_) (fun c59 => ?_)
            · replace h := (if_pos c59).symm.trans h
              refine v_iload_n dX6_sheet_48 rfl ?_
              refine v_bipush (v := 40) dX6_sheet_49 rfl ?_
              refine v_icmp_le (tgt := 61) dX6_sheet_51 rfl (fun c60 => ?_) (fun c60 => ?_)
              · replace h := (if_pos c60).symm.trans h
                refine v_aload_n dX6_sheet_61 rfl ?_
                refine v_getr dX6_sheet_62 flX6_31 sh_49 rfl ?_
                refine v_iload_n dX6_sheet_65 rfl ?_
                refine v_iload_n dX6_sheet_66 rfl ?_
                obtain ⟨M61, e62, h⟩ := Option.bind_eq_some_iff.mp h
                refine v_ist e62 dX6_sheet_67 sh_57 ?_
                refine v_aload_n dX6_sheet_68 rfl ?_
                refine v_getr dX6_sheet_69 flX6_34 sh_49 rfl ?_
                refine v_iload_n dX6_sheet_72 rfl ?_
                refine v_iload_n dX6_sheet_73 rfl ?_
                have hJ : V g kX6_sheet (jm g 2 (some (.int r.1)) r.2) 82 [some (.ref 49), some (.int x1), none, none, none] [.int (if x2 = 0 then (0 : Int32) else x3), .int x1, .ref 58] M61 := by
                  obtain ⟨M64, e65, h⟩ := Option.bind_eq_some_iff.mp h
                  refine v_ist e65 dX6_sheet_82 sh_58 ?_
                  refine v_iconst (v := 0) dX6_sheet_83 rfl ?_
                  refine v_istore (ls1 := [some (.ref 49), some (.int x1), none, none, some (.int (0 : Int32))]) dX6_sheet_84 (Nat.le_of_ble_eq_true rfl) rfl ?_
                  refine V.sub (ls' := [some (.ref 49), some (.int x1), none, none, some (.int (0 : Int32))]) (And.intro rfl (And.intro rfl (And.intro rfl trivial))) ?_
                  refine tX6_sheet_86 (fun M69 h => ?_) FU _ _ h
                  refine v_aload_n dX6_sheet_112 rfl ?_
                  refine v_getr dX6_sheet_113 flX6_34 sh_49 rfl ?_
                  refine v_iload_n dX6_sheet_116 rfl ?_
                  obtain ⟨v70, e71, h⟩ := Option.bind_eq_some_iff.mp h
                  refine v_ild e71 dX6_sheet_117 sh_58 ?_
                  replace h := Option.some.inj h; subst h
                  exact v_iret rfl dX6_sheet_118
                refine v_if_ne (tgt := 81) dX6_sheet_74 rfl (fun c63 => ?_) (fun c63 => ?_)
                · refine v_iload_n dX6_sheet_81 rfl ?_
                  refine V.sub (ls' := [some (.ref 49), some (.int x1), none, none, none]) (And.intro rfl (And.intro rfl trivial)) ?_
                  first | (simp only [if_neg c63] at hJ; exact hJ) | exact hJ | (simp only [if_neg c63] at hJ ⊢; exact hJ)
                · refine v_iconst (v := 0) dX6_sheet_77 rfl ?_
                  refine v_goto (tgt := 82) dX6_sheet_78 rfl ?_
                  refine V.sub (ls' := [some (.ref 49), some (.int x1), none, none, none]) (And.intro rfl (And.intro rfl trivial)) ?_
                  first | (simp only [if_pos c63] at hJ; exact hJ) | exact hJ | (simp only [if_pos c63] at hJ ⊢; exact hJ)
              · replace h := (if_neg c60).symm.trans h
                refine v_aload_n dX6_sheet_54 rfl ?_
                refine v_ldc (v := -1000000001) dX6_sheet_55 w_809 ?_
                obtain ⟨w72, e73, h⟩ := Option.bind_eq_some_iff.mp h
                refine v_callV (as := [.int (-1000000001 : Int32)]) (st := []) (sX6_finds e73) dX6_sheet_57 mlX6_69 (CRn (by decide) (by decide)) sh_49 rfl rfl rfl (Nat.le_of_ble_eq_true rfl) ?_
                replace h := Option.some.inj h; subst h
                exact v_iret rfl dX6_sheet_60
            · replace h := (if_neg c59).symm.trans h
              refine v_aload_n dX6_sheet_40 rfl ?_
              refine v_ldcw (v := -1000000007) dX6_sheet_41 w_1196 ?_
              obtain ⟨w74, e75, h⟩ := Option.bind_eq_some_iff.mp h
              refine v_callV (as := [.int (-1000000007 : Int32)]) (st := []) (sX6_finds e75) dX6_sheet_44 mlX6_69 (CRn (by decide) (by decide)) sh_49 rfl rfl rfl (Nat.le_of_ble_eq_true rfl) ?_
              replace h := Option.some.inj h; subst h
              exact v_iret rfl dX6_sheet_47
          · replace h := (if_neg c58).symm.trans h
            refine v_aload_n dX6_sheet_29 rfl ?_
            refine v_ldc (v := -1000000001) dX6_sheet_30 w_809 ?_
            obtain ⟨w76, e77, h⟩ := Option.bind_eq_some_iff.mp h
            refine v_callV (as := [.int (-1000000001 : Int32)]) (st := []) (sX6_finds e77) dX6_sheet_32 mlX6_69 (CRn (by decide) (by decide)) sh_49 rfl rfl rfl (Nat.le_of_ble_eq_true rfl) ?_
            replace h := Option.some.inj h; subst h
            exact v_iret rfl dX6_sheet_35
/-! ===== BentPlainModel.wrong(I)I ===== -/
def fX6_wrong (x1 : Int32) (M : Mem) : Option Int32 := (if (fX6_isOne x1) = 0 then some (-1000000001 : Int32) else ((ldI M 57 4 x1).bind fun v2 => (if v2 = 0 then some (-1000000006 : Int32) else some (0 : Int32))))
set_option maxRecDepth 100000 in
set_option maxHeartbeats 4000000 in
theorem sX6_wrong {g : Wo} {M : Mem} {x1 : Int32} {r : Int32} (h : fX6_wrong x1 M = some r) : Sp g kX6_wrong 2 [.ref 49, .int x1] M (some (.int r)) M := by
  rw [fX6_wrong] at h
  refine Sp_intro (by decide) [some (.ref 49), some (.int x1)] rfl (Nat.le_of_ble_eq_true rfl) ?_
  refine v_iload_n dX6_wrong_0 rfl ?_
  refine v_callS (as := [.int x1]) (st := []) (sX6_isOne rfl) dX6_wrong_1 mlX6_298 (CRn (by decide) (by decide)) rfl rfl (Nat.le_of_ble_eq_true rfl) ?_
  refine v_if_ne (tgt := 12) dX6_wrong_4 rfl (fun c1 => ?_) (fun c1 => ?_)
  · replace h := (if_neg c1).symm.trans h
    refine v_aload_n dX6_wrong_12 rfl ?_
    refine v_getr dX6_wrong_13 flX6_31 sh_49 rfl ?_
    refine v_iload_n dX6_wrong_16 rfl ?_
    obtain ⟨v2, e3, h⟩ := Option.bind_eq_some_iff.mp h
    refine v_ild e3 dX6_wrong_17 sh_57 ?_
    refine v_if_ne (tgt := 27) dX6_wrong_18 rfl (fun c4 => ?_) (fun c4 => ?_)
    · replace h := (if_neg c4).symm.trans h
      refine v_iconst (v := 0) dX6_wrong_27 rfl ?_
      replace h := Option.some.inj h; subst h
      exact v_iret rfl dX6_wrong_28
    · replace h := (if_pos c4).symm.trans h
      refine v_ldcw (v := -1000000006) dX6_wrong_21 w_1205 ?_
      refine v_goto (tgt := 28) dX6_wrong_24 rfl ?_
      replace h := Option.some.inj h; subst h
      exact v_iret rfl dX6_wrong_28
  · replace h := (if_pos c1).symm.trans h
    refine v_ldc (v := -1000000001) dX6_wrong_7 w_809 ?_
    refine v_goto (tgt := 28) dX6_wrong_9 rfl ?_
    replace h := Option.some.inj h; subst h
    exact v_iret rfl dX6_wrong_28
/-! ===== BentPlainModel.narrowed(IJ)J ===== -/
def fX6_narrowed (x0 : Int32) (x1 : Int64) : Int64 := (if x0 = (8 : Int32) then ((((((x1).toInt32)).toInt8.toInt32)).toInt64) else (if x0 = (16 : Int32) then ((((((x1).toInt32)).toInt16.toInt32)).toInt64) else x1))
set_option maxRecDepth 100000 in
set_option maxHeartbeats 4000000 in
theorem sX6_narrowed {g : Wo} {M : Mem} {x0 : Int32} {x1 : Int64} {r : Int64} (h : fX6_narrowed x0 x1 = r) : Sp g kX6_narrowed 0 [.int x0, .long x1] M (some (.long r)) M := by
  rw [fX6_narrowed] at h
  refine Sp_intro (by decide) [some (.int x0), some (.long x1), none] rfl (Nat.le_of_ble_eq_true rfl) ?_
  refine v_iload_n dX6_narrowed_0 rfl ?_
  refine v_bipush (v := 8) dX6_narrowed_1 rfl ?_
  refine v_icmp_ne (tgt := 13) dX6_narrowed_3 rfl (fun c1 => ?_) (fun c1 => ?_)
  · replace h := (if_neg c1).symm.trans h
    refine v_iload_n dX6_narrowed_13 rfl ?_
    refine v_bipush (v := 16) dX6_narrowed_14 rfl ?_
    refine v_icmp_ne (tgt := 26) dX6_narrowed_16 rfl (fun c2 => ?_) (fun c2 => ?_)
    · replace h := (if_neg c2).symm.trans h
      refine v_lload_n dX6_narrowed_26 rfl ?_
      subst h
      exact v_lret rfl dX6_narrowed_27
    · replace h := (if_pos c2).symm.trans h
      refine v_lload_n dX6_narrowed_19 rfl ?_
      refine v_l2i dX6_narrowed_20 ?_
      refine v_i2s dX6_narrowed_21 ?_
      refine v_i2l dX6_narrowed_22 ?_
      refine v_goto (tgt := 27) dX6_narrowed_23 rfl ?_
      subst h
      exact v_lret rfl dX6_narrowed_27
  · replace h := (if_pos c1).symm.trans h
    refine v_lload_n dX6_narrowed_6 rfl ?_
    refine v_l2i dX6_narrowed_7 ?_
    refine v_i2b dX6_narrowed_8 ?_
    refine v_i2l dX6_narrowed_9 ?_
    refine v_goto (tgt := 27) dX6_narrowed_10 rfl ?_
    subst h
    exact v_lret rfl dX6_narrowed_27
