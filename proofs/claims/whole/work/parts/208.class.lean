/-! ===== BentPlain$Teller.lookAtSide()I ===== -/
def fX3_lookAtSide (M : Mem) : Option (Int32 × Mem) := (if (fX2_isNumberBelow (M.1 1 0) M) = 0 then some ((-1 : Int32), M) else ((fX2_advance M).bind fun w2 => ((fX3_sideNamed w2).bind fun v4 => (if v4 = (-1 : Int32) then some ((-1 : Int32), w2) else some ((fX5_wayOf (M.1 36 3) v4), w2)))))
set_option maxRecDepth 100000 in
set_option maxHeartbeats 4000000 in
theorem sX3_lookAtSide {g : Wo} {M : Mem} {r : Int32 × Mem} (h : fX3_lookAtSide M = some r) : Sp g kX3_lookAtSide 6 [.ref 38] M (some (.int r.1)) r.2 := by
  rw [fX3_lookAtSide] at h
  refine Sp_intro (by decide) [some (.ref 38), none, none] rfl (Nat.le_of_ble_eq_true rfl) ?_
  refine v_aload_n dX3_lookAtSide_0 rfl ?_
  refine v_getr dX3_lookAtSide_1 flX3_9 sh_38 rfl ?_
  refine v_aload_n dX3_lookAtSide_4 rfl ?_
  refine v_getr dX3_lookAtSide_5 flX3_15 sh_38 rfl ?_
  refine v_geti dX3_lookAtSide_8 flX3_60 sh_1 rfl ?_
  refine v_callV (as := [.int (M.1 1 0)]) (st := []) (sX2_isNumberBelow rfl) dX3_lookAtSide_11 mlX3_67 (CRn (by decide) (by decide)) sh_36 rfl rfl rfl (Nat.le_of_ble_eq_true rfl) ?_
  refine v_if_ne (tgt := 19) dX3_lookAtSide_14 rfl (fun c1 => ?_) (fun c1 => ?_)
  · replace h := (if_neg c1).symm.trans h
    refine v_aload_n dX3_lookAtSide_19 rfl ?_
    refine v_getr dX3_lookAtSide_20 flX3_9 sh_38 rfl ?_
    refine v_geti dX3_lookAtSide_23 flX3_71 sh_36 rfl ?_
    refine v_istore_n (ls1 := [some (.ref 38), some (.int (M.1 36 3)), none]) dX3_lookAtSide_26 (Nat.le_of_ble_eq_true rfl) rfl ?_
    refine v_aload_n dX3_lookAtSide_27 rfl ?_
    refine v_getr dX3_lookAtSide_28 flX3_9 sh_38 rfl ?_
    obtain ⟨w2, e3, h⟩ := Option.bind_eq_some_iff.mp h
    refine v_callV (as := []) (st := []) (sX2_advance e3) dX3_lookAtSide_31 mlX3_35 (CRn (by decide) (by decide)) sh_36 rfl rfl rfl (Nat.le_of_ble_eq_true rfl) ?_
    refine v_aload_n dX3_lookAtSide_34 rfl ?_
    obtain ⟨v4, e5, h⟩ := Option.bind_eq_some_iff.mp h
    refine v_callV (as := []) (st := []) (sX3_sideNamed e5) dX3_lookAtSide_35 mlX3_105 (CRn (by decide) (by decide)) sh_38 rfl rfl rfl (Nat.le_of_ble_eq_true rfl) ?_
    refine v_istore_n (ls1 := [some (.ref 38), some (.int (M.1 36 3)), some (.int v4)]) dX3_lookAtSide_38 (Nat.le_of_ble_eq_true rfl) rfl ?_
    refine v_iload_n dX3_lookAtSide_39 rfl ?_
    refine v_iconst (v := -1) dX3_lookAtSide_40 rfl ?_
    refine v_icmp_ne (tgt := 48) dX3_lookAtSide_41 rfl (fun c6 => ?_) (fun c6 => ?_)
    · replace h := (if_neg c6).symm.trans h
      refine v_iload_n dX3_lookAtSide_48 rfl ?_
      refine v_iload_n dX3_lookAtSide_49 rfl ?_
      refine v_callN (as := [.int (M.1 36 3), .int v4]) (st := []) (sX5_wayOf rfl) dX3_lookAtSide_50 mlX3_108 (CRn (by decide) (by decide)) rfl rfl (Nat.le_of_ble_eq_true rfl) ?_
      replace h := Option.some.inj h; subst h
      exact v_iret rfl dX3_lookAtSide_53
    · replace h := (if_pos c6).symm.trans h
      refine v_iconst (v := -1) dX3_lookAtSide_44 rfl ?_
      refine v_goto (tgt := 53) dX3_lookAtSide_45 rfl ?_
      replace h := Option.some.inj h; subst h
      exact v_iret rfl dX3_lookAtSide_53
  · replace h := (if_pos c1).symm.trans h
    refine v_iconst (v := -1) dX3_lookAtSide_17 rfl ?_
    replace h := Option.some.inj h; subst h
    exact v_iret rfl dX3_lookAtSide_18
/-! ===== BentPlain$Teller.tellGlue()Z ===== -/
def fX3_tellGlue (M : Mem) : Option (Int32 × Mem) := ((fX2_advance M).bind fun w1 => ((fX3_lookAtSide w1).bind fun w3 => (if w3.1 = (-1 : Int32) then some ((0 : Int32), w3.2) else ((fX0_isFree w3.1 w3.2).bind fun v6 => (if v6 = 0 then some ((0 : Int32), w3.2) else ((fX2_advance w3.2).bind fun w9 => ((fX3_lookAtSide w9).bind fun w11 => (if w11.1 = (-1 : Int32) then some ((0 : Int32), w11.2) else ((fX0_isFree w11.1 w11.2).bind fun v14 => (if v14 = 0 then some ((0 : Int32), w11.2) else (if w11.1 = w3.1 then some ((0 : Int32), w11.2) else ((fX2_advance w11.2).bind fun w18 => ((fX0_join w3.1 w11.1 w18).bind fun w20 => some ((1 : Int32), w20))))))))))))))
set_option maxRecDepth 100000 in
set_option maxHeartbeats 4000000 in
theorem sX3_tellGlue {g : Wo} {M : Mem} {r : Int32 × Mem} (h : fX3_tellGlue M = some r) : Sp g kX3_tellGlue 7 [.ref 38] M (some (.int r.1)) r.2 := by
  rw [fX3_tellGlue] at h
  refine Sp_intro (by decide) [some (.ref 38), none, none] rfl (Nat.le_of_ble_eq_true rfl) ?_
  refine v_aload_n dX3_tellGlue_0 rfl ?_
  refine v_getr dX3_tellGlue_1 flX3_9 sh_38 rfl ?_
  obtain ⟨w1, e2, h⟩ := Option.bind_eq_some_iff.mp h
  refine v_callV (as := []) (st := []) (sX2_advance e2) dX3_tellGlue_4 mlX3_35 (CRn (by decide) (by decide)) sh_36 rfl rfl rfl (Nat.le_of_ble_eq_true rfl) ?_
  refine v_aload_n dX3_tellGlue_7 rfl ?_
  obtain ⟨w3, e4, h⟩ := Option.bind_eq_some_iff.mp h
  refine v_callV (as := []) (st := []) (sX3_lookAtSide e4) dX3_tellGlue_8 mlX3_78 (CRn (by decide) (by decide)) sh_38 rfl rfl rfl (Nat.le_of_ble_eq_true rfl) ?_
  refine v_istore_n (ls1 := [some (.ref 38), some (.int w3.1), none]) dX3_tellGlue_11 (Nat.le_of_ble_eq_true rfl) rfl ?_
  refine v_iload_n dX3_tellGlue_12 rfl ?_
  refine v_iconst (v := -1) dX3_tellGlue_13 rfl ?_
  refine v_icmp_eq (tgt := 28) dX3_tellGlue_14 rfl (fun c5 => ?_) (fun c5 => ?_)
  · replace h := (if_pos c5).symm.trans h
    refine v_iconst (v := 0) dX3_tellGlue_28 rfl ?_
    replace h := Option.some.inj h; subst h
    exact v_zret rfl (z_nar z_0) dX3_tellGlue_29
  · replace h := (if_neg c5).symm.trans h
    refine v_aload_n dX3_tellGlue_17 rfl ?_
    refine v_getr dX3_tellGlue_18 flX3_15 sh_38 rfl ?_
    refine v_iload_n dX3_tellGlue_21 rfl ?_
    obtain ⟨v6, e7, h⟩ := Option.bind_eq_some_iff.mp h
    refine v_callV (as := [.int w3.1]) (st := []) (sX0_isFree e7) dX3_tellGlue_22 mlX3_82 (CRn (by decide) (by decide)) sh_1 rfl rfl rfl (Nat.le_of_ble_eq_true rfl) ?_
    refine v_if_ne (tgt := 30) dX3_tellGlue_25 rfl (fun c8 => ?_) (fun c8 => ?_)
    · replace h := (if_neg c8).symm.trans h
      refine v_aload_n dX3_tellGlue_30 rfl ?_
      refine v_getr dX3_tellGlue_31 flX3_9 sh_38 rfl ?_
      obtain ⟨w9, e10, h⟩ := Option.bind_eq_some_iff.mp h
      refine v_callV (as := []) (st := []) (sX2_advance e10) dX3_tellGlue_34 mlX3_35 (CRn (by decide) (by decide)) sh_36 rfl rfl rfl (Nat.le_of_ble_eq_true rfl) ?_
      refine v_aload_n dX3_tellGlue_37 rfl ?_
      obtain ⟨w11, e12, h⟩ := Option.bind_eq_some_iff.mp h
      refine v_callV (as := []) (st := []) (sX3_lookAtSide e12) dX3_tellGlue_38 mlX3_78 (CRn (by decide) (by decide)) sh_38 rfl rfl rfl (Nat.le_of_ble_eq_true rfl) ?_
      refine v_istore_n (ls1 := [some (.ref 38), some (.int w3.1), some (.int w11.1)]) dX3_tellGlue_41 (Nat.le_of_ble_eq_true rfl) rfl ?_
      refine v_iload_n dX3_tellGlue_42 rfl ?_
      refine v_iconst (v := -1) dX3_tellGlue_43 rfl ?_
      refine v_icmp_eq (tgt := 63) dX3_tellGlue_44 rfl (fun c13 => ?_) (fun c13 => ?_)
      · replace h := (if_pos c13).symm.trans h
        refine v_iconst (v := 0) dX3_tellGlue_63 rfl ?_
        replace h := Option.some.inj h; subst h
        exact v_zret rfl (z_nar z_0) dX3_tellGlue_64
      · replace h := (if_neg c13).symm.trans h
        refine v_aload_n dX3_tellGlue_47 rfl ?_
        refine v_getr dX3_tellGlue_48 flX3_15 sh_38 rfl ?_
        refine v_iload_n dX3_tellGlue_51 rfl ?_
        obtain ⟨v14, e15, h⟩ := Option.bind_eq_some_iff.mp h
        refine v_callV (as := [.int w11.1]) (st := []) (sX0_isFree e15) dX3_tellGlue_52 mlX3_82 (CRn (by decide) (by decide)) sh_1 rfl rfl rfl (Nat.le_of_ble_eq_true rfl) ?_
        refine v_if_eq (tgt := 63) dX3_tellGlue_55 rfl (fun c16 => ?_) (fun c16 => ?_)
        · replace h := (if_pos c16).symm.trans h
          refine v_iconst (v := 0) dX3_tellGlue_63 rfl ?_
          replace h := Option.some.inj h; subst h
          exact v_zret rfl (z_nar z_0) dX3_tellGlue_64
        · replace h := (if_neg c16).symm.trans h
          refine v_iload_n dX3_tellGlue_58 rfl ?_
          refine v_iload_n dX3_tellGlue_59 rfl ?_
          refine v_icmp_ne (tgt := 65) dX3_tellGlue_60 rfl (fun c17 => ?_) (fun c17 => ?_)
          · replace h := (if_neg c17).symm.trans h
            refine v_aload_n dX3_tellGlue_65 rfl ?_
            refine v_getr dX3_tellGlue_66 flX3_9 sh_38 rfl ?_
            obtain ⟨w18, e19, h⟩ := Option.bind_eq_some_iff.mp h
            refine v_callV (as := []) (st := []) (sX2_advance e19) dX3_tellGlue_69 mlX3_35 (CRn (by decide) (by decide)) sh_36 rfl rfl rfl (Nat.le_of_ble_eq_true rfl) ?_
            refine v_aload_n dX3_tellGlue_72 rfl ?_
            refine v_getr dX3_tellGlue_73 flX3_15 sh_38 rfl ?_
            refine v_iload_n dX3_tellGlue_76 rfl ?_
            refine v_iload_n dX3_tellGlue_77 rfl ?_
            obtain ⟨w20, e21, h⟩ := Option.bind_eq_some_iff.mp h
            refine v_callV (as := [.int w3.1, .int w11.1]) (st := []) (sX0_join e21) dX3_tellGlue_78 mlX3_85 (CRn (by decide) (by decide)) sh_1 rfl rfl rfl (Nat.le_of_ble_eq_true rfl) ?_
            refine v_iconst (v := 1) dX3_tellGlue_81 rfl ?_
            replace h := Option.some.inj h; subst h
            exact v_zret rfl (z_nar z_1) dX3_tellGlue_82
          · replace h := (if_pos c17).symm.trans h
            refine v_iconst (v := 0) dX3_tellGlue_63 rfl ?_
            replace h := Option.some.inj h; subst h
            exact v_zret rfl (z_nar z_0) dX3_tellGlue_64
    · replace h := (if_pos c8).symm.trans h
      refine v_iconst (v := 0) dX3_tellGlue_28 rfl ?_
      replace h := Option.some.inj h; subst h
      exact v_zret rfl (z_nar z_0) dX3_tellGlue_29
/-! ===== BentPlain$Teller.tellCut()Z ===== -/
def fX3_tellCut (M : Mem) : Option (Int32 × Mem) := ((fX2_advance M).bind fun w1 => ((fX3_lookAtSide w1).bind fun w3 => (if w3.1 = (-1 : Int32) then some ((0 : Int32), w3.2) else ((fX0_isFree w3.1 w3.2).bind fun v6 => (if v6 = 0 then ((fX2_advance w3.2).bind fun w9 => ((fX0_sever w3.1 w9).bind fun w11 => some ((1 : Int32), w11))) else some ((0 : Int32), w3.2))))))
set_option maxRecDepth 100000 in
set_option maxHeartbeats 4000000 in
theorem sX3_tellCut {g : Wo} {M : Mem} {r : Int32 × Mem} (h : fX3_tellCut M = some r) : Sp g kX3_tellCut 7 [.ref 38] M (some (.int r.1)) r.2 := by
  rw [fX3_tellCut] at h
  refine Sp_intro (by decide) [some (.ref 38), none] rfl (Nat.le_of_ble_eq_true rfl) ?_
  refine v_aload_n dX3_tellCut_0 rfl ?_
  refine v_getr dX3_tellCut_1 flX3_9 sh_38 rfl ?_
  obtain ⟨w1, e2, h⟩ := Option.bind_eq_some_iff.mp h
  refine v_callV (as := []) (st := []) (sX2_advance e2) dX3_tellCut_4 mlX3_35 (CRn (by decide) (by decide)) sh_36 rfl rfl rfl (Nat.le_of_ble_eq_true rfl) ?_
  refine v_aload_n dX3_tellCut_7 rfl ?_
  obtain ⟨w3, e4, h⟩ := Option.bind_eq_some_iff.mp h
  refine v_callV (as := []) (st := []) (sX3_lookAtSide e4) dX3_tellCut_8 mlX3_78 (CRn (by decide) (by decide)) sh_38 rfl rfl rfl (Nat.le_of_ble_eq_true rfl) ?_
  refine v_istore_n (ls1 := [some (.ref 38), some (.int w3.1)]) dX3_tellCut_11 (Nat.le_of_ble_eq_true rfl) rfl ?_
  refine v_iload_n dX3_tellCut_12 rfl ?_
  refine v_iconst (v := -1) dX3_tellCut_13 rfl ?_
  refine v_icmp_eq (tgt := 28) dX3_tellCut_14 rfl (fun c5 => ?_) (fun c5 => ?_)
  · replace h := (if_pos c5).symm.trans h
    refine v_iconst (v := 0) dX3_tellCut_28 rfl ?_
    replace h := Option.some.inj h; subst h
    exact v_zret rfl (z_nar z_0) dX3_tellCut_29
  · replace h := (if_neg c5).symm.trans h
    refine v_aload_n dX3_tellCut_17 rfl ?_
    refine v_getr dX3_tellCut_18 flX3_15 sh_38 rfl ?_
    refine v_iload_n dX3_tellCut_21 rfl ?_
    obtain ⟨v6, e7, h⟩ := Option.bind_eq_some_iff.mp h
    refine v_callV (as := [.int w3.1]) (st := []) (sX0_isFree e7) dX3_tellCut_22 mlX3_82 (CRn (by decide) (by decide)) sh_1 rfl rfl rfl (Nat.le_of_ble_eq_true rfl) ?_
    refine v_if_eq (tgt := 30) dX3_tellCut_25 rfl (fun c8 => ?_) (fun c8 => ?_)
    · replace h := (if_pos c8).symm.trans h
      refine v_aload_n dX3_tellCut_30 rfl ?_
      refine v_getr dX3_tellCut_31 flX3_9 sh_38 rfl ?_
      obtain ⟨w9, e10, h⟩ := Option.bind_eq_some_iff.mp h
      refine v_callV (as := []) (st := []) (sX2_advance e10) dX3_tellCut_34 mlX3_35 (CRn (by decide) (by decide)) sh_36 rfl rfl rfl (Nat.le_of_ble_eq_true rfl) ?_
      refine v_aload_n dX3_tellCut_37 rfl ?_
      refine v_getr dX3_tellCut_38 flX3_15 sh_38 rfl ?_
      refine v_iload_n dX3_tellCut_41 rfl ?_
      obtain ⟨w11, e12, h⟩ := Option.bind_eq_some_iff.mp h
      refine v_callV (as := [.int w3.1]) (st := []) (sX0_sever e12) dX3_tellCut_42 mlX3_89 (CRn (by decide) (by decide)) sh_1 rfl rfl rfl (Nat.le_of_ble_eq_true rfl) ?_
      refine v_iconst (v := 1) dX3_tellCut_45 rfl ?_
      replace h := Option.some.inj h; subst h
      exact v_zret rfl (z_nar z_1) dX3_tellCut_46
    · replace h := (if_neg c8).symm.trans h
      refine v_iconst (v := 0) dX3_tellCut_28 rfl ?_
      replace h := Option.some.inj h; subst h
      exact v_zret rfl (z_nar z_0) dX3_tellCut_29
/-! ===== BentPlain$Teller.kindName(I)Ljava/lang/String; ===== -/
def fX3_kindName (x0 : Int32) : Nat := (if x0 = (0 : Int32) then 108 else (if x0 = (1 : Int32) then 109 else (if x0 = (2 : Int32) then 110 else (if x0 = (3 : Int32) then 111 else (if x0 = (4 : Int32) then 112 else 113)))))
theorem ttX3_kindName (x0 : Int32) : isT (fX3_kindName x0) := by
  unfold fX3_kindName
  repeat' split
  all_goals first | exact isT_of (i := 0) (by decide) | exact isT_of (i := 1) (by decide) | exact isT_of (i := 2) (by decide) | exact isT_of (i := 3) (by decide) | exact isT_of (i := 4) (by decide) | exact isT_of (i := 5) (by decide) | exact isT_of (i := 6) (by decide) | exact isT_of (i := 7) (by decide) | exact isT_of (i := 8) (by decide) | exact isT_of (i := 9) (by decide) | exact isT_of (i := 10) (by decide) | exact isT_of (i := 11) (by decide) | exact isT_of (i := 12) (by decide) | exact isT_of (i := 13) (by decide) | exact isT_of (i := 14) (by decide)
set_option maxRecDepth 100000 in
set_option maxHeartbeats 4000000 in
theorem sX3_kindName {g : Wo} {M : Mem} {x0 : Int32} {r : Nat} (h : fX3_kindName x0 = r) : Sp g kX3_kindName 0 [.int x0] M (some (.ref r)) M := by
  rw [fX3_kindName] at h
  refine Sp_intro (by decide) [some (.int x0)] rfl (Nat.le_of_ble_eq_true rfl) ?_
  refine v_iload_n dX3_kindName_0 rfl ?_
  by_cases c1 : x0 = (0 : Int32)
  · replace h := (if_pos c1).symm.trans h
    refine v_tabIn (off := 35) (tgt := 36) dX3_kindName_1 (by rw [c1]; decide) (by rw [c1]; decide) (by rw [c1]; decide) rfl ?_
    refine v_ldcS (i := 8) dX3_kindName_36 rfl ?_
    subst h
    exact v_aret rfl dX3_kindName_38
  · replace h := (if_neg c1).symm.trans h
    by_cases c2 : x0 = (1 : Int32)
    · replace h := (if_pos c2).symm.trans h
      refine v_tabIn (off := 38) (tgt := 39) dX3_kindName_1 (by rw [c2]; decide) (by rw [c2]; decide) (by rw [c2]; decide) rfl ?_
      refine v_ldcS (i := 9) dX3_kindName_39 rfl ?_
      subst h
      exact v_aret rfl dX3_kindName_41
    · replace h := (if_neg c2).symm.trans h
      by_cases c3 : x0 = (2 : Int32)
      · replace h := (if_pos c3).symm.trans h
        refine v_tabIn (off := 41) (tgt := 42) dX3_kindName_1 (by rw [c3]; decide) (by rw [c3]; decide) (by rw [c3]; decide) rfl ?_
        refine v_ldcS (i := 10) dX3_kindName_42 rfl ?_
        subst h
        exact v_aret rfl dX3_kindName_44
      · replace h := (if_neg c3).symm.trans h
        by_cases c4 : x0 = (3 : Int32)
        · replace h := (if_pos c4).symm.trans h
          refine v_tabIn (off := 44) (tgt := 45) dX3_kindName_1 (by rw [c4]; decide) (by rw [c4]; decide) (by rw [c4]; decide) rfl ?_
          refine v_ldcS (i := 11) dX3_kindName_45 rfl ?_
          subst h
          exact v_aret rfl dX3_kindName_47
        · replace h := (if_neg c4).symm.trans h
          by_cases c5 : x0 = (4 : Int32)
          · replace h := (if_pos c5).symm.trans h
            refine v_tabIn (off := 47) (tgt := 48) dX3_kindName_1 (by rw [c5]; decide) (by rw [c5]; decide) (by rw [c5]; decide) rfl ?_
            refine v_ldcS (i := 12) dX3_kindName_48 rfl ?_
            subst h
            exact v_aret rfl dX3_kindName_50
          · replace h := (if_neg c5).symm.trans h
            refine v_tabOut (tgt := 51) dX3_kindName_1 ?_ rfl ?_
            · have o0 := i32ne c1
              have o1 := i32ne c2
              have o2 := i32ne c3
              have o3 := i32ne c4
              have o4 := i32ne c5
              simp only [i32l_0, i32l_1, i32l_2, i32l_3, i32l_4] at o0 o1 o2 o3 o4
              omega
            · refine v_ldcS (i := 13) dX3_kindName_51 rfl ?_
              subst h
              exact v_aret rfl dX3_kindName_53
/-! ===== BentPlain$Teller.kindNamed()I ===== -/
def fX3_kindNamed_2 (kx : Option Int32) (M : Mem) : Nat → Int32 → Option Int32
  | 0, _ => none
  | n + 1, y1 => (if (6 : Int32) ≤ y1 then kx else ((fX2_isWord (fX3_kindName y1) M).bind fun v2 => (if v2 = 0 then (fX3_kindNamed_2 kx M n (y1 + (1 : Int32))) else some y1)))
def fX3_kindNamed (M : Mem) : Option Int32 := (fX3_kindNamed_2 (some (-1 : Int32)) M FU (0 : Int32))
set_option maxRecDepth 100000 in
set_option maxHeartbeats 4000000 in
theorem tX3_kindNamed_2 {g : Wo} {kx : Option Int32} {M : Mem} {r : Int32} (hk : kx = some r → V g kX3_kindNamed (jm g 5 (some (.int r)) M) 30 [none, none] [] M) : ∀ (n : Nat) (y1 : Int32), fX3_kindNamed_2 kx M n y1 = some r → V g kX3_kindNamed (jm g 5 (some (.int r)) M) 2 [some (.ref 38), some (.int y1)] [] M := by
  intro n
  induction n with
  | zero =>
    intro y1 h
    rw [fX3_kindNamed_2] at h
    cases h
  | succ n ih =>
    intro y1 h
    rw [fX3_kindNamed_2] at h
    refine v_iload_n dX3_kindNamed_2 rfl ?_
    refine v_bipush (v := 6) dX3_kindNamed_3 rfl ?_
    refine v_icmp_ge (tgt := 30) dX3_kindNamed_5 rfl (fun c1 => ?_) (fun c1 => ?_)
    · replace h := (if_pos c1).symm.trans h
      refine V.sub (ls' := [none, none]) trivial ?_
      exact hk h
    · replace h := (if_neg c1).symm.trans h
      refine v_aload_n dX3_kindNamed_8 rfl ?_
      refine v_getr dX3_kindNamed_9 flX3_9 sh_38 rfl ?_
      refine v_iload_n dX3_kindNamed_12 rfl ?_
      refine v_callS (as := [.int y1]) (st := [.ref 36]) (sX3_kindName rfl) dX3_kindNamed_13 mlX3_115 (CRn (by decide) (by decide)) rfl rfl (Nat.le_of_ble_eq_true rfl) ?_
      obtain ⟨v2, e3, h⟩ := Option.bind_eq_some_iff.mp h
      refine v_callV (as := [.ref (fX3_kindName y1)]) (st := []) (sX2_isWord (ttX3_kindName y1) e3) dX3_kindNamed_16 mlX3_40 (CRn (by decide) (by decide)) sh_36 rfl rfl rfl (Nat.le_of_ble_eq_true rfl) ?_
      refine v_if_eq (tgt := 24) dX3_kindNamed_19 rfl (fun c4 => ?_) (fun c4 => ?_)
      · replace h := (if_pos c4).symm.trans h
        refine v_iinc (v := 1) (ls1 := [some (.ref 38), some (.int (y1 + (1 : Int32)))]) dX3_kindNamed_24 rfl rfl (Nat.le_of_ble_eq_true rfl) rfl ?_
        refine v_goto (tgt := 2) dX3_kindNamed_27 rfl ?_
        refine V.sub (ls' := [some (.ref 38), some (.int (y1 + (1 : Int32)))]) (And.intro rfl (And.intro rfl trivial)) ?_
        exact ih _ h
      · replace h := (if_neg c4).symm.trans h
        refine v_iload_n dX3_kindNamed_22 rfl ?_
        replace h := Option.some.inj h; subst h
        exact v_iret rfl dX3_kindNamed_23
set_option maxRecDepth 100000 in
set_option maxHeartbeats 4000000 in
theorem sX3_kindNamed {g : Wo} {M : Mem} {r : Int32} (h : fX3_kindNamed M = some r) : Sp g kX3_kindNamed 5 [.ref 38] M (some (.int r)) M := by
  rw [fX3_kindNamed] at h
  refine Sp_intro (by decide) [some (.ref 38), none] rfl (Nat.le_of_ble_eq_true rfl) ?_
  refine v_iconst (v := 0) dX3_kindNamed_0 rfl ?_
  refine v_istore_n (ls1 := [some (.ref 38), some (.int (0 : Int32))]) dX3_kindNamed_1 (Nat.le_of_ble_eq_true rfl) rfl ?_
  refine V.sub (ls' := [some (.ref 38), some (.int (0 : Int32))]) (And.intro rfl (And.intro rfl trivial)) ?_
  refine tX3_kindNamed_2 (fun h => ?_) FU _ h
  refine v_iconst (v := -1) dX3_kindNamed_30 rfl ?_
  replace h := Option.some.inj h; subst h
  exact v_iret rfl dX3_kindNamed_31
/-! ===== BentPlain$Teller.tellWalker()Z ===== -/
def fX3_tellWalker (M : Mem) : Option (Int32 × Mem) := ((fX3_kindNamed M).bind fun v1 => (if v1 = (-1 : Int32) then some ((0 : Int32), M) else (if (M.1 1 1) < (6 : Int32) then ((fX2_advance M).bind fun w5 => ((fX2_isWord 114 w5).bind fun v7 => (if v7 = 0 then some ((0 : Int32), w5) else ((fX2_advance w5).bind fun w10 => ((fX3_lookAtSide w10).bind fun w12 => (if w12.1 = (-1 : Int32) then some ((0 : Int32), w12.2) else ((fX2_advance w12.2).bind fun w15 => ((fX0_addWalker v1 w12.1 w15).bind fun w17 => some ((1 : Int32), w17.2))))))))) else some ((0 : Int32), M))))
set_option maxRecDepth 100000 in
set_option maxHeartbeats 4000000 in
theorem sX3_tellWalker {g : Wo} {M : Mem} {r : Int32 × Mem} (h : fX3_tellWalker M = some r) : Sp g kX3_tellWalker 7 [.ref 38] M (some (.int r.1)) r.2 := by
  rw [fX3_tellWalker] at h
  refine Sp_intro (by decide) [some (.ref 38), none, none] rfl (Nat.le_of_ble_eq_true rfl) ?_
  refine v_aload_n dX3_tellWalker_0 rfl ?_
  obtain ⟨v1, e2, h⟩ := Option.bind_eq_some_iff.mp h
  refine v_callV (as := []) (st := []) (sX3_kindNamed e2) dX3_tellWalker_1 mlX3_93 (CRn (by decide) (by decide)) sh_38 rfl rfl rfl (Nat.le_of_ble_eq_true rfl) ?_
  refine v_istore_n (ls1 := [some (.ref 38), some (.int v1), none]) dX3_tellWalker_4 (Nat.le_of_ble_eq_true rfl) rfl ?_
  refine v_iload_n dX3_tellWalker_5 rfl ?_
  refine v_iconst (v := -1) dX3_tellWalker_6 rfl ?_
  refine v_icmp_eq (tgt := 22) dX3_tellWalker_7 rfl (fun c3 => ?_) (fun c3 => ?_)
  · replace h := (if_pos c3).symm.trans h
    refine v_iconst (v := 0) dX3_tellWalker_22 rfl ?_
    replace h := Option.some.inj h; subst h
    exact v_zret rfl (z_nar z_0) dX3_tellWalker_23
  · replace h := (if_neg c3).symm.trans h
    refine v_aload_n dX3_tellWalker_10 rfl ?_
    refine v_getr dX3_tellWalker_11 flX3_15 sh_38 rfl ?_
    refine v_geti dX3_tellWalker_14 flX3_96 sh_1 rfl ?_
    refine v_bipush (v := 6) dX3_tellWalker_17 rfl ?_
    refine v_icmp_lt (tgt := 24) dX3_tellWalker_19 rfl (fun c4 => ?_) (fun c4 => ?_)
    · replace h := (if_pos c4).symm.trans h
      refine v_aload_n dX3_tellWalker_24 rfl ?_
      refine v_getr dX3_tellWalker_25 flX3_9 sh_38 rfl ?_
      obtain ⟨w5, e6, h⟩ := Option.bind_eq_some_iff.mp h
      refine v_callV (as := []) (st := []) (sX2_advance e6) dX3_tellWalker_28 mlX3_35 (CRn (by decide) (by decide)) sh_36 rfl rfl rfl (Nat.le_of_ble_eq_true rfl) ?_
      refine v_aload_n dX3_tellWalker_31 rfl ?_
      refine v_getr dX3_tellWalker_32 flX3_9 sh_38 rfl ?_
      refine v_ldcS (i := 14) dX3_tellWalker_35 rfl ?_
      obtain ⟨v7, e8, h⟩ := Option.bind_eq_some_iff.mp h
      refine v_callV (as := [.ref 114]) (st := []) (sX2_isWord (isT_of (i := 14) (by decide)) e8) dX3_tellWalker_37 mlX3_40 (CRn (by decide) (by decide)) sh_36 rfl rfl rfl (Nat.le_of_ble_eq_true rfl) ?_
      refine v_if_ne (tgt := 45) dX3_tellWalker_40 rfl (fun c9 => ?_) (fun c9 => ?_)
      · replace h := (if_neg c9).symm.trans h
        refine v_aload_n dX3_tellWalker_45 rfl ?_
        refine v_getr dX3_tellWalker_46 flX3_9 sh_38 rfl ?_
        obtain ⟨w10, e11, h⟩ := Option.bind_eq_some_iff.mp h
        refine v_callV (as := []) (st := []) (sX2_advance e11) dX3_tellWalker_49 mlX3_35 (CRn (by decide) (by decide)) sh_36 rfl rfl rfl (Nat.le_of_ble_eq_true rfl) ?_
        refine v_aload_n dX3_tellWalker_52 rfl ?_
        obtain ⟨w12, e13, h⟩ := Option.bind_eq_some_iff.mp h
        refine v_callV (as := []) (st := []) (sX3_lookAtSide e13) dX3_tellWalker_53 mlX3_78 (CRn (by decide) (by decide)) sh_38 rfl rfl rfl (Nat.le_of_ble_eq_true rfl) ?_
        refine v_istore_n (ls1 := [some (.ref 38), some (.int v1), some (.int w12.1)]) dX3_tellWalker_56 (Nat.le_of_ble_eq_true rfl) rfl ?_
        refine v_iload_n dX3_tellWalker_57 rfl ?_
        refine v_iconst (v := -1) dX3_tellWalker_58 rfl ?_
        refine v_icmp_ne (tgt := 64) dX3_tellWalker_59 rfl (fun c14 => ?_) (fun c14 => ?_)
        · replace h := (if_neg c14).symm.trans h
          refine v_aload_n dX3_tellWalker_64 rfl ?_
          refine v_getr dX3_tellWalker_65 flX3_9 sh_38 rfl ?_
          obtain ⟨w15, e16, h⟩ := Option.bind_eq_some_iff.mp h
          refine v_callV (as := []) (st := []) (sX2_advance e16) dX3_tellWalker_68 mlX3_35 (CRn (by decide) (by decide)) sh_36 rfl rfl rfl (Nat.le_of_ble_eq_true rfl) ?_
          refine v_aload_n dX3_tellWalker_71 rfl ?_
          refine v_getr dX3_tellWalker_72 flX3_15 sh_38 rfl ?_
          refine v_iload_n dX3_tellWalker_75 rfl ?_
          refine v_iload_n dX3_tellWalker_76 rfl ?_
          obtain ⟨w17, e18, h⟩ := Option.bind_eq_some_iff.mp h
          refine v_callV (as := [.int v1, .int w12.1]) (st := []) (sX0_addWalker e18) dX3_tellWalker_77 mlX3_101 (CRn (by decide) (by decide)) sh_1 rfl rfl rfl (Nat.le_of_ble_eq_true rfl) ?_
          refine v_pop dX3_tellWalker_80 rfl ?_
          refine v_iconst (v := 1) dX3_tellWalker_81 rfl ?_
          replace h := Option.some.inj h; subst h
          exact v_zret rfl (z_nar z_1) dX3_tellWalker_82
        · replace h := (if_pos c14).symm.trans h
          refine v_iconst (v := 0) dX3_tellWalker_62 rfl ?_
          replace h := Option.some.inj h; subst h
          exact v_zret rfl (z_nar z_0) dX3_tellWalker_63
      · replace h := (if_pos c9).symm.trans h
        refine v_iconst (v := 0) dX3_tellWalker_43 rfl ?_
        replace h := Option.some.inj h; subst h
        exact v_zret rfl (z_nar z_0) dX3_tellWalker_44
    · replace h := (if_neg c4).symm.trans h
      refine v_iconst (v := 0) dX3_tellWalker_22 rfl ?_
      replace h := Option.some.inj h; subst h
      exact v_zret rfl (z_nar z_0) dX3_tellWalker_23
/-! ===== BentPlain$Teller.tellItem()Z ===== -/
def fX3_tellItem (M : Mem) : Option (Int32 × Mem) := ((fX2_isWord 100 M).bind fun v1 => (if v1 = 0 then ((fX2_isWord 102 M).bind fun v4 => (if v4 = 0 then ((fX2_isWord 107 M).bind fun v7 => (if v7 = 0 then ((fX3_tellWalker M).bind fun w10 => (zck w10.1).bind fun v12 => some (v12, w10.2)) else ((fX3_tellCut M).bind fun w14 => (zck w14.1).bind fun v16 => some (v16, w14.2)))) else ((fX3_tellGlue M).bind fun w18 => (zck w18.1).bind fun v20 => some (v20, w18.2)))) else ((fX3_tellField M).bind fun w22 => (zck w22.1).bind fun v24 => some (v24, w22.2))))
set_option maxRecDepth 100000 in
set_option maxHeartbeats 4000000 in
theorem sX3_tellItem {g : Wo} {M : Mem} {r : Int32 × Mem} (h : fX3_tellItem M = some r) : Sp g kX3_tellItem 8 [.ref 38] M (some (.int r.1)) r.2 := by
  rw [fX3_tellItem] at h
  refine Sp_intro (by decide) [some (.ref 38)] rfl (Nat.le_of_ble_eq_true rfl) ?_
  refine v_aload_n dX3_tellItem_0 rfl ?_
  refine v_getr dX3_tellItem_1 flX3_9 sh_38 rfl ?_
  refine v_ldcS (i := 0) dX3_tellItem_4 rfl ?_
  obtain ⟨v1, e2, h⟩ := Option.bind_eq_some_iff.mp h
  refine v_callV (as := [.ref 100]) (st := []) (sX2_isWord (isT_of (i := 0) (by decide)) e2) dX3_tellItem_6 mlX3_40 (CRn (by decide) (by decide)) sh_36 rfl rfl rfl (Nat.le_of_ble_eq_true rfl) ?_
  refine v_if_eq (tgt := 17) dX3_tellItem_9 rfl (fun c3 => ?_) (fun c3 => ?_)
  · replace h := (if_pos c3).symm.trans h
    refine v_aload_n dX3_tellItem_17 rfl ?_
    refine v_getr dX3_tellItem_18 flX3_9 sh_38 rfl ?_
    refine v_ldcS (i := 2) dX3_tellItem_21 rfl ?_
    obtain ⟨v4, e5, h⟩ := Option.bind_eq_some_iff.mp h
    refine v_callV (as := [.ref 102]) (st := []) (sX2_isWord (isT_of (i := 2) (by decide)) e5) dX3_tellItem_23 mlX3_40 (CRn (by decide) (by decide)) sh_36 rfl rfl rfl (Nat.le_of_ble_eq_true rfl) ?_
    refine v_if_eq (tgt := 34) dX3_tellItem_26 rfl (fun c6 => ?_) (fun c6 => ?_)
    · replace h := (if_pos c6).symm.trans h
      refine v_aload_n dX3_tellItem_34 rfl ?_
      refine v_getr dX3_tellItem_35 flX3_9 sh_38 rfl ?_
      refine v_ldcS (i := 7) dX3_tellItem_38 rfl ?_
      obtain ⟨v7, e8, h⟩ := Option.bind_eq_some_iff.mp h
      refine v_callV (as := [.ref 107]) (st := []) (sX2_isWord (isT_of (i := 7) (by decide)) e8) dX3_tellItem_40 mlX3_40 (CRn (by decide) (by decide)) sh_36 rfl rfl rfl (Nat.le_of_ble_eq_true rfl) ?_
      refine v_if_eq (tgt := 51) dX3_tellItem_43 rfl (fun c9 => ?_) (fun c9 => ?_)
      · replace h := (if_pos c9).symm.trans h
        refine v_aload_n dX3_tellItem_51 rfl ?_
        obtain ⟨w10, e11, h⟩ := Option.bind_eq_some_iff.mp h
        refine v_callV (as := []) (st := []) (sX3_tellWalker e11) dX3_tellItem_52 mlX3_57 (CRn (by decide) (by decide)) sh_38 rfl rfl rfl (Nat.le_of_ble_eq_true rfl) ?_
        obtain ⟨v12, e13, h⟩ := Option.bind_eq_some_iff.mp h
        replace h := Option.some.inj h; subst h
        obtain ⟨e13a, e13b⟩ := zck_is e13
        rw [e13a]
        exact v_zret rfl (z_nar e13b) dX3_tellItem_55
      · replace h := (if_neg c9).symm.trans h
        refine v_aload_n dX3_tellItem_46 rfl ?_
        obtain ⟨w14, e15, h⟩ := Option.bind_eq_some_iff.mp h
        refine v_callV (as := []) (st := []) (sX3_tellCut e15) dX3_tellItem_47 mlX3_54 (CRn (by decide) (by decide)) sh_38 rfl rfl rfl (Nat.le_of_ble_eq_true rfl) ?_
        obtain ⟨v16, e17, h⟩ := Option.bind_eq_some_iff.mp h
        replace h := Option.some.inj h; subst h
        obtain ⟨e17a, e17b⟩ := zck_is e17
        rw [e17a]
        exact v_zret rfl (z_nar e17b) dX3_tellItem_50
    · replace h := (if_neg c6).symm.trans h
      refine v_aload_n dX3_tellItem_29 rfl ?_
      obtain ⟨w18, e19, h⟩ := Option.bind_eq_some_iff.mp h
      refine v_callV (as := []) (st := []) (sX3_tellGlue e19) dX3_tellItem_30 mlX3_49 (CRn (by decide) (by decide)) sh_38 rfl rfl rfl (Nat.le_of_ble_eq_true rfl) ?_
      obtain ⟨v20, e21, h⟩ := Option.bind_eq_some_iff.mp h
      replace h := Option.some.inj h; subst h
      obtain ⟨e21a, e21b⟩ := zck_is e21
      rw [e21a]
      exact v_zret rfl (z_nar e21b) dX3_tellItem_33
  · replace h := (if_neg c3).symm.trans h
    refine v_aload_n dX3_tellItem_12 rfl ?_
    obtain ⟨w22, e23, h⟩ := Option.bind_eq_some_iff.mp h
    refine v_callV (as := []) (st := []) (sX3_tellField e23) dX3_tellItem_13 mlX3_44 (CRn (by decide) (by decide)) sh_38 rfl rfl rfl (Nat.le_of_ble_eq_true rfl) ?_
    obtain ⟨v24, e25, h⟩ := Option.bind_eq_some_iff.mp h
    replace h := Option.some.inj h; subst h
    obtain ⟨e25a, e25b⟩ := zck_is e25
    rw [e25a]
    exact v_zret rfl (z_nar e25b) dX3_tellItem_16
/-! ===== BentPlain$Teller.tellAll()I ===== -/
def fX3_tellAll_9 (kx : Mem → Option (Int32 × Mem)) : Nat → Int32 → Mem → Option (Int32 × Mem)
  | 0, _, _ => none
  | n + 1, y1, M => (if (121 : Int32) < y1 then (kx M) else ((fX3_tellItem M).bind fun w4 => (if w4.1 = 0 then some (((-1 : Int32) - (w4.2.1 36 2)), w4.2) else (if (w4.2.1 36 1) = 0 then some (y1, w4.2) else (if (w4.2.1 36 1) = (1 : Int32) then ((fX2_advance w4.2).bind fun w9 => (fX3_tellAll_9 kx n (y1 + (1 : Int32)) w9)) else some (((-1 : Int32) - (w4.2.1 36 2)), w4.2))))))
def fX3_tellAll (M : Mem) : Option (Int32 × Mem) := ((fX2_begin M).bind fun w1 => (fX3_tellAll_9 (fun M11 => some (((-1 : Int32) - (M11.1 36 2)), M11)) FU (1 : Int32) w1))
set_option maxRecDepth 100000 in
set_option maxHeartbeats 4000000 in
theorem tX3_tellAll_9 {g : Wo} {kx : Mem → Option (Int32 × Mem)} {r : Int32 × Mem} (hk : ∀ (Mx : Mem), kx Mx = some r → V g kX3_tellAll (jm g 9 (some (.int r.1)) r.2) 78 [some (.ref 38), none] [] Mx) : ∀ (n : Nat) (y1 : Int32) (M : Mem), fX3_tellAll_9 kx n y1 M = some r → V g kX3_tellAll (jm g 9 (some (.int r.1)) r.2) 9 [some (.ref 38), some (.int y1)] [] M := by
  intro n
  induction n with
  | zero =>
    intro y1 M h
    rw [fX3_tellAll_9] at h
    cases h
  | succ n ih =>
    intro y1 M h
    rw [fX3_tellAll_9] at h
    refine v_iload_n dX3_tellAll_9 rfl ?_
    refine v_bipush (v := 121) dX3_tellAll_10 rfl ?_
    refine v_icmp_gt (tgt := 78) dX3_tellAll_12 rfl (fun c3 => ?_) (fun c3 => ?_)
    · replace h := (if_pos c3).symm.trans h
      refine V.sub (ls' := [some (.ref 38), none]) (And.intro rfl trivial) ?_
      exact hk _ h
    · replace h := (if_neg c3).symm.trans h
      refine v_aload_n dX3_tellAll_15 rfl ?_
      obtain ⟨w4, e5, h⟩ := Option.bind_eq_some_iff.mp h
      refine v_callV (as := []) (st := []) (sX3_tellItem e5) dX3_tellAll_16 mlX3_24 (CRn (by decide) (by decide)) sh_38 rfl rfl rfl (Nat.le_of_ble_eq_true rfl) ?_
      refine v_if_ne (tgt := 32) dX3_tellAll_19 rfl (fun c6 => ?_) (fun c6 => ?_)
      · replace h := (if_neg c6).symm.trans h
        refine v_aload_n dX3_tellAll_32 rfl ?_
        refine v_getr dX3_tellAll_33 flX3_9 sh_38 rfl ?_
        refine v_geti dX3_tellAll_36 flX3_32 sh_36 rfl ?_
        refine v_if_ne (tgt := 44) dX3_tellAll_39 rfl (fun c7 => ?_) (fun c7 => ?_)
        · replace h := (if_neg c7).symm.trans h
          refine v_aload_n dX3_tellAll_44 rfl ?_
          refine v_getr dX3_tellAll_45 flX3_9 sh_38 rfl ?_
          refine v_geti dX3_tellAll_48 flX3_32 sh_36 rfl ?_
          refine v_iconst (v := 1) dX3_tellAll_51 rfl ?_
          refine v_icmp_eq (tgt := 65) dX3_tellAll_52 rfl (fun c8 => ?_) (fun c8 => ?_)
          · replace h := (if_pos c8).symm.trans h
            refine v_aload_n dX3_tellAll_65 rfl ?_
            refine v_getr dX3_tellAll_66 flX3_9 sh_38 rfl ?_
            obtain ⟨w9, e10, h⟩ := Option.bind_eq_some_iff.mp h
            refine v_callV (as := []) (st := []) (sX2_advance e10) dX3_tellAll_69 mlX3_35 (CRn (by decide) (by decide)) sh_36 rfl rfl rfl (Nat.le_of_ble_eq_true rfl) ?_
            refine v_iinc (v := 1) (ls1 := [some (.ref 38), some (.int (y1 + (1 : Int32)))]) dX3_tellAll_72 rfl rfl (Nat.le_of_ble_eq_true rfl) rfl ?_
            refine v_goto (tgt := 9) dX3_tellAll_75 rfl ?_
            refine V.sub (ls' := [some (.ref 38), some (.int (y1 + (1 : Int32)))]) (And.intro rfl (And.intro rfl trivial)) ?_
            exact ih _ _ h
          · replace h := (if_neg c8).symm.trans h
            refine v_iconst (v := -1) dX3_tellAll_55 rfl ?_
            refine v_aload_n dX3_tellAll_56 rfl ?_
            refine v_getr dX3_tellAll_57 flX3_9 sh_38 rfl ?_
            refine v_geti dX3_tellAll_60 flX3_28 sh_36 rfl ?_
            refine v_isub dX3_tellAll_63 ?_
            replace h := Option.some.inj h; subst h
            exact v_iret rfl dX3_tellAll_64
        · replace h := (if_pos c7).symm.trans h
          refine v_iload_n dX3_tellAll_42 rfl ?_
          replace h := Option.some.inj h; subst h
          exact v_iret rfl dX3_tellAll_43
      · replace h := (if_pos c6).symm.trans h
        refine v_iconst (v := -1) dX3_tellAll_22 rfl ?_
        refine v_aload_n dX3_tellAll_23 rfl ?_
        refine v_getr dX3_tellAll_24 flX3_9 sh_38 rfl ?_
        refine v_geti dX3_tellAll_27 flX3_28 sh_36 rfl ?_
        refine v_isub dX3_tellAll_30 ?_
        replace h := Option.some.inj h; subst h
        exact v_iret rfl dX3_tellAll_31
set_option maxRecDepth 100000 in
set_option maxHeartbeats 4000000 in
theorem sX3_tellAll {g : Wo} {M : Mem} {r : Int32 × Mem} (h : fX3_tellAll M = some r) : Sp g kX3_tellAll 9 [.ref 38] M (some (.int r.1)) r.2 := by
  rw [fX3_tellAll] at h
  refine Sp_intro (by decide) [some (.ref 38), none] rfl (Nat.le_of_ble_eq_true rfl) ?_
  refine v_aload_n dX3_tellAll_0 rfl ?_
  refine v_getr dX3_tellAll_1 flX3_9 sh_38 rfl ?_
  obtain ⟨w1, e2, h⟩ := Option.bind_eq_some_iff.mp h
  refine v_callV (as := []) (st := []) (sX2_begin e2) dX3_tellAll_4 mlX3_19 (CRn (by decide) (by decide)) sh_36 rfl rfl rfl (Nat.le_of_ble_eq_true rfl) ?_
  refine v_iconst (v := 1) dX3_tellAll_7 rfl ?_
  refine v_istore_n (ls1 := [some (.ref 38), some (.int (1 : Int32))]) dX3_tellAll_8 (Nat.le_of_ble_eq_true rfl) rfl ?_
  refine V.sub (ls' := [some (.ref 38), some (.int (1 : Int32))]) (And.intro rfl (And.intro rfl trivial)) ?_
  refine tX3_tellAll_9 (fun M11 h => ?_) FU _ _ h
  refine v_iconst (v := -1) dX3_tellAll_78 rfl ?_
  refine v_aload_n dX3_tellAll_79 rfl ?_
  refine v_getr dX3_tellAll_80 flX3_9 sh_38 rfl ?_
  refine v_geti dX3_tellAll_83 flX3_28 sh_36 rfl ?_
  refine v_isub dX3_tellAll_86 ?_
  replace h := Option.some.inj h; subst h
  exact v_iret rfl dX3_tellAll_87
/-! ===== BentPlain.plain()I ===== -/
def fX5_plain (M : Mem) : Option (Int32 × Mem) := ((fX0_become 21 1 M).bind fun w1 => ((fX3_tellAll w1).bind fun w3 => ((if 0 ≤ w3.1 then some w3.2 else ((fX0_become 1 21 w3.2).bind fun w9 => some w9)).bind fun t7 => some (w3.1, (setI t7 36 0 (0 : Int32))))))
set_option maxRecDepth 100000 in
set_option maxHeartbeats 4000000 in
theorem sX5_plain {g : Wo} {M : Mem} {r : Int32 × Mem} (h : fX5_plain M = some r) : Sp g kX5_plain 10 [.ref 0] M (some (.int r.1)) r.2 := by
  rw [fX5_plain] at h
  refine Sp_intro (by decide) [some (.ref 0), none] rfl (Nat.le_of_ble_eq_true rfl) ?_
  refine v_aload_n dX5_plain_0 rfl ?_
  refine v_getr dX5_plain_1 flX5_19 sh_0 rfl ?_
  refine v_aload_n dX5_plain_4 rfl ?_
  refine v_getr dX5_plain_5 flX5_12 sh_0 rfl ?_
  obtain ⟨w1, e2, h⟩ := Option.bind_eq_some_iff.mp h
  refine v_callV (as := [.ref 1]) (st := []) (sX0_become isG_21 isG_1 e2) dX5_plain_8 mlX5_250 (CRn (by decide) (by decide)) sh_21 rfl rfl rfl (Nat.le_of_ble_eq_true rfl) ?_
  refine v_aload_n dX5_plain_11 rfl ?_
  refine v_getr dX5_plain_12 flX5_54 sh_0 rfl ?_
  obtain ⟨w3, e4, h⟩ := Option.bind_eq_some_iff.mp h
  refine v_callV (as := []) (st := []) (sX3_tellAll e4) dX5_plain_15 mlX5_252 (CRn (by decide) (by decide)) sh_38 rfl rfl rfl (Nat.le_of_ble_eq_true rfl) ?_
  refine v_istore_n (ls1 := [some (.ref 0), some (.int w3.1)]) dX5_plain_18 (Nat.le_of_ble_eq_true rfl) rfl ?_
  refine v_iload_n dX5_plain_19 rfl ?_
  obtain ⟨t7, e8, h⟩ := Option.bind_eq_some_iff.mp h
  have hJ : V g kX5_plain (jm g 10 (some (.int r.1)) r.2) 34 [some (.ref 0), some (.int w3.1)] [] t7 := by
    refine v_aload_n dX5_plain_34 rfl ?_
    refine v_getr dX5_plain_35 flX5_45 sh_0 rfl ?_
    refine v_iconst (v := 0) dX5_plain_38 rfl ?_
    refine v_puti dX5_plain_39 fpX5_244 sh_36 rfl ?_
    refine v_iload_n dX5_plain_42 rfl ?_
    replace h := Option.some.inj h; subst h
    exact v_iret rfl dX5_plain_43
  clear h
  have h := e8
  clear e8
  refine v_if_ge (tgt := 34) dX5_plain_20 rfl (fun c6 => ?_) (fun c6 => ?_)
  · replace h := (if_pos c6).symm.trans h
    replace h := Option.some.inj h; subst h
    refine V.sub (ls' := [some (.ref 0), some (.int w3.1)]) (And.intro rfl (And.intro rfl trivial)) ?_
    exact hJ
  · replace h := (if_neg c6).symm.trans h
    refine v_aload_n dX5_plain_23 rfl ?_
    refine v_getr dX5_plain_24 flX5_12 sh_0 rfl ?_
    refine v_aload_n dX5_plain_27 rfl ?_
    refine v_getr dX5_plain_28 flX5_19 sh_0 rfl ?_
    obtain ⟨w9, e10, h⟩ := Option.bind_eq_some_iff.mp h
    refine v_callV (as := [.ref 21]) (st := []) (sX0_become isG_1 isG_21 e10) dX5_plain_31 mlX5_250 (CRn (by decide) (by decide)) sh_1 rfl rfl rfl (Nat.le_of_ble_eq_true rfl) ?_
    replace h := Option.some.inj h; subst h
    refine V.sub (ls' := [some (.ref 0), some (.int w3.1)]) (And.intro rfl (And.intro rfl trivial)) ?_
    exact hJ
/-! ===== BentPlain.isSheet(I)Z ===== -/
def fX5_isSheet (x0 : Int32) : Int32 := (if x0 < 0 then (0 : Int32) else (if (4 : Int32) ≤ x0 then (0 : Int32) else (1 : Int32)))
set_option maxRecDepth 100000 in
set_option maxHeartbeats 4000000 in
theorem sX5_isSheet {g : Wo} {M : Mem} {x0 : Int32} {r : Int32} (h : fX5_isSheet x0 = r) : Sp g kX5_isSheet 0 [.int x0] M (some (.int r)) M := by
  rw [fX5_isSheet] at h
  refine Sp_intro (by decide) [some (.int x0)] rfl (Nat.le_of_ble_eq_true rfl) ?_
  refine v_iload_n dX5_isSheet_0 rfl ?_
  refine v_if_lt (tgt := 13) dX5_isSheet_1 rfl (fun c1 => ?_) (fun c1 => ?_)
  · replace h := (if_pos c1).symm.trans h
    refine v_iconst (v := 0) dX5_isSheet_13 rfl ?_
    subst h
    exact v_zret rfl (z_nar z_0) dX5_isSheet_14
  · replace h := (if_neg c1).symm.trans h
    refine v_iload_n dX5_isSheet_4 rfl ?_
    refine v_iconst (v := 4) dX5_isSheet_5 rfl ?_
    refine v_icmp_ge (tgt := 13) dX5_isSheet_6 rfl (fun c2 => ?_) (fun c2 => ?_)
    · replace h := (if_pos c2).symm.trans h
      refine v_iconst (v := 0) dX5_isSheet_13 rfl ?_
      subst h
      exact v_zret rfl (z_nar z_0) dX5_isSheet_14
    · replace h := (if_neg c2).symm.trans h
      refine v_iconst (v := 1) dX5_isSheet_9 rfl ?_
      refine v_goto (tgt := 14) dX5_isSheet_10 rfl ?_
      subst h
      exact v_zret rfl (z_nar z_1) dX5_isSheet_14
/-! ===== BentPlain$Sheet.begin(II)V ===== -/
def fX1_begin (x0 : Nat) (x1 : Int32) (x2 : Int32) (M : Mem) : Option Mem := ((fJ7_fill_d0a16 (x0 + 1) (0 : Int64) (setI (setI M x0 0 x1) x0 1 x2)).bind fun w1 => some w1)
set_option maxRecDepth 100000 in
set_option maxHeartbeats 4000000 in
theorem sX1_begin {g : Wo} {M : Mem} {x0 : Nat} {x1 : Int32} {x2 : Int32} {r : Mem} (hx0 : isS x0) (h : fX1_begin x0 x1 x2 M = some r) : Sp g kX1_begin 1 [.ref x0, .int x1, .int x2] M none r := by
  rw [fX1_begin] at h
  refine Sp_intro (by decide) [some (.ref x0), some (.int x1), some (.int x2)] rfl (Nat.le_of_ble_eq_true rfl) ?_
  refine v_aload_n dX1_begin_0 rfl ?_
  refine v_iload_n dX1_begin_1 rfl ?_
  refine v_puti dX1_begin_2 fpX1_15 hx0.1 rfl ?_
  refine v_aload_n dX1_begin_5 rfl ?_
  refine v_iload_n dX1_begin_6 rfl ?_
  refine v_puti dX1_begin_7 fpX1_19 hx0.1 rfl ?_
  refine v_aload_n dX1_begin_10 rfl ?_
  refine v_getr dX1_begin_11 flX1_9 hx0.1 rfl ?_
  refine v_lconst (v := 0) dX1_begin_14 rfl ?_
  obtain ⟨w1, e2, h⟩ := Option.bind_eq_some_iff.mp h
  refine v_callS (as := [.ref (x0 + 1), .long (0 : Int64)]) (st := []) (sJ7_fill_d0a16 (isJ_of hx0.2) e2) dX1_begin_15 mlX1_22 (CRn (by decide) (by decide)) rfl rfl (Nat.le_of_ble_eq_true rfl) ?_
  replace h := Option.some.inj h; subst h
  exact v_vret rfl dX1_begin_18
