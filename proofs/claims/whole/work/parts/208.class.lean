/-! ===== BentPlain$Teller.lookAtSide(LBentPlain$Tape;LBentPlain$Ground;)I ===== -/
def fX3_lookAtSide (M : Mem) : Option (Int32 × Mem) := (if (fX2_isNumberBelow (M.1 1 0) M) = 0 then some ((-1 : Int32), M) else ((fX2_advance M).bind fun w2 => ((fX3_sideNamed w2).bind fun v4 => (if v4 = (-1 : Int32) then some ((-1 : Int32), w2) else some ((fX5_wayOf (M.1 36 3) v4), w2)))))
set_option maxRecDepth 100000 in
set_option maxHeartbeats 4000000 in
theorem sX3_lookAtSide {g : Wo} {M : Mem} {r : Int32 × Mem} (h : fX3_lookAtSide M = some r) : Sp g kX3_lookAtSide 6 [.ref 36, .ref 1] M (some (.int r.1)) r.2 := by
  rw [fX3_lookAtSide] at h
  refine Sp_intro (by decide) [some (.ref 36), some (.ref 1), none, none] rfl (Nat.le_of_ble_eq_true rfl) ?_
  refine v_aload_n dX3_lookAtSide_0 rfl ?_
  refine v_aload_n dX3_lookAtSide_1 rfl ?_
  refine v_geti dX3_lookAtSide_2 flX3_52 sh_1 rfl ?_
  refine v_callV (as := [.int (M.1 1 0)]) (st := []) (sX2_isNumberBelow rfl) dX3_lookAtSide_5 mlX3_59 (CRn (by decide) (by decide)) sh_36 rfl rfl rfl (Nat.le_of_ble_eq_true rfl) ?_
  refine v_if_ne (tgt := 13) dX3_lookAtSide_8 rfl (fun c1 => ?_) (fun c1 => ?_)
  · replace h := (if_neg c1).symm.trans h
    refine v_aload_n dX3_lookAtSide_13 rfl ?_
    refine v_geti dX3_lookAtSide_14 flX3_63 sh_36 rfl ?_
    refine v_istore_n (ls1 := [some (.ref 36), some (.ref 1), some (.int (M.1 36 3)), none]) dX3_lookAtSide_17 (Nat.le_of_ble_eq_true rfl) rfl ?_
    refine v_aload_n dX3_lookAtSide_18 rfl ?_
    obtain ⟨w2, e3, h⟩ := Option.bind_eq_some_iff.mp h
    refine v_callV (as := []) (st := []) (sX2_advance e3) dX3_lookAtSide_19 mlX3_27 (CRn (by decide) (by decide)) sh_36 rfl rfl rfl (Nat.le_of_ble_eq_true rfl) ?_
    refine v_aload_n dX3_lookAtSide_22 rfl ?_
    obtain ⟨v4, e5, h⟩ := Option.bind_eq_some_iff.mp h
    refine v_callS (as := [.ref 36]) (st := []) (sX3_sideNamed e5) dX3_lookAtSide_23 mlX3_98 (CRn (by decide) (by decide)) rfl rfl (Nat.le_of_ble_eq_true rfl) ?_
    refine v_istore_n (ls1 := [some (.ref 36), some (.ref 1), some (.int (M.1 36 3)), some (.int v4)]) dX3_lookAtSide_26 (Nat.le_of_ble_eq_true rfl) rfl ?_
    refine v_iload_n dX3_lookAtSide_27 rfl ?_
    refine v_iconst (v := -1) dX3_lookAtSide_28 rfl ?_
    refine v_icmp_ne (tgt := 36) dX3_lookAtSide_29 rfl (fun c6 => ?_) (fun c6 => ?_)
    · replace h := (if_neg c6).symm.trans h
      refine v_iload_n dX3_lookAtSide_36 rfl ?_
      refine v_iload_n dX3_lookAtSide_37 rfl ?_
      refine v_callN (as := [.int (M.1 36 3), .int v4]) (st := []) (sX5_wayOf rfl) dX3_lookAtSide_38 mlX3_101 (CRn (by decide) (by decide)) rfl rfl (Nat.le_of_ble_eq_true rfl) ?_
      replace h := Option.some.inj h; subst h
      exact v_iret rfl dX3_lookAtSide_41
    · replace h := (if_pos c6).symm.trans h
      refine v_iconst (v := -1) dX3_lookAtSide_32 rfl ?_
      refine v_goto (tgt := 41) dX3_lookAtSide_33 rfl ?_
      replace h := Option.some.inj h; subst h
      exact v_iret rfl dX3_lookAtSide_41
  · replace h := (if_pos c1).symm.trans h
    refine v_iconst (v := -1) dX3_lookAtSide_11 rfl ?_
    replace h := Option.some.inj h; subst h
    exact v_iret rfl dX3_lookAtSide_12
/-! ===== BentPlain$Teller.tellGlue(LBentPlain$Tape;LBentPlain$Ground;)Z ===== -/
def fX3_tellGlue (M : Mem) : Option (Int32 × Mem) := ((fX2_advance M).bind fun w1 => ((fX3_lookAtSide w1).bind fun w3 => (if w3.1 = (-1 : Int32) then some ((0 : Int32), w3.2) else ((fX0_isFree w3.1 w3.2).bind fun v6 => (if v6 = 0 then some ((0 : Int32), w3.2) else ((fX2_advance w3.2).bind fun w9 => ((fX3_lookAtSide w9).bind fun w11 => (if w11.1 = (-1 : Int32) then some ((0 : Int32), w11.2) else ((fX0_isFree w11.1 w11.2).bind fun v14 => (if v14 = 0 then some ((0 : Int32), w11.2) else (if w11.1 = w3.1 then some ((0 : Int32), w11.2) else ((fX2_advance w11.2).bind fun w18 => ((fX0_join w3.1 w11.1 w18).bind fun w20 => some ((1 : Int32), w20))))))))))))))
set_option maxRecDepth 100000 in
set_option maxHeartbeats 4000000 in
theorem sX3_tellGlue {g : Wo} {M : Mem} {r : Int32 × Mem} (h : fX3_tellGlue M = some r) : Sp g kX3_tellGlue 7 [.ref 36, .ref 1] M (some (.int r.1)) r.2 := by
  rw [fX3_tellGlue] at h
  refine Sp_intro (by decide) [some (.ref 36), some (.ref 1), none, none] rfl (Nat.le_of_ble_eq_true rfl) ?_
  refine v_aload_n dX3_tellGlue_0 rfl ?_
  obtain ⟨w1, e2, h⟩ := Option.bind_eq_some_iff.mp h
  refine v_callV (as := []) (st := []) (sX2_advance e2) dX3_tellGlue_1 mlX3_27 (CRn (by decide) (by decide)) sh_36 rfl rfl rfl (Nat.le_of_ble_eq_true rfl) ?_
  refine v_aload_n dX3_tellGlue_4 rfl ?_
  refine v_aload_n dX3_tellGlue_5 rfl ?_
  obtain ⟨w3, e4, h⟩ := Option.bind_eq_some_iff.mp h
  refine v_callS (as := [.ref 36, .ref 1]) (st := []) (sX3_lookAtSide e4) dX3_tellGlue_6 mlX3_70 (CRn (by decide) (by decide)) rfl rfl (Nat.le_of_ble_eq_true rfl) ?_
  refine v_istore_n (ls1 := [some (.ref 36), some (.ref 1), some (.int w3.1), none]) dX3_tellGlue_9 (Nat.le_of_ble_eq_true rfl) rfl ?_
  refine v_iload_n dX3_tellGlue_10 rfl ?_
  refine v_iconst (v := -1) dX3_tellGlue_11 rfl ?_
  refine v_icmp_eq (tgt := 23) dX3_tellGlue_12 rfl (fun c5 => ?_) (fun c5 => ?_)
  · replace h := (if_pos c5).symm.trans h
    refine v_iconst (v := 0) dX3_tellGlue_23 rfl ?_
    replace h := Option.some.inj h; subst h
    exact v_zret rfl (z_nar z_0) dX3_tellGlue_24
  · replace h := (if_neg c5).symm.trans h
    refine v_aload_n dX3_tellGlue_15 rfl ?_
    refine v_iload_n dX3_tellGlue_16 rfl ?_
    obtain ⟨v6, e7, h⟩ := Option.bind_eq_some_iff.mp h
    refine v_callV (as := [.int w3.1]) (st := []) (sX0_isFree e7) dX3_tellGlue_17 mlX3_74 (CRn (by decide) (by decide)) sh_1 rfl rfl rfl (Nat.le_of_ble_eq_true rfl) ?_
    refine v_if_ne (tgt := 25) dX3_tellGlue_20 rfl (fun c8 => ?_) (fun c8 => ?_)
    · replace h := (if_neg c8).symm.trans h
      refine v_aload_n dX3_tellGlue_25 rfl ?_
      obtain ⟨w9, e10, h⟩ := Option.bind_eq_some_iff.mp h
      refine v_callV (as := []) (st := []) (sX2_advance e10) dX3_tellGlue_26 mlX3_27 (CRn (by decide) (by decide)) sh_36 rfl rfl rfl (Nat.le_of_ble_eq_true rfl) ?_
      refine v_aload_n dX3_tellGlue_29 rfl ?_
      refine v_aload_n dX3_tellGlue_30 rfl ?_
      obtain ⟨w11, e12, h⟩ := Option.bind_eq_some_iff.mp h
      refine v_callS (as := [.ref 36, .ref 1]) (st := []) (sX3_lookAtSide e12) dX3_tellGlue_31 mlX3_70 (CRn (by decide) (by decide)) rfl rfl (Nat.le_of_ble_eq_true rfl) ?_
      refine v_istore_n (ls1 := [some (.ref 36), some (.ref 1), some (.int w3.1), some (.int w11.1)]) dX3_tellGlue_34 (Nat.le_of_ble_eq_true rfl) rfl ?_
      refine v_iload_n dX3_tellGlue_35 rfl ?_
      refine v_iconst (v := -1) dX3_tellGlue_36 rfl ?_
      refine v_icmp_eq (tgt := 53) dX3_tellGlue_37 rfl (fun c13 => ?_) (fun c13 => ?_)
      · replace h := (if_pos c13).symm.trans h
        refine v_iconst (v := 0) dX3_tellGlue_53 rfl ?_
        replace h := Option.some.inj h; subst h
        exact v_zret rfl (z_nar z_0) dX3_tellGlue_54
      · replace h := (if_neg c13).symm.trans h
        refine v_aload_n dX3_tellGlue_40 rfl ?_
        refine v_iload_n dX3_tellGlue_41 rfl ?_
        obtain ⟨v14, e15, h⟩ := Option.bind_eq_some_iff.mp h
        refine v_callV (as := [.int w11.1]) (st := []) (sX0_isFree e15) dX3_tellGlue_42 mlX3_74 (CRn (by decide) (by decide)) sh_1 rfl rfl rfl (Nat.le_of_ble_eq_true rfl) ?_
        refine v_if_eq (tgt := 53) dX3_tellGlue_45 rfl (fun c16 => ?_) (fun c16 => ?_)
        · replace h := (if_pos c16).symm.trans h
          refine v_iconst (v := 0) dX3_tellGlue_53 rfl ?_
          replace h := Option.some.inj h; subst h
          exact v_zret rfl (z_nar z_0) dX3_tellGlue_54
        · replace h := (if_neg c16).symm.trans h
          refine v_iload_n dX3_tellGlue_48 rfl ?_
          refine v_iload_n dX3_tellGlue_49 rfl ?_
          refine v_icmp_ne (tgt := 55) dX3_tellGlue_50 rfl (fun c17 => ?_) (fun c17 => ?_)
          · replace h := (if_neg c17).symm.trans h
            refine v_aload_n dX3_tellGlue_55 rfl ?_
            obtain ⟨w18, e19, h⟩ := Option.bind_eq_some_iff.mp h
            refine v_callV (as := []) (st := []) (sX2_advance e19) dX3_tellGlue_56 mlX3_27 (CRn (by decide) (by decide)) sh_36 rfl rfl rfl (Nat.le_of_ble_eq_true rfl) ?_
            refine v_aload_n dX3_tellGlue_59 rfl ?_
            refine v_iload_n dX3_tellGlue_60 rfl ?_
            refine v_iload_n dX3_tellGlue_61 rfl ?_
            obtain ⟨w20, e21, h⟩ := Option.bind_eq_some_iff.mp h
            refine v_callV (as := [.int w3.1, .int w11.1]) (st := []) (sX0_join e21) dX3_tellGlue_62 mlX3_77 (CRn (by decide) (by decide)) sh_1 rfl rfl rfl (Nat.le_of_ble_eq_true rfl) ?_
            refine v_iconst (v := 1) dX3_tellGlue_65 rfl ?_
            replace h := Option.some.inj h; subst h
            exact v_zret rfl (z_nar z_1) dX3_tellGlue_66
          · replace h := (if_pos c17).symm.trans h
            refine v_iconst (v := 0) dX3_tellGlue_53 rfl ?_
            replace h := Option.some.inj h; subst h
            exact v_zret rfl (z_nar z_0) dX3_tellGlue_54
    · replace h := (if_pos c8).symm.trans h
      refine v_iconst (v := 0) dX3_tellGlue_23 rfl ?_
      replace h := Option.some.inj h; subst h
      exact v_zret rfl (z_nar z_0) dX3_tellGlue_24
/-! ===== BentPlain$Teller.tellCut(LBentPlain$Tape;LBentPlain$Ground;)Z ===== -/
def fX3_tellCut (M : Mem) : Option (Int32 × Mem) := ((fX2_advance M).bind fun w1 => ((fX3_lookAtSide w1).bind fun w3 => (if w3.1 = (-1 : Int32) then some ((0 : Int32), w3.2) else ((fX0_isFree w3.1 w3.2).bind fun v6 => (if v6 = 0 then ((fX2_advance w3.2).bind fun w9 => ((fX0_sever w3.1 w9).bind fun w11 => some ((1 : Int32), w11))) else some ((0 : Int32), w3.2))))))
set_option maxRecDepth 100000 in
set_option maxHeartbeats 4000000 in
theorem sX3_tellCut {g : Wo} {M : Mem} {r : Int32 × Mem} (h : fX3_tellCut M = some r) : Sp g kX3_tellCut 7 [.ref 36, .ref 1] M (some (.int r.1)) r.2 := by
  rw [fX3_tellCut] at h
  refine Sp_intro (by decide) [some (.ref 36), some (.ref 1), none] rfl (Nat.le_of_ble_eq_true rfl) ?_
  refine v_aload_n dX3_tellCut_0 rfl ?_
  obtain ⟨w1, e2, h⟩ := Option.bind_eq_some_iff.mp h
  refine v_callV (as := []) (st := []) (sX2_advance e2) dX3_tellCut_1 mlX3_27 (CRn (by decide) (by decide)) sh_36 rfl rfl rfl (Nat.le_of_ble_eq_true rfl) ?_
  refine v_aload_n dX3_tellCut_4 rfl ?_
  refine v_aload_n dX3_tellCut_5 rfl ?_
  obtain ⟨w3, e4, h⟩ := Option.bind_eq_some_iff.mp h
  refine v_callS (as := [.ref 36, .ref 1]) (st := []) (sX3_lookAtSide e4) dX3_tellCut_6 mlX3_70 (CRn (by decide) (by decide)) rfl rfl (Nat.le_of_ble_eq_true rfl) ?_
  refine v_istore_n (ls1 := [some (.ref 36), some (.ref 1), some (.int w3.1)]) dX3_tellCut_9 (Nat.le_of_ble_eq_true rfl) rfl ?_
  refine v_iload_n dX3_tellCut_10 rfl ?_
  refine v_iconst (v := -1) dX3_tellCut_11 rfl ?_
  refine v_icmp_eq (tgt := 23) dX3_tellCut_12 rfl (fun c5 => ?_) (fun c5 => ?_)
  · replace h := (if_pos c5).symm.trans h
    refine v_iconst (v := 0) dX3_tellCut_23 rfl ?_
    replace h := Option.some.inj h; subst h
    exact v_zret rfl (z_nar z_0) dX3_tellCut_24
  · replace h := (if_neg c5).symm.trans h
    refine v_aload_n dX3_tellCut_15 rfl ?_
    refine v_iload_n dX3_tellCut_16 rfl ?_
    obtain ⟨v6, e7, h⟩ := Option.bind_eq_some_iff.mp h
    refine v_callV (as := [.int w3.1]) (st := []) (sX0_isFree e7) dX3_tellCut_17 mlX3_74 (CRn (by decide) (by decide)) sh_1 rfl rfl rfl (Nat.le_of_ble_eq_true rfl) ?_
    refine v_if_eq (tgt := 25) dX3_tellCut_20 rfl (fun c8 => ?_) (fun c8 => ?_)
    · replace h := (if_pos c8).symm.trans h
      refine v_aload_n dX3_tellCut_25 rfl ?_
      obtain ⟨w9, e10, h⟩ := Option.bind_eq_some_iff.mp h
      refine v_callV (as := []) (st := []) (sX2_advance e10) dX3_tellCut_26 mlX3_27 (CRn (by decide) (by decide)) sh_36 rfl rfl rfl (Nat.le_of_ble_eq_true rfl) ?_
      refine v_aload_n dX3_tellCut_29 rfl ?_
      refine v_iload_n dX3_tellCut_30 rfl ?_
      obtain ⟨w11, e12, h⟩ := Option.bind_eq_some_iff.mp h
      refine v_callV (as := [.int w3.1]) (st := []) (sX0_sever e12) dX3_tellCut_31 mlX3_81 (CRn (by decide) (by decide)) sh_1 rfl rfl rfl (Nat.le_of_ble_eq_true rfl) ?_
      refine v_iconst (v := 1) dX3_tellCut_34 rfl ?_
      replace h := Option.some.inj h; subst h
      exact v_zret rfl (z_nar z_1) dX3_tellCut_35
    · replace h := (if_neg c8).symm.trans h
      refine v_iconst (v := 0) dX3_tellCut_23 rfl ?_
      replace h := Option.some.inj h; subst h
      exact v_zret rfl (z_nar z_0) dX3_tellCut_24
/-! ===== BentPlain$Teller.kindName(I)Ljava/lang/String; ===== -/
def fX3_kindName (x0 : Int32) : Nat := (if x0 = (0 : Int32) then 108 else (if x0 = (1 : Int32) then 109 else (if x0 = (2 : Int32) then 110 else (if x0 = (3 : Int32) then 111 else (if x0 = (4 : Int32) then 112 else 113)))))
theorem ttX3_kindName (x0 : Int32) : isT (fX3_kindName x0) := by
  unfold fX3_kindName
  repeat' split
  all_goals first | exact isT_of (i := 0) (by decide) | exact isT_of (i := 1) (by decide) | exact isT_of (i := 2) (by decide) | exact isT_of (i := 3) (by decide) | exact isT_of (i := 4) (by decide) | exact isT_of (i := 5) (by decide) | exact isT_of (i := 6) (by decide) | exact isT_of (i := 7) (by decide) | exact isT_of (i := 8) (by decide) | exact isT_of (i := 9) (by decide) | exact isT_of (i := 10) (by decide) | exact isT_of (i := 11) (by decide) | exact isT_of (i := 12) (by decide) | exact isT_of (i := 13) (by decide) | exact isT_of (i := 14) (by decide)
set_option maxRecDepth 100000 in
set_option maxHeartbeats 4000000 in
theorem sX3_kindName {g : Wo} {M : Mem} {x0 : Int32} {r : Nat} (h : fX3_kindName x0 = r) : Sp g kX3_kindName 0 [.int x0] M (some (.ref r)) M := by
  rw [fX3_kindName] at h
  refine Sp_intro (by decide) [some (.int x0)] rfl (Nat.le_of_ble_eq_true rfl) ?_
  refine v_iload_n dX3_kindName_0 rfl ?_
  by_cases c1 : x0 = (0 : Int32)
  · replace h := (if_pos c1).symm.trans h
    refine v_tabIn (off := 35) (tgt := 36) dX3_kindName_1 (by rw [c1]; decide) (by rw [c1]; decide) (by rw [c1]; decide) rfl ?_
    refine v_ldcS (i := 8) dX3_kindName_36 rfl ?_
    subst h
    exact v_aret rfl dX3_kindName_38
  · replace h := (if_neg c1).symm.trans h
    by_cases c2 : x0 = (1 : Int32)
    · replace h := (if_pos c2).symm.trans h
      refine v_tabIn (off := 38) (tgt := 39) dX3_kindName_1 (by rw [c2]; decide) (by rw [c2]; decide) (by rw [c2]; decide) rfl ?_
      refine v_ldcS (i := 9) dX3_kindName_39 rfl ?_
      subst h
      exact v_aret rfl dX3_kindName_41
    · replace h := (if_neg c2).symm.trans h
      by_cases c3 : x0 = (2 : Int32)
      · replace h := (if_pos c3).symm.trans h
        refine v_tabIn (off := 41) (tgt := 42) dX3_kindName_1 (by rw [c3]; decide) (by rw [c3]; decide) (by rw [c3]; decide) rfl ?_
        refine v_ldcS (i := 10) dX3_kindName_42 rfl ?_
        subst h
        exact v_aret rfl dX3_kindName_44
      · replace h := (if_neg c3).symm.trans h
        by_cases c4 : x0 = (3 : Int32)
        · replace h := (if_pos c4).symm.trans h
          refine v_tabIn (off := 44) (tgt := 45) dX3_kindName_1 (by rw [c4]; decide) (by rw [c4]; decide) (by rw [c4]; decide) rfl ?_
          refine v_ldcS (i := 11) dX3_kindName_45 rfl ?_
          subst h
          exact v_aret rfl dX3_kindName_47
        · replace h := (if_neg c4).symm.trans h
          by_cases c5 : x0 = (4 : Int32)
          · replace h := (if_pos c5).symm.trans h
            refine v_tabIn (off := 47) (tgt := 48) dX3_kindName_1 (by rw [c5]; decide) (by rw [c5]; decide) (by rw [c5]; decide) rfl ?_
            refine v_ldcS (i := 12) dX3_kindName_48 rfl ?_
            subst h
            exact v_aret rfl dX3_kindName_50
          · replace h := (if_neg c5).symm.trans h
            refine v_tabOut (tgt := 51) dX3_kindName_1 ?_ rfl ?_
            · have o0 := i32ne c1
              have o1 := i32ne c2
              have o2 := i32ne c3
              have o3 := i32ne c4
              have o4 := i32ne c5
              simp only [i32l_0, i32l_1, i32l_2, i32l_3, i32l_4] at o0 o1 o2 o3 o4
              omega
            · refine v_ldcS (i := 13) dX3_kindName_51 rfl ?_
              subst h
              exact v_aret rfl dX3_kindName_53
/-! ===== BentPlain$Teller.kindNamed(LBentPlain$Tape;)I ===== -/
def fX3_kindNamed_2 (kx : Option Int32) (M : Mem) : Nat → Int32 → Option Int32
  | 0, _ => none
  | n + 1, y1 => (if (6 : Int32) ≤ y1 then kx else ((fX2_isWord (fX3_kindName y1) M).bind fun v2 => (if v2 = 0 then (fX3_kindNamed_2 kx M n (y1 + (1 : Int32))) else some y1)))
def fX3_kindNamed (M : Mem) : Option Int32 := (fX3_kindNamed_2 (some (-1 : Int32)) M FU (0 : Int32))
set_option maxRecDepth 100000 in
set_option maxHeartbeats 4000000 in
theorem tX3_kindNamed_2 {g : Wo} {kx : Option Int32} {M : Mem} {r : Int32} (hk : kx = some r → V g kX3_kindNamed (jm g 5 (some (.int r)) M) 27 [none, none] [] M) : ∀ (n : Nat) (y1 : Int32), fX3_kindNamed_2 kx M n y1 = some r → V g kX3_kindNamed (jm g 5 (some (.int r)) M) 2 [some (.ref 36), some (.int y1)] [] M := by
  intro n
  induction n with
  | zero =>
    intro y1 h
    rw [fX3_kindNamed_2] at h
    cases h
  | succ n ih =>
    intro y1 h
    rw [fX3_kindNamed_2] at h
    refine v_iload_n dX3_kindNamed_2 rfl ?_
    refine v_bipush (v := 6) dX3_kindNamed_3 rfl ?_
    refine v_icmp_ge (tgt := 27) dX3_kindNamed_5 rfl (fun c1 => ?_) (fun c1 => ?_)
    · replace h := (if_pos c1).symm.trans h
      refine V.sub (ls' := [none, none]) trivial ?_
      exact hk h
    · replace h := (if_neg c1).symm.trans h
      refine v_aload_n dX3_kindNamed_8 rfl ?_
      refine v_iload_n dX3_kindNamed_9 rfl ?_
      refine v_callS (as := [.int y1]) (st := [.ref 36]) (sX3_kindName rfl) dX3_kindNamed_10 mlX3_108 (CRn (by decide) (by decide)) rfl rfl (Nat.le_of_ble_eq_true rfl) ?_
      obtain ⟨v2, e3, h⟩ := Option.bind_eq_some_iff.mp h
      refine v_callV (as := [.ref (fX3_kindName y1)]) (st := []) (sX2_isWord (ttX3_kindName y1) e3) dX3_kindNamed_13 mlX3_32 (CRn (by decide) (by decide)) sh_36 rfl rfl rfl (Nat.le_of_ble_eq_true rfl) ?_
      refine v_if_eq (tgt := 21) dX3_kindNamed_16 rfl (fun c4 => ?_) (fun c4 => ?_)
      · replace h := (if_pos c4).symm.trans h
        refine v_iinc (v := 1) (ls1 := [some (.ref 36), some (.int (y1 + (1 : Int32)))]) dX3_kindNamed_21 rfl rfl (Nat.le_of_ble_eq_true rfl) rfl ?_
        refine v_goto (tgt := 2) dX3_kindNamed_24 rfl ?_
        refine V.sub (ls' := [some (.ref 36), some (.int (y1 + (1 : Int32)))]) (And.intro rfl (And.intro rfl trivial)) ?_
        exact ih _ h
      · replace h := (if_neg c4).symm.trans h
        refine v_iload_n dX3_kindNamed_19 rfl ?_
        replace h := Option.some.inj h; subst h
        exact v_iret rfl dX3_kindNamed_20
set_option maxRecDepth 100000 in
set_option maxHeartbeats 4000000 in
theorem sX3_kindNamed {g : Wo} {M : Mem} {r : Int32} (h : fX3_kindNamed M = some r) : Sp g kX3_kindNamed 5 [.ref 36] M (some (.int r)) M := by
  rw [fX3_kindNamed] at h
  refine Sp_intro (by decide) [some (.ref 36), none] rfl (Nat.le_of_ble_eq_true rfl) ?_
  refine v_iconst (v := 0) dX3_kindNamed_0 rfl ?_
  refine v_istore_n (ls1 := [some (.ref 36), some (.int (0 : Int32))]) dX3_kindNamed_1 (Nat.le_of_ble_eq_true rfl) rfl ?_
  refine V.sub (ls' := [some (.ref 36), some (.int (0 : Int32))]) (And.intro rfl (And.intro rfl trivial)) ?_
  refine tX3_kindNamed_2 (fun h => ?_) FU _ h
  refine v_iconst (v := -1) dX3_kindNamed_27 rfl ?_
  replace h := Option.some.inj h; subst h
  exact v_iret rfl dX3_kindNamed_28
/-! ===== BentPlain$Teller.tellWalker(LBentPlain$Tape;LBentPlain$Ground;)Z ===== -/
def fX3_tellWalker (M : Mem) : Option (Int32 × Mem) := ((fX3_kindNamed M).bind fun v1 => (if v1 = (-1 : Int32) then some ((0 : Int32), M) else (if (M.1 1 1) < (6 : Int32) then ((fX2_advance M).bind fun w5 => ((fX2_isWord 114 w5).bind fun v7 => (if v7 = 0 then some ((0 : Int32), w5) else ((fX2_advance w5).bind fun w10 => ((fX3_lookAtSide w10).bind fun w12 => (if w12.1 = (-1 : Int32) then some ((0 : Int32), w12.2) else ((fX2_advance w12.2).bind fun w15 => ((fX0_addWalker v1 w12.1 w15).bind fun w17 => some ((1 : Int32), w17.2))))))))) else some ((0 : Int32), M))))
set_option maxRecDepth 100000 in
set_option maxHeartbeats 4000000 in
theorem sX3_tellWalker {g : Wo} {M : Mem} {r : Int32 × Mem} (h : fX3_tellWalker M = some r) : Sp g kX3_tellWalker 7 [.ref 36, .ref 1] M (some (.int r.1)) r.2 := by
  rw [fX3_tellWalker] at h
  refine Sp_intro (by decide) [some (.ref 36), some (.ref 1), none, none] rfl (Nat.le_of_ble_eq_true rfl) ?_
  refine v_aload_n dX3_tellWalker_0 rfl ?_
  obtain ⟨v1, e2, h⟩ := Option.bind_eq_some_iff.mp h
  refine v_callS (as := [.ref 36]) (st := []) (sX3_kindNamed e2) dX3_tellWalker_1 mlX3_85 (CRn (by decide) (by decide)) rfl rfl (Nat.le_of_ble_eq_true rfl) ?_
  refine v_istore_n (ls1 := [some (.ref 36), some (.ref 1), some (.int v1), none]) dX3_tellWalker_4 (Nat.le_of_ble_eq_true rfl) rfl ?_
  refine v_iload_n dX3_tellWalker_5 rfl ?_
  refine v_iconst (v := -1) dX3_tellWalker_6 rfl ?_
  refine v_icmp_eq (tgt := 19) dX3_tellWalker_7 rfl (fun c3 => ?_) (fun c3 => ?_)
  · replace h := (if_pos c3).symm.trans h
    refine v_iconst (v := 0) dX3_tellWalker_19 rfl ?_
    replace h := Option.some.inj h; subst h
    exact v_zret rfl (z_nar z_0) dX3_tellWalker_20
  · replace h := (if_neg c3).symm.trans h
    refine v_aload_n dX3_tellWalker_10 rfl ?_
    refine v_geti dX3_tellWalker_11 flX3_89 sh_1 rfl ?_
    refine v_bipush (v := 6) dX3_tellWalker_14 rfl ?_
    refine v_icmp_lt (tgt := 21) dX3_tellWalker_16 rfl (fun c4 => ?_) (fun c4 => ?_)
    · replace h := (if_pos c4).symm.trans h
      refine v_aload_n dX3_tellWalker_21 rfl ?_
      obtain ⟨w5, e6, h⟩ := Option.bind_eq_some_iff.mp h
      refine v_callV (as := []) (st := []) (sX2_advance e6) dX3_tellWalker_22 mlX3_27 (CRn (by decide) (by decide)) sh_36 rfl rfl rfl (Nat.le_of_ble_eq_true rfl) ?_
      refine v_aload_n dX3_tellWalker_25 rfl ?_
      refine v_ldcS (i := 14) dX3_tellWalker_26 rfl ?_
      obtain ⟨v7, e8, h⟩ := Option.bind_eq_some_iff.mp h
      refine v_callV (as := [.ref 114]) (st := []) (sX2_isWord (isT_of (i := 14) (by decide)) e8) dX3_tellWalker_28 mlX3_32 (CRn (by decide) (by decide)) sh_36 rfl rfl rfl (Nat.le_of_ble_eq_true rfl) ?_
      refine v_if_ne (tgt := 36) dX3_tellWalker_31 rfl (fun c9 => ?_) (fun c9 => ?_)
      · replace h := (if_neg c9).symm.trans h
        refine v_aload_n dX3_tellWalker_36 rfl ?_
        obtain ⟨w10, e11, h⟩ := Option.bind_eq_some_iff.mp h
        refine v_callV (as := []) (st := []) (sX2_advance e11) dX3_tellWalker_37 mlX3_27 (CRn (by decide) (by decide)) sh_36 rfl rfl rfl (Nat.le_of_ble_eq_true rfl) ?_
        refine v_aload_n dX3_tellWalker_40 rfl ?_
        refine v_aload_n dX3_tellWalker_41 rfl ?_
        obtain ⟨w12, e13, h⟩ := Option.bind_eq_some_iff.mp h
        refine v_callS (as := [.ref 36, .ref 1]) (st := []) (sX3_lookAtSide e13) dX3_tellWalker_42 mlX3_70 (CRn (by decide) (by decide)) rfl rfl (Nat.le_of_ble_eq_true rfl) ?_
        refine v_istore_n (ls1 := [some (.ref 36), some (.ref 1), some (.int v1), some (.int w12.1)]) dX3_tellWalker_45 (Nat.le_of_ble_eq_true rfl) rfl ?_
        refine v_iload_n dX3_tellWalker_46 rfl ?_
        refine v_iconst (v := -1) dX3_tellWalker_47 rfl ?_
        refine v_icmp_ne (tgt := 53) dX3_tellWalker_48 rfl (fun c14 => ?_) (fun c14 => ?_)
        · replace h := (if_neg c14).symm.trans h
          refine v_aload_n dX3_tellWalker_53 rfl ?_
          obtain ⟨w15, e16, h⟩ := Option.bind_eq_some_iff.mp h
          refine v_callV (as := []) (st := []) (sX2_advance e16) dX3_tellWalker_54 mlX3_27 (CRn (by decide) (by decide)) sh_36 rfl rfl rfl (Nat.le_of_ble_eq_true rfl) ?_
          refine v_aload_n dX3_tellWalker_57 rfl ?_
          refine v_iload_n dX3_tellWalker_58 rfl ?_
          refine v_iload_n dX3_tellWalker_59 rfl ?_
          obtain ⟨w17, e18, h⟩ := Option.bind_eq_some_iff.mp h
          refine v_callV (as := [.int v1, .int w12.1]) (st := []) (sX0_addWalker e18) dX3_tellWalker_60 mlX3_94 (CRn (by decide) (by decide)) sh_1 rfl rfl rfl (Nat.le_of_ble_eq_true rfl) ?_
          refine v_pop dX3_tellWalker_63 rfl ?_
          refine v_iconst (v := 1) dX3_tellWalker_64 rfl ?_
          replace h := Option.some.inj h; subst h
          exact v_zret rfl (z_nar z_1) dX3_tellWalker_65
        · replace h := (if_pos c14).symm.trans h
          refine v_iconst (v := 0) dX3_tellWalker_51 rfl ?_
          replace h := Option.some.inj h; subst h
          exact v_zret rfl (z_nar z_0) dX3_tellWalker_52
      · replace h := (if_pos c9).symm.trans h
        refine v_iconst (v := 0) dX3_tellWalker_34 rfl ?_
        replace h := Option.some.inj h; subst h
        exact v_zret rfl (z_nar z_0) dX3_tellWalker_35
    · replace h := (if_neg c4).symm.trans h
      refine v_iconst (v := 0) dX3_tellWalker_19 rfl ?_
      replace h := Option.some.inj h; subst h
      exact v_zret rfl (z_nar z_0) dX3_tellWalker_20
/-! ===== BentPlain$Teller.tellItem(LBentPlain$Tape;LBentPlain$Ground;)Z ===== -/
def fX3_tellItem (M : Mem) : Option (Int32 × Mem) := ((fX2_isWord 100 M).bind fun v1 => (if v1 = 0 then ((fX2_isWord 102 M).bind fun v4 => (if v4 = 0 then ((fX2_isWord 107 M).bind fun v7 => (if v7 = 0 then ((fX3_tellWalker M).bind fun w10 => (zck w10.1).bind fun v12 => some (v12, w10.2)) else ((fX3_tellCut M).bind fun w14 => (zck w14.1).bind fun v16 => some (v16, w14.2)))) else ((fX3_tellGlue M).bind fun w18 => (zck w18.1).bind fun v20 => some (v20, w18.2)))) else ((fX3_tellField M).bind fun w22 => (zck w22.1).bind fun v24 => some (v24, w22.2))))
set_option maxRecDepth 100000 in
set_option maxHeartbeats 4000000 in
theorem sX3_tellItem {g : Wo} {M : Mem} {r : Int32 × Mem} (h : fX3_tellItem M = some r) : Sp g kX3_tellItem 8 [.ref 36, .ref 1] M (some (.int r.1)) r.2 := by
  rw [fX3_tellItem] at h
  refine Sp_intro (by decide) [some (.ref 36), some (.ref 1)] rfl (Nat.le_of_ble_eq_true rfl) ?_
  refine v_aload_n dX3_tellItem_0 rfl ?_
  refine v_ldcS (i := 0) dX3_tellItem_1 rfl ?_
  obtain ⟨v1, e2, h⟩ := Option.bind_eq_some_iff.mp h
  refine v_callV (as := [.ref 100]) (st := []) (sX2_isWord (isT_of (i := 0) (by decide)) e2) dX3_tellItem_3 mlX3_32 (CRn (by decide) (by decide)) sh_36 rfl rfl rfl (Nat.le_of_ble_eq_true rfl) ?_
  refine v_if_eq (tgt := 15) dX3_tellItem_6 rfl (fun c3 => ?_) (fun c3 => ?_)
  · replace h := (if_pos c3).symm.trans h
    refine v_aload_n dX3_tellItem_15 rfl ?_
    refine v_ldcS (i := 2) dX3_tellItem_16 rfl ?_
    obtain ⟨v4, e5, h⟩ := Option.bind_eq_some_iff.mp h
    refine v_callV (as := [.ref 102]) (st := []) (sX2_isWord (isT_of (i := 2) (by decide)) e5) dX3_tellItem_18 mlX3_32 (CRn (by decide) (by decide)) sh_36 rfl rfl rfl (Nat.le_of_ble_eq_true rfl) ?_
    refine v_if_eq (tgt := 30) dX3_tellItem_21 rfl (fun c6 => ?_) (fun c6 => ?_)
    · replace h := (if_pos c6).symm.trans h
      refine v_aload_n dX3_tellItem_30 rfl ?_
      refine v_ldcS (i := 7) dX3_tellItem_31 rfl ?_
      obtain ⟨v7, e8, h⟩ := Option.bind_eq_some_iff.mp h
      refine v_callV (as := [.ref 107]) (st := []) (sX2_isWord (isT_of (i := 7) (by decide)) e8) dX3_tellItem_33 mlX3_32 (CRn (by decide) (by decide)) sh_36 rfl rfl rfl (Nat.le_of_ble_eq_true rfl) ?_
      refine v_if_eq (tgt := 45) dX3_tellItem_36 rfl (fun c9 => ?_) (fun c9 => ?_)
      · replace h := (if_pos c9).symm.trans h
        refine v_aload_n dX3_tellItem_45 rfl ?_
        refine v_aload_n dX3_tellItem_46 rfl ?_
        obtain ⟨w10, e11, h⟩ := Option.bind_eq_some_iff.mp h
        refine v_callS (as := [.ref 36, .ref 1]) (st := []) (sX3_tellWalker e11) dX3_tellItem_47 mlX3_49 (CRn (by decide) (by decide)) rfl rfl (Nat.le_of_ble_eq_true rfl) ?_
        obtain ⟨v12, e13, h⟩ := Option.bind_eq_some_iff.mp h
        replace h := Option.some.inj h; subst h
        obtain ⟨e13a, e13b⟩ := zck_is e13
        rw [e13a]
        exact v_zret rfl (z_nar e13b) dX3_tellItem_50
      · replace h := (if_neg c9).symm.trans h
        refine v_aload_n dX3_tellItem_39 rfl ?_
        refine v_aload_n dX3_tellItem_40 rfl ?_
        obtain ⟨w14, e15, h⟩ := Option.bind_eq_some_iff.mp h
        refine v_callS (as := [.ref 36, .ref 1]) (st := []) (sX3_tellCut e15) dX3_tellItem_41 mlX3_46 (CRn (by decide) (by decide)) rfl rfl (Nat.le_of_ble_eq_true rfl) ?_
        obtain ⟨v16, e17, h⟩ := Option.bind_eq_some_iff.mp h
        replace h := Option.some.inj h; subst h
        obtain ⟨e17a, e17b⟩ := zck_is e17
        rw [e17a]
        exact v_zret rfl (z_nar e17b) dX3_tellItem_44
    · replace h := (if_neg c6).symm.trans h
      refine v_aload_n dX3_tellItem_24 rfl ?_
      refine v_aload_n dX3_tellItem_25 rfl ?_
      obtain ⟨w18, e19, h⟩ := Option.bind_eq_some_iff.mp h
      refine v_callS (as := [.ref 36, .ref 1]) (st := []) (sX3_tellGlue e19) dX3_tellItem_26 mlX3_41 (CRn (by decide) (by decide)) rfl rfl (Nat.le_of_ble_eq_true rfl) ?_
      obtain ⟨v20, e21, h⟩ := Option.bind_eq_some_iff.mp h
      replace h := Option.some.inj h; subst h
      obtain ⟨e21a, e21b⟩ := zck_is e21
      rw [e21a]
      exact v_zret rfl (z_nar e21b) dX3_tellItem_29
  · replace h := (if_neg c3).symm.trans h
    refine v_aload_n dX3_tellItem_9 rfl ?_
    refine v_aload_n dX3_tellItem_10 rfl ?_
    obtain ⟨w22, e23, h⟩ := Option.bind_eq_some_iff.mp h
    refine v_callS (as := [.ref 36, .ref 1]) (st := []) (sX3_tellField e23) dX3_tellItem_11 mlX3_36 (CRn (by decide) (by decide)) rfl rfl (Nat.le_of_ble_eq_true rfl) ?_
    obtain ⟨v24, e25, h⟩ := Option.bind_eq_some_iff.mp h
    replace h := Option.some.inj h; subst h
    obtain ⟨e25a, e25b⟩ := zck_is e25
    rw [e25a]
    exact v_zret rfl (z_nar e25b) dX3_tellItem_14
/-! ===== BentPlain$Teller.tellAll(LBentPlain$Tape;LBentPlain$Ground;)I ===== -/
def fX3_tellAll_6 (kx : Mem → Option (Int32 × Mem)) : Nat → Int32 → Mem → Option (Int32 × Mem)
  | 0, _, _ => none
  | n + 1, y2, M => (if (121 : Int32) < y2 then (kx M) else ((fX3_tellItem M).bind fun w4 => (if w4.1 = 0 then some (((-1 : Int32) - (w4.2.1 36 2)), w4.2) else (if (w4.2.1 36 1) = 0 then some (y2, w4.2) else (if (w4.2.1 36 1) = (1 : Int32) then ((fX2_advance w4.2).bind fun w9 => (fX3_tellAll_6 kx n (y2 + (1 : Int32)) w9)) else some (((-1 : Int32) - (w4.2.1 36 2)), w4.2))))))
def fX3_tellAll (M : Mem) : Option (Int32 × Mem) := ((fX2_begin M).bind fun w1 => (fX3_tellAll_6 (fun M11 => some (((-1 : Int32) - (M11.1 36 2)), M11)) FU (1 : Int32) w1))
set_option maxRecDepth 100000 in
set_option maxHeartbeats 4000000 in
theorem tX3_tellAll_6 {g : Wo} {kx : Mem → Option (Int32 × Mem)} {r : Int32 × Mem} (hk : ∀ (Mx : Mem), kx Mx = some r → V g kX3_tellAll (jm g 9 (some (.int r.1)) r.2) 61 [some (.ref 36), none, none] [] Mx) : ∀ (n : Nat) (y2 : Int32) (M : Mem), fX3_tellAll_6 kx n y2 M = some r → V g kX3_tellAll (jm g 9 (some (.int r.1)) r.2) 6 [some (.ref 36), some (.ref 1), some (.int y2)] [] M := by
  intro n
  induction n with
  | zero =>
    intro y2 M h
    rw [fX3_tellAll_6] at h
    cases h
  | succ n ih =>
    intro y2 M h
    rw [fX3_tellAll_6] at h
    refine v_iload_n dX3_tellAll_6 rfl ?_
    refine v_bipush (v := 121) dX3_tellAll_7 rfl ?_
    refine v_icmp_gt (tgt := 61) dX3_tellAll_9 rfl (fun c3 => ?_) (fun c3 => ?_)
    · replace h := (if_pos c3).symm.trans h
      refine V.sub (ls' := [some (.ref 36), none, none]) (And.intro rfl trivial) ?_
      exact hk _ h
    · replace h := (if_neg c3).symm.trans h
      refine v_aload_n dX3_tellAll_12 rfl ?_
      refine v_aload_n dX3_tellAll_13 rfl ?_
      obtain ⟨w4, e5, h⟩ := Option.bind_eq_some_iff.mp h
      refine v_callS (as := [.ref 36, .ref 1]) (st := []) (sX3_tellItem e5) dX3_tellAll_14 mlX3_14 (CRn (by decide) (by decide)) rfl rfl (Nat.le_of_ble_eq_true rfl) ?_
      refine v_if_ne (tgt := 27) dX3_tellAll_17 rfl (fun c6 => ?_) (fun c6 => ?_)
      · replace h := (if_neg c6).symm.trans h
        refine v_aload_n dX3_tellAll_27 rfl ?_
        refine v_geti dX3_tellAll_28 flX3_24 sh_36 rfl ?_
        refine v_if_ne (tgt := 36) dX3_tellAll_31 rfl (fun c7 => ?_) (fun c7 => ?_)
        · replace h := (if_neg c7).symm.trans h
          refine v_aload_n dX3_tellAll_36 rfl ?_
          refine v_geti dX3_tellAll_37 flX3_24 sh_36 rfl ?_
          refine v_iconst (v := 1) dX3_tellAll_40 rfl ?_
          refine v_icmp_eq (tgt := 51) dX3_tellAll_41 rfl (fun c8 => ?_) (fun c8 => ?_)
          · replace h := (if_pos c8).symm.trans h
            refine v_aload_n dX3_tellAll_51 rfl ?_
            obtain ⟨w9, e10, h⟩ := Option.bind_eq_some_iff.mp h
            refine v_callV (as := []) (st := []) (sX2_advance e10) dX3_tellAll_52 mlX3_27 (CRn (by decide) (by decide)) sh_36 rfl rfl rfl (Nat.le_of_ble_eq_true rfl) ?_
            refine v_iinc (v := 1) (ls1 := [some (.ref 36), some (.ref 1), some (.int (y2 + (1 : Int32)))]) dX3_tellAll_55 rfl rfl (Nat.le_of_ble_eq_true rfl) rfl ?_
            refine v_goto (tgt := 6) dX3_tellAll_58 rfl ?_
            refine V.sub (ls' := [some (.ref 36), some (.ref 1), some (.int (y2 + (1 : Int32)))]) (And.intro rfl (And.intro rfl (And.intro rfl trivial))) ?_
            exact ih _ _ h
          · replace h := (if_neg c8).symm.trans h
            refine v_iconst (v := -1) dX3_tellAll_44 rfl ?_
            refine v_aload_n dX3_tellAll_45 rfl ?_
            refine v_geti dX3_tellAll_46 flX3_20 sh_36 rfl ?_
            refine v_isub dX3_tellAll_49 ?_
            replace h := Option.some.inj h; subst h
            exact v_iret rfl dX3_tellAll_50
        · replace h := (if_pos c7).symm.trans h
          refine v_iload_n dX3_tellAll_34 rfl ?_
          replace h := Option.some.inj h; subst h
          exact v_iret rfl dX3_tellAll_35
      · replace h := (if_pos c6).symm.trans h
        refine v_iconst (v := -1) dX3_tellAll_20 rfl ?_
        refine v_aload_n dX3_tellAll_21 rfl ?_
        refine v_geti dX3_tellAll_22 flX3_20 sh_36 rfl ?_
        refine v_isub dX3_tellAll_25 ?_
        replace h := Option.some.inj h; subst h
        exact v_iret rfl dX3_tellAll_26
set_option maxRecDepth 100000 in
set_option maxHeartbeats 4000000 in
theorem sX3_tellAll {g : Wo} {M : Mem} {r : Int32 × Mem} (h : fX3_tellAll M = some r) : Sp g kX3_tellAll 9 [.ref 36, .ref 1] M (some (.int r.1)) r.2 := by
  rw [fX3_tellAll] at h
  refine Sp_intro (by decide) [some (.ref 36), some (.ref 1), none] rfl (Nat.le_of_ble_eq_true rfl) ?_
  refine v_aload_n dX3_tellAll_0 rfl ?_
  obtain ⟨w1, e2, h⟩ := Option.bind_eq_some_iff.mp h
  refine v_callV (as := []) (st := []) (sX2_begin e2) dX3_tellAll_1 mlX3_9 (CRn (by decide) (by decide)) sh_36 rfl rfl rfl (Nat.le_of_ble_eq_true rfl) ?_
  refine v_iconst (v := 1) dX3_tellAll_4 rfl ?_
  refine v_istore_n (ls1 := [some (.ref 36), some (.ref 1), some (.int (1 : Int32))]) dX3_tellAll_5 (Nat.le_of_ble_eq_true rfl) rfl ?_
  refine V.sub (ls' := [some (.ref 36), some (.ref 1), some (.int (1 : Int32))]) (And.intro rfl (And.intro rfl (And.intro rfl trivial))) ?_
  refine tX3_tellAll_6 (fun M11 h => ?_) FU _ _ h
  refine v_iconst (v := -1) dX3_tellAll_61 rfl ?_
  refine v_aload_n dX3_tellAll_62 rfl ?_
  refine v_geti dX3_tellAll_63 flX3_20 sh_36 rfl ?_
  refine v_isub dX3_tellAll_66 ?_
  replace h := Option.some.inj h; subst h
  exact v_iret rfl dX3_tellAll_67
/-! ===== BentPlain.plain()I ===== -/
def fX5_plain (M : Mem) : Option (Int32 × Mem) := ((fX0_become 21 1 M).bind fun w1 => ((fX3_tellAll w1).bind fun w3 => ((if 0 ≤ w3.1 then some w3.2 else ((fX0_become 1 21 w3.2).bind fun w9 => some w9)).bind fun t7 => some (w3.1, (setI t7 36 0 (0 : Int32))))))
set_option maxRecDepth 100000 in
set_option maxHeartbeats 4000000 in
theorem sX5_plain {g : Wo} {M : Mem} {r : Int32 × Mem} (h : fX5_plain M = some r) : Sp g kX5_plain 10 [.ref 0] M (some (.int r.1)) r.2 := by
  rw [fX5_plain] at h
  refine Sp_intro (by decide) [some (.ref 0), none] rfl (Nat.le_of_ble_eq_true rfl) ?_
  refine v_aload_n dX5_plain_0 rfl ?_
  refine v_getr dX5_plain_1 flX5_19 sh_0 rfl ?_
  refine v_aload_n dX5_plain_4 rfl ?_
  refine v_getr dX5_plain_5 flX5_12 sh_0 rfl ?_
  obtain ⟨w1, e2, h⟩ := Option.bind_eq_some_iff.mp h
  refine v_callV (as := [.ref 1]) (st := []) (sX0_become isG_21 isG_1 e2) dX5_plain_8 mlX5_241 (CRn (by decide) (by decide)) sh_21 rfl rfl rfl (Nat.le_of_ble_eq_true rfl) ?_
  refine v_aload_n dX5_plain_11 rfl ?_
  refine v_getr dX5_plain_12 flX5_45 sh_0 rfl ?_
  refine v_aload_n dX5_plain_15 rfl ?_
  refine v_getr dX5_plain_16 flX5_12 sh_0 rfl ?_
  obtain ⟨w3, e4, h⟩ := Option.bind_eq_some_iff.mp h
  refine v_callS (as := [.ref 36, .ref 1]) (st := []) (sX3_tellAll e4) dX5_plain_19 mlX5_243 (CRn (by decide) (by decide)) rfl rfl (Nat.le_of_ble_eq_true rfl) ?_
  refine v_istore_n (ls1 := [some (.ref 0), some (.int w3.1)]) dX5_plain_22 (Nat.le_of_ble_eq_true rfl) rfl ?_
  refine v_iload_n dX5_plain_23 rfl ?_
  obtain ⟨t7, e8, h⟩ := Option.bind_eq_some_iff.mp h
  have hJ : V g kX5_plain (jm g 10 (some (.int r.1)) r.2) 38 [some (.ref 0), some (.int w3.1)] [] t7 := by
    refine v_aload_n dX5_plain_38 rfl ?_
    refine v_getr dX5_plain_39 flX5_45 sh_0 rfl ?_
    refine v_iconst (v := 0) dX5_plain_42 rfl ?_
    refine v_puti dX5_plain_43 fpX5_235 sh_36 rfl ?_
    refine v_iload_n dX5_plain_46 rfl ?_
    replace h := Option.some.inj h; subst h
    exact v_iret rfl dX5_plain_47
  clear h
  have h := e8
  clear e8
  refine v_if_ge (tgt := 38) dX5_plain_24 rfl (fun c6 => ?_) (fun c6 => ?_)
  · replace h := (if_pos c6).symm.trans h
    replace h := Option.some.inj h; subst h
    refine V.sub (ls' := [some (.ref 0), some (.int w3.1)]) (And.intro rfl (And.intro rfl trivial)) ?_
    exact hJ
  · replace h := (if_neg c6).symm.trans h
    refine v_aload_n dX5_plain_27 rfl ?_
    refine v_getr dX5_plain_28 flX5_12 sh_0 rfl ?_
    refine v_aload_n dX5_plain_31 rfl ?_
    refine v_getr dX5_plain_32 flX5_19 sh_0 rfl ?_
    obtain ⟨w9, e10, h⟩ := Option.bind_eq_some_iff.mp h
    refine v_callV (as := [.ref 21]) (st := []) (sX0_become isG_1 isG_21 e10) dX5_plain_35 mlX5_241 (CRn (by decide) (by decide)) sh_1 rfl rfl rfl (Nat.le_of_ble_eq_true rfl) ?_
    replace h := Option.some.inj h; subst h
    refine V.sub (ls' := [some (.ref 0), some (.int w3.1)]) (And.intro rfl (And.intro rfl trivial)) ?_
    exact hJ
/-! ===== BentPlain.isSheet(I)Z ===== -/
def fX5_isSheet (x0 : Int32) : Int32 := (if x0 < 0 then (0 : Int32) else (if (4 : Int32) ≤ x0 then (0 : Int32) else (1 : Int32)))
set_option maxRecDepth 100000 in
set_option maxHeartbeats 4000000 in
theorem sX5_isSheet {g : Wo} {M : Mem} {x0 : Int32} {r : Int32} (h : fX5_isSheet x0 = r) : Sp g kX5_isSheet 0 [.int x0] M (some (.int r)) M := by
  rw [fX5_isSheet] at h
  refine Sp_intro (by decide) [some (.int x0)] rfl (Nat.le_of_ble_eq_true rfl) ?_
  refine v_iload_n dX5_isSheet_0 rfl ?_
  refine v_if_lt (tgt := 13) dX5_isSheet_1 rfl (fun c1 => ?_) (fun c1 => ?_)
  · replace h := (if_pos c1).symm.trans h
    refine v_iconst (v := 0) dX5_isSheet_13 rfl ?_
    subst h
    exact v_zret rfl (z_nar z_0) dX5_isSheet_14
  · replace h := (if_neg c1).symm.trans h
    refine v_iload_n dX5_isSheet_4 rfl ?_
    refine v_iconst (v := 4) dX5_isSheet_5 rfl ?_
    refine v_icmp_ge (tgt := 13) dX5_isSheet_6 rfl (fun c2 => ?_) (fun c2 => ?_)
    · replace h := (if_pos c2).symm.trans h
      refine v_iconst (v := 0) dX5_isSheet_13 rfl ?_
      subst h
      exact v_zret rfl (z_nar z_0) dX5_isSheet_14
    · replace h := (if_neg c2).symm.trans h
      refine v_iconst (v := 1) dX5_isSheet_9 rfl ?_
      refine v_goto (tgt := 14) dX5_isSheet_10 rfl ?_
      subst h
      exact v_zret rfl (z_nar z_1) dX5_isSheet_14
/-! ===== BentPlain$Sheet.begin(II)V ===== -/
def fX1_begin (x0 : Nat) (x1 : Int32) (x2 : Int32) (M : Mem) : Option Mem := ((fJ7_fill_d0a16 (x0 + 1) (0 : Int64) (setI (setI M x0 0 x1) x0 1 x2)).bind fun w1 => some w1)
set_option maxRecDepth 100000 in
set_option maxHeartbeats 4000000 in
theorem sX1_begin {g : Wo} {M : Mem} {x0 : Nat} {x1 : Int32} {x2 : Int32} {r : Mem} (hx0 : isS x0) (h : fX1_begin x0 x1 x2 M = some r) : Sp g kX1_begin 1 [.ref x0, .int x1, .int x2] M none r := by
  rw [fX1_begin] at h
  refine Sp_intro (by decide) [some (.ref x0), some (.int x1), some (.int x2)] rfl (Nat.le_of_ble_eq_true rfl) ?_
  refine v_aload_n dX1_begin_0 rfl ?_
  refine v_iload_n dX1_begin_1 rfl ?_
  refine v_puti dX1_begin_2 fpX1_15 hx0.1 rfl ?_
  refine v_aload_n dX1_begin_5 rfl ?_
  refine v_iload_n dX1_begin_6 rfl ?_
  refine v_puti dX1_begin_7 fpX1_19 hx0.1 rfl ?_
  refine v_aload_n dX1_begin_10 rfl ?_
  refine v_getr dX1_begin_11 flX1_9 hx0.1 rfl ?_
  refine v_lconst (v := 0) dX1_begin_14 rfl ?_
  obtain ⟨w1, e2, h⟩ := Option.bind_eq_some_iff.mp h
  refine v_callS (as := [.ref (x0 + 1), .long (0 : Int64)]) (st := []) (sJ7_fill_d0a16 (isJ_of hx0.2) e2) dX1_begin_15 mlX1_22 (CRn (by decide) (by decide)) rfl rfl (Nat.le_of_ble_eq_true rfl) ?_
  replace h := Option.some.inj h; subst h
  exact v_vret rfl dX1_begin_18
/-! ===== BentPlain.sheet(III)I ===== -/
def fX5_sheet (x1 : Int32) (x2 : Int32) (x3 : Int32) (M : Mem) : Option (Int32 × Mem) := (if (fX5_isSheet x1) = 0 then ((fX5_tell (-1000000001 : Int32) M).bind fun w2 => some (w2.1, w2.2)) else (if x2 = 0 then (if 0 ≤ x3 then (if x3 ≤ (40 : Int32) then ((ldS x1).bind fun q7 => ((fX1_begin q7 x2 (if x2 = 0 then (0 : Int32) else x3) M).bind fun w10 => some ((w10.1 q7 1), w10))) else ((fX5_tell (-1000000001 : Int32) M).bind fun w12 => some (w12.1, w12.2))) else ((fX5_tell (-1000000007 : Int32) M).bind fun w14 => some (w14.1, w14.2))) else (if x2 = (8 : Int32) then (if 0 ≤ x3 then (if x3 ≤ (40 : Int32) then ((ldS x1).bind fun q19 => ((fX1_begin q19 x2 (if x2 = 0 then (0 : Int32) else x3) M).bind fun w22 => some ((w22.1 q19 1), w22))) else ((fX5_tell (-1000000001 : Int32) M).bind fun w24 => some (w24.1, w24.2))) else ((fX5_tell (-1000000007 : Int32) M).bind fun w26 => some (w26.1, w26.2))) else (if x2 = (16 : Int32) then (if 0 ≤ x3 then (if x3 ≤ (40 : Int32) then ((ldS x1).bind fun q31 => ((fX1_begin q31 x2 (if x2 = 0 then (0 : Int32) else x3) M).bind fun w34 => some ((w34.1 q31 1), w34))) else ((fX5_tell (-1000000001 : Int32) M).bind fun w36 => some (w36.1, w36.2))) else ((fX5_tell (-1000000007 : Int32) M).bind fun w38 => some (w38.1, w38.2))) else (if x2 = (64 : Int32) then (if 0 ≤ x3 then (if x3 ≤ (40 : Int32) then ((ldS x1).bind fun q43 => ((fX1_begin q43 x2 (if x2 = 0 then (0 : Int32) else x3) M).bind fun w46 => some ((w46.1 q43 1), w46))) else ((fX5_tell (-1000000001 : Int32) M).bind fun w48 => some (w48.1, w48.2))) else ((fX5_tell (-1000000007 : Int32) M).bind fun w50 => some (w50.1, w50.2))) else ((fX5_tell (-1000000001 : Int32) M).bind fun w52 => some (w52.1, w52.2)))))))
set_option maxRecDepth 100000 in
set_option maxHeartbeats 4000000 in
theorem sX5_sheet {g : Wo} {M : Mem} {x1 : Int32} {x2 : Int32} {x3 : Int32} {r : Int32 × Mem} (h : fX5_sheet x1 x2 x3 M = some r) : Sp g kX5_sheet 2 [.ref 0, .int x1, .int x2, .int x3] M (some (.int r.1)) r.2 := by
  rw [fX5_sheet] at h
  refine Sp_intro (by decide) [some (.ref 0), some (.int x1), some (.int x2), some (.int x3), none] rfl (Nat.le_of_ble_eq_true rfl) ?_
  refine v_iload_n dX5_sheet_0 rfl ?_
  refine v_callS (as := [.int x1]) (st := []) (sX5_isSheet rfl) dX5_sheet_1 mlX5_249 (CRn (by decide) (by decide)) rfl rfl (Nat.le_of_ble_eq_true rfl) ?_
  refine v_if_eq (tgt := 29) dX5_sheet_4 rfl (fun c1 => ?_) (fun c1 => ?_)
  · replace h := (if_pos c1).symm.trans h
    refine v_aload_n dX5_sheet_29 rfl ?_
    refine v_ldc (v := -1000000001) dX5_sheet_30 w_175 ?_
    obtain ⟨w2, e3, h⟩ := Option.bind_eq_some_iff.mp h
    refine v_callV (as := [.int (-1000000001 : Int32)]) (st := []) (sX5_tell e3) dX5_sheet_32 mlX5_64 (CRn (by decide) (by decide)) sh_0 rfl rfl rfl (Nat.le_of_ble_eq_true rfl) ?_
    replace h := Option.some.inj h; subst h
    exact v_iret rfl dX5_sheet_35
  · replace h := (if_neg c1).symm.trans h
    refine v_iload_n dX5_sheet_7 rfl ?_
    refine v_if_eq (tgt := 36) dX5_sheet_8 rfl (fun c4 => ?_) (fun c4 => ?_)
    · replace h := (if_pos c4).symm.trans h
      refine v_iload_n dX5_sheet_36 rfl ?_
      refine v_if_ge (tgt := 47) dX5_sheet_37 rfl (fun c5 => ?_) (fun c5 => ?_)
      · replace h := (if_pos c5).symm.trans h
        refine v_iload_n dX5_sheet_47 rfl ?_
        refine v_bipush (v := 40) dX5_sheet_48 rfl ?_
        refine v_icmp_le (tgt := 60) dX5_sheet_50 rfl (fun c6 => ?_) (fun c6 => ?_)
        · replace h := (if_pos c6).symm.trans h
          refine v_aload_n dX5_sheet_60 rfl ?_
          refine v_getr dX5_sheet_61 flX5_51 sh_0 rfl ?_
          refine v_iload_n dX5_sheet_64 rfl ?_
          obtain ⟨q7, e8, h⟩ := Option.bind_eq_some_iff.mp h
          refine v_sld e8 dX5_sheet_65 ?_
          refine v_astore (ls1 := [some (.ref 0), some (.int x1), some (.int x2), some (.int x3), some (.ref q7)]) dX5_sheet_66 (Nat.le_of_ble_eq_true rfl) rfl ?_
          refine v_aload dX5_sheet_68 rfl ?_
          refine v_iload_n dX5_sheet_70 rfl ?_
          refine v_iload_n dX5_sheet_71 rfl ?_
          have hJ : V g kX5_sheet (jm g 2 (some (.int r.1)) r.2) 80 [none, none, none, none, some (.ref q7)] [.int (if x2 = 0 then (0 : Int32) else x3), .int x2, .ref q7] M := by
            obtain ⟨w10, e11, h⟩ := Option.bind_eq_some_iff.mp h
            refine v_callV (as := [.int x2, .int (if x2 = 0 then (0 : Int32) else x3)]) (st := []) (sX1_begin (ldS_is e8) e11) dX5_sheet_80 mlX5_253 (CRn (by decide) (by decide)) (ldS_is e8).1 rfl rfl rfl (Nat.le_of_ble_eq_true rfl) ?_
            refine v_aload dX5_sheet_83 rfl ?_
            refine v_geti dX5_sheet_85 flX5_256 (ldS_is e8).1 rfl ?_
            replace h := Option.some.inj h; subst h
            exact v_iret rfl dX5_sheet_88
          refine v_if_ne (tgt := 79) dX5_sheet_72 rfl (fun c9 => ?_) (fun c9 => ?_)
          · refine v_iload_n dX5_sheet_79 rfl ?_
            refine V.sub (ls' := [none, none, none, none, some (.ref q7)]) (And.intro rfl trivial) ?_
            first | (simp only [if_neg c9] at hJ; exact hJ) | exact hJ | (simp only [if_neg c9] at hJ ⊢; exact hJ)
          · refine v_iconst (v := 0) dX5_sheet_75 rfl ?_
            refine v_goto (tgt := 80) dX5_sheet_76 rfl ?_
            refine V.sub (ls' := [none, none, none, none, some (.ref q7)]) (And.intro rfl trivial) ?_
            first | (simp only [if_pos c9] at hJ; exact hJ) | exact hJ | (simp only [if_pos c9] at hJ ⊢; exact hJ)
        · replace h := (if_neg c6).symm.trans h
          refine v_aload_n dX5_sheet_53 rfl ?_
          refine v_ldc (v := -1000000001) dX5_sheet_54 w_175 ?_
          obtain ⟨w12, e13, h⟩ := Option.bind_eq_some_iff.mp h
          refine v_callV (as := [.int (-1000000001 : Int32)]) (st := []) (sX5_tell e13) dX5_sheet_56 mlX5_64 (CRn (by decide) (by decide)) sh_0 rfl rfl rfl (Nat.le_of_ble_eq_true rfl) ?_
          replace h := Option.some.inj h; subst h
          exact v_iret rfl dX5_sheet_59
      · replace h := (if_neg c5).symm.trans h
        refine v_aload_n dX5_sheet_40 rfl ?_
        refine v_ldc (v := -1000000007) dX5_sheet_41 w_668 ?_
        obtain ⟨w14, e15, h⟩ := Option.bind_eq_some_iff.mp h
        refine v_callV (as := [.int (-1000000007 : Int32)]) (st := []) (sX5_tell e15) dX5_sheet_43 mlX5_64 (CRn (by decide) (by decide)) sh_0 rfl rfl rfl (Nat.le_of_ble_eq_true rfl) ?_
        replace h := Option.some.inj h; subst h
        exact v_iret rfl dX5_sheet_46
    · replace h := (if_neg c4).symm.trans h
      refine v_iload_n dX5_sheet_11 rfl ?_
      refine v_bipush (v := 8) dX5_sheet_12 rfl ?_
      refine v_icmp_eq (tgt := 36) dX5_sheet_14 rfl (fun c16 => ?_) (fun c16 => ?_)
      · replace h := (if_pos c16).symm.trans h
        refine v_iload_n dX5_sheet_36 rfl ?_
        refine v_if_ge (tgt := 47) dX5_sheet_37 rfl (fun c17 => ?_) (fun c17 => ?_)
        · replace h := (if_pos c17).symm.trans h
          refine v_iload_n dX5_sheet_47 rfl ?_
          refine v_bipush (v := 40) dX5_sheet_48 rfl ?_
          refine v_icmp_le (tgt := 60) dX5_sheet_50 rfl (fun c18 => ?_) (fun c18 => ?_)
          · replace h := (if_pos c18).symm.trans h
            refine v_aload_n dX5_sheet_60 rfl ?_
            refine v_getr dX5_sheet_61 flX5_51 sh_0 rfl ?_
            refine v_iload_n dX5_sheet_64 rfl ?_
            obtain ⟨q19, e20, h⟩ := Option.bind_eq_some_iff.mp h
            refine v_sld e20 dX5_sheet_65 ?_
            refine v_astore (ls1 := [some (.ref 0), some (.int x1), some (.int x2), some (.int x3), some (.ref q19)]) dX5_sheet_66 (Nat.le_of_ble_eq_true rfl) rfl ?_
            refine v_aload dX5_sheet_68 rfl ?_
            refine v_iload_n dX5_sheet_70 rfl ?_
            refine v_iload_n dX5_sheet_71 rfl ?_
            have hJ : V g kX5_sheet (jm g 2 (some (.int r.1)) r.2) 80 [none, none, none, none, some (.ref q19)] [.int (if x2 = 0 then (0 : Int32) else x3), .int x2, .ref q19] M := by
              obtain ⟨w22, e23, h⟩ := Option.bind_eq_some_iff.mp h
              refine v_callV (as := [.int x2, .int (if x2 = 0 then (0 : Int32) else x3)]) (st := []) (sX1_begin (ldS_is e20) e23) dX5_sheet_80 mlX5_253 (CRn (by decide) (by decide)) (ldS_is e20).1 rfl rfl rfl (Nat.le_of_ble_eq_true rfl) ?_
              refine v_aload dX5_sheet_83 rfl ?_
              refine v_geti dX5_sheet_85 flX5_256 (ldS_is e20).1 rfl ?_
              replace h := Option.some.inj h; subst h
              exact v_iret rfl dX5_sheet_88
            refine v_if_ne (tgt := 79) dX5_sheet_72 rfl (fun c21 => ?_) (fun c21 => ?_)
            · refine v_iload_n dX5_sheet_79 rfl ?_
              refine V.sub (ls' := [none, none, none, none, some (.ref q19)]) (And.intro rfl trivial) ?_
              first | (simp only [if_neg c21] at hJ; exact hJ) | exact hJ | (simp only [if_neg c21] at hJ ⊢; exact hJ)
            · refine v_iconst (v := 0) dX5_sheet_75 rfl ?_
              refine v_goto (tgt := 80) dX5_sheet_76 rfl ?_
              refine V.sub (ls' := [none, none, none, none, some (.ref q19)]) (And.intro rfl trivial) ?_
              first | (simp only [if_pos c21] at hJ; exact hJ) | exact hJ | (simp only [if_pos c21] at hJ ⊢; exact hJ)
          · replace h := (if_neg c18).symm.trans h
            refine v_aload_n dX5_sheet_53 rfl ?_
            refine v_ldc (v := -1000000001) dX5_sheet_54 w_175 ?_
            obtain ⟨w24, e25, h⟩ := Option.bind_eq_some_iff.mp h
            refine v_callV (as := [.int (-1000000001 : Int32)]) (st := []) (sX5_tell e25) dX5_sheet_56 mlX5_64 (CRn (by decide) (by decide)) sh_0 rfl rfl rfl (Nat.le_of_ble_eq_true rfl) ?_
            replace h := Option.some.inj h; subst h
            exact v_iret rfl dX5_sheet_59
        · replace h := (if_neg c17).symm.trans h
          refine v_aload_n dX5_sheet_40 rfl ?_
          refine v_ldc (v := -1000000007) dX5_sheet_41 w_668 ?_
          obtain ⟨w26, e27, h⟩ := Option.bind_eq_some_iff.mp h
          refine v_callV (as := [.int (-1000000007 : Int32)]) (st := []) (sX5_tell e27) dX5_sheet_43 mlX5_64 (CRn (by decide) (by decide)) sh_0 rfl rfl rfl (Nat.le_of_ble_eq_true rfl) ?_
          replace h := Option.some.inj h; subst h
          exact v_iret rfl dX5_sheet_46
      · replace h := (if_neg c16).symm.trans h
        refine v_iload_n dX5_sheet_17 rfl ?_
        refine v_bipush (v := 16) dX5_sheet_18 rfl ?_
        refine v_icmp_eq (tgt := 36) dX5_sheet_20 rfl (fun c28 => ?_) (fun c28 => ?_)
        · replace h := (if_pos c28).symm.trans h
          refine v_iload_n dX5_sheet_36 rfl ?_
          refine v_if_ge (tgt := 47) dX5_sheet_37 rfl (fun c29 => ?_) (fun c29 => ?_)
          · replace h := (if_pos c29).symm.trans h
            refine v_iload_n dX5_sheet_47 rfl ?_
            refine v_bipush (v := 40) dX5_sheet_48 rfl ?_
            refine v_icmp_le (tgt := 60) dX5_sheet_50 rfl (fun c30 => ?_) (fun c30 => ?_)
            · replace h := (if_pos c30).symm.trans h
              refine v_aload_n dX5_sheet_60 rfl ?_
              refine v_getr dX5_sheet_61 flX5_51 sh_0 rfl ?_
              refine v_iload_n dX5_sheet_64 rfl ?_
              obtain ⟨q31, e32, h⟩ := Option.bind_eq_some_iff.mp h
              refine v_sld e32 dX5_sheet_65 ?_
              refine v_astore (ls1 := [some (.ref 0), some (.int x1), some (.int x2), some (.int x3), some (.ref q31)]) dX5_sheet_66 (Nat.le_of_ble_eq_true rfl) rfl ?_
              refine v_aload dX5_sheet_68 rfl ?_
              refine v_iload_n dX5_sheet_70 rfl ?_
              refine v_iload_n dX5_sheet_71 rfl ?_
              have hJ : V g kX5_sheet (jm g 2 (some (.int r.1)) r.2) 80 [none, none, none, none, some (.ref q31)] [.int (if x2 = 0 then (0 : Int32) else x3), .int x2, .ref q31] M := by
                obtain ⟨w34, e35, h⟩ := Option.bind_eq_some_iff.mp h
                refine v_callV (as := [.int x2, .int (if x2 = 0 then (0 : Int32) else x3)]) (st := []) (sX1_begin (ldS_is e32) e35) dX5_sheet_80 mlX5_253 (CRn (by decide) (by decide)) (ldS_is e32).1 rfl rfl rfl (Nat.le_of_ble_eq_true rfl) ?_
                refine v_aload dX5_sheet_83 rfl ?_
                refine v_geti dX5_sheet_85 flX5_256 (ldS_is e32).1 rfl ?_
                replace h := Option.some.inj h; subst h
                exact v_iret rfl dX5_sheet_88
              refine v_if_ne (tgt := 79) dX5_sheet_72 rfl (fun c33 => ?_) (fun c33 => ?_)
              · refine v_iload_n dX5_sheet_79 rfl ?_
                refine V.sub (ls' := [none, none, none, none, some (.ref q31)]) (And.intro rfl trivial) ?_
                first | (simp only [if_neg c33] at hJ; exact hJ) | exact hJ | (simp only [if_neg c33] at hJ ⊢; exact hJ)
              · refine v_iconst (v := 0) dX5_sheet_75 rfl ?_
                refine v_goto (tgt := 80) dX5_sheet_76 rfl ?_
                refine V.sub (ls' := [none, none, none, none, some (.ref q31)]) (And.intro rfl trivial) ?_
                first | (simp only [if_pos c33] at hJ; exact hJ) | exact hJ | (simp only [if_pos c33] at hJ ⊢; exact hJ)
            · replace h := (if_neg c30).symm.trans h
              refine v_aload_n dX5_sheet_53 rfl ?_
              refine v_ldc (v := -1000000001) dX5_sheet_54 w_175 ?_
              obtain ⟨w36, e37, h⟩ := Option.bind_eq_some_iff.mp h
              refine v_callV (as := [.int (-1000000001 : Int32)]) (st := []) (sX5_tell e37) dX5_sheet_56 mlX5_64 (CRn (by decide) (by decide)) sh_0 rfl rfl rfl (Nat.le_of_ble_eq_true rfl) ?_
              replace h := Option.some.inj h; subst h
              exact v_iret rfl dX5_sheet_59
          · replace h := (if_neg c29).symm.trans h
            refine v_aload_n dX5_sheet_40 rfl ?_
            refine v_ldc (v := -1000000007) dX5_sheet_41 w_668 ?_
            obtain ⟨w38, e39, h⟩ := Option.bind_eq_some_iff.mp h
            refine v_callV (as := [.int (-1000000007 : Int32)]) (st := []) (sX5_tell e39) dX5_sheet_43 mlX5_64 (CRn (by decide) (by decide)) sh_0 rfl rfl rfl (Nat.le_of_ble_eq_true rfl) ?_
            replace h := Option.some.inj h; subst h
            exact v_iret rfl dX5_sheet_46
        · replace h := (if_neg c28).symm.trans h
          refine v_iload_n dX5_sheet_23 rfl ?_
          refine v_bipush (v := 64) dX5_sheet_24 rfl ?_
          refine v_icmp_eq (tgt := 36) dX5_sheet_26 rfl (fun c40 => ?_) (fun c40 => ?_)
          · replace h := (if_pos c40).symm.trans h
            refine v_iload_n dX5_sheet_36 rfl ?_
            refine v_if_ge (tgt := 47) dX5_sheet_37 rfl (fun c41 => ?_) (fun c41 => ?_)
            · replace h := (if_pos c41).symm.trans h
              refine v_iload_n dX5_sheet_47 rfl ?_
              refine v_bipush (v := 40) dX5_sheet_48 rfl ?_
              refine v_icmp_le (tgt := 60) dX5_sheet_50 rfl (fun c42 => ?_) (fun c42 => ?_)
              · replace h := (if_pos c42).symm.trans h
                refine v_aload_n dX5_sheet_60 rfl ?_
                refine v_getr dX5_sheet_61 flX5_51 sh_0 rfl ?_
                refine v_iload_n dX5_sheet_64 rfl ?_
                obtain ⟨q43, e44, h⟩ := Option.bind_eq_some_iff.mp h
                refine v_sld e44 dX5_sheet_65 ?_
                refine v_astore (ls1 := [some (.ref 0), some (.int x1), some (.int x2), some (.int x3), some (.ref q43)]) dX5_sheet_66 (Nat.le_of_ble_eq_true rfl) rfl ?_
                refine v_aload dX5_sheet_68 rfl ?_
                refine v_iload_n dX5_sheet_70 rfl ?_
                refine v_iload_n dX5_sheet_71 rfl ?_
                have hJ : V g kX5_sheet (jm g 2 (some (.int r.1)) r.2) 80 [none, none, none, none, some (.ref q43)] [.int (if x2 = 0 then (0 : Int32) else x3), .int x2, .ref q43] M := by
                  obtain ⟨w46, e47, h⟩ := Option.bind_eq_some_iff.mp h
                  refine v_callV (as := [.int x2, .int (if x2 = 0 then (0 : Int32) else x3)]) (st := []) (sX1_begin (ldS_is e44) e47) dX5_sheet_80 mlX5_253 (CRn (by decide) (by decide)) (ldS_is e44).1 rfl rfl rfl (Nat.le_of_ble_eq_true rfl) ?_
                  refine v_aload dX5_sheet_83 rfl ?_
                  refine v_geti dX5_sheet_85 flX5_256 (ldS_is e44).1 rfl ?_
                  replace h := Option.some.inj h; subst h
                  exact v_iret rfl dX5_sheet_88
                refine v_if_ne (tgt := 79) dX5_sheet_72 rfl (fun c45 => ?_) (fun c45 => ?_)
                · refine v_iload_n dX5_sheet_79 rfl ?_
                  refine V.sub (ls' := [none, none, none, none, some (.ref q43)]) (And.intro rfl trivial) ?_
                  first | (simp only [if_neg c45] at hJ; exact hJ) | exact hJ | (simp only [if_neg c45] at hJ ⊢; exact hJ)
                · refine v_iconst (v := 0) dX5_sheet_75 rfl ?_
                  refine v_goto (tgt := 80) dX5_sheet_76 rfl ?_
                  refine V.sub (ls' := [none, none, none, none, some (.ref q43)]) (And.intro rfl trivial) ?_
                  first | (simp only [if_pos c45] at hJ; exact hJ) | exact hJ | (simp only [if_pos c45] at hJ ⊢; exact hJ)
              · replace h := (if_neg c42).symm.trans h
                refine v_aload_n dX5_sheet_53 rfl ?_
                refine v_ldc (v := -1000000001) dX5_sheet_54 w_175 ?_
                obtain ⟨w48, e49, h⟩ := Option.bind_eq_some_iff.mp h
                refine v_callV (as := [.int (-1000000001 : Int32)]) (st := []) (sX5_tell e49) dX5_sheet_56 mlX5_64 (CRn (by decide) (by decide)) sh_0 rfl rfl rfl (Nat.le_of_ble_eq_true rfl) ?_
                replace h := Option.some.inj h; subst h
                exact v_iret rfl dX5_sheet_59
            · replace h := (if_neg c41).symm.trans h
              refine v_aload_n dX5_sheet_40 rfl ?_
              refine v_ldc (v := -1000000007) dX5_sheet_41 w_668 ?_
              obtain ⟨w50, e51, h⟩ := Option.bind_eq_some_iff.mp h
              refine v_callV (as := [.int (-1000000007 : Int32)]) (st := []) (sX5_tell e51) dX5_sheet_43 mlX5_64 (CRn (by decide) (by decide)) sh_0 rfl rfl rfl (Nat.le_of_ble_eq_true rfl) ?_
              replace h := Option.some.inj h; subst h
              exact v_iret rfl dX5_sheet_46
          · replace h := (if_neg c40).symm.trans h
            refine v_aload_n dX5_sheet_29 rfl ?_
            refine v_ldc (v := -1000000001) dX5_sheet_30 w_175 ?_
            obtain ⟨w52, e53, h⟩ := Option.bind_eq_some_iff.mp h
            refine v_callV (as := [.int (-1000000001 : Int32)]) (st := []) (sX5_tell e53) dX5_sheet_32 mlX5_64 (CRn (by decide) (by decide)) sh_0 rfl rfl rfl (Nat.le_of_ble_eq_true rfl) ?_
            replace h := Option.some.inj h; subst h
            exact v_iret rfl dX5_sheet_35
/-! ===== BentPlain.sheetFinding(I)I ===== -/
def fX5_sheetFinding (x1 : Int32) (M : Mem) : Option Int32 := (if (fX5_isSheet x1) = 0 then some (-1000000001 : Int32) else ((ldS x1).bind fun q2 => (if (M.1 q2 0) = 0 then some (-1000000006 : Int32) else some (0 : Int32))))
set_option maxRecDepth 100000 in
set_option maxHeartbeats 4000000 in
theorem sX5_sheetFinding {g : Wo} {M : Mem} {x1 : Int32} {r : Int32} (h : fX5_sheetFinding x1 M = some r) : Sp g kX5_sheetFinding 1 [.ref 0, .int x1] M (some (.int r)) M := by
  rw [fX5_sheetFinding] at h
  refine Sp_intro (by decide) [some (.ref 0), some (.int x1)] rfl (Nat.le_of_ble_eq_true rfl) ?_
  refine v_iload_n dX5_sheetFinding_0 rfl ?_
  refine v_callS (as := [.int x1]) (st := []) (sX5_isSheet rfl) dX5_sheetFinding_1 mlX5_249 (CRn (by decide) (by decide)) rfl rfl (Nat.le_of_ble_eq_true rfl) ?_
  refine v_if_ne (tgt := 10) dX5_sheetFinding_4 rfl (fun c1 => ?_) (fun c1 => ?_)
  · replace h := (if_neg c1).symm.trans h
    refine v_aload_n dX5_sheetFinding_10 rfl ?_
    refine v_getr dX5_sheetFinding_11 flX5_51 sh_0 rfl ?_
    refine v_iload_n dX5_sheetFinding_14 rfl ?_
    obtain ⟨q2, e3, h⟩ := Option.bind_eq_some_iff.mp h
    refine v_sld e3 dX5_sheetFinding_15 ?_
    refine v_geti dX5_sheetFinding_16 flX5_270 (ldS_is e3).1 rfl ?_
    refine v_if_ne (tgt := 28) dX5_sheetFinding_19 rfl (fun c4 => ?_) (fun c4 => ?_)
    · replace h := (if_neg c4).symm.trans h
      refine v_iconst (v := 0) dX5_sheetFinding_28 rfl ?_
      replace h := Option.some.inj h; subst h
      exact v_iret rfl dX5_sheetFinding_29
    · replace h := (if_pos c4).symm.trans h
      refine v_ldcw (v := -1000000006) dX5_sheetFinding_22 w_684 ?_
      refine v_goto (tgt := 29) dX5_sheetFinding_25 rfl ?_
      replace h := Option.some.inj h; subst h
      exact v_iret rfl dX5_sheetFinding_29
  · replace h := (if_pos c1).symm.trans h
    refine v_ldc (v := -1000000001) dX5_sheetFinding_7 w_175 ?_
    replace h := Option.some.inj h; subst h
    exact v_iret rfl dX5_sheetFinding_9
