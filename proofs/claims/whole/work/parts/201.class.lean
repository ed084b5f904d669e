/-! ===== BentPlain.glue(IIII)I ===== -/
def fX5_glue (x1 : Int32) (x2 : Int32) (x3 : Int32) (x4 : Int32) (M : Mem) : Option (Int32 × Mem) := (if (fX0_hasWay x1 x2 M) = 0 then ((fX5_tell (-1000000001 : Int32) M).bind fun w2 => some (w2.1, w2.2)) else (if (fX0_hasWay x3 x4 M) = 0 then ((fX5_tell (-1000000001 : Int32) M).bind fun w20 => some (w20.1, w20.2)) else (if (fX5_wayOf x1 x2) = (fX5_wayOf x3 x4) then ((fX5_tell (-1000000001 : Int32) M).bind fun w18 => some (w18.1, w18.2)) else ((fX0_isFree (fX5_wayOf x1 x2) M).bind fun v6 => (if v6 = 0 then ((fX5_tell (-1000000005 : Int32) M).bind fun w9 => some (w9.1, w9.2)) else ((fX0_isFree (fX5_wayOf x3 x4) M).bind fun v11 => (if v11 = 0 then ((fX5_tell (-1000000005 : Int32) M).bind fun w16 => some (w16.1, w16.2)) else ((fX0_join (fX5_wayOf x1 x2) (fX5_wayOf x3 x4) M).bind fun w14 => some ((1 : Int32), w14)))))))))
set_option maxRecDepth 100000 in
set_option maxHeartbeats 4000000 in
theorem sX5_glue {g : Wo} {M : Mem} {x1 : Int32} {x2 : Int32} {x3 : Int32} {x4 : Int32} {r : Int32 × Mem} (h : fX5_glue x1 x2 x3 x4 M = some r) : Sp g kX5_glue 3 [.ref 0, .int x1, .int x2, .int x3, .int x4] M (some (.int r.1)) r.2 := by
  rw [fX5_glue] at h
  refine Sp_intro (by decide) [some (.ref 0), some (.int x1), some (.int x2), some (.int x3), some (.int x4), none, none] rfl (Nat.le_of_ble_eq_true rfl) ?_
  refine v_aload_n dX5_glue_0 rfl ?_
  refine v_getr dX5_glue_1 flX5_12 sh_0 rfl ?_
  refine v_iload_n dX5_glue_4 rfl ?_
  refine v_iload_n dX5_glue_5 rfl ?_
  refine v_callV (as := [.int x1, .int x2]) (st := []) (sX0_hasWay rfl) dX5_glue_6 mlX5_92 (CRn (by decide) (by decide)) sh_1 rfl rfl rfl (Nat.le_of_ble_eq_true rfl) ?_
  refine v_if_eq (tgt := 25) dX5_glue_9 rfl (fun c1 => ?_) (fun c1 => ?_)
  · replace h := (if_pos c1).symm.trans h
    refine v_aload_n dX5_glue_25 rfl ?_
    refine v_ldc (v := -1000000001) dX5_glue_26 w_175 ?_
    obtain ⟨w2, e3, h⟩ := Option.bind_eq_some_iff.mp h
    refine v_callV (as := [.int (-1000000001 : Int32)]) (st := []) (sX5_tell e3) dX5_glue_28 mlX5_64 (CRn (by decide) (by decide)) sh_0 rfl rfl rfl (Nat.le_of_ble_eq_true rfl) ?_
    replace h := Option.some.inj h; subst h
    exact v_iret rfl dX5_glue_31
  · replace h := (if_neg c1).symm.trans h
    refine v_aload_n dX5_glue_12 rfl ?_
    refine v_getr dX5_glue_13 flX5_12 sh_0 rfl ?_
    refine v_iload_n dX5_glue_16 rfl ?_
    refine v_iload dX5_glue_17 rfl ?_
    refine v_callV (as := [.int x3, .int x4]) (st := []) (sX0_hasWay rfl) dX5_glue_19 mlX5_92 (CRn (by decide) (by decide)) sh_1 rfl rfl rfl (Nat.le_of_ble_eq_true rfl) ?_
    refine v_if_ne (tgt := 32) dX5_glue_22 rfl (fun c4 => ?_) (fun c4 => ?_)
    · replace h := (if_neg c4).symm.trans h
      refine v_iload_n dX5_glue_32 rfl ?_
      refine v_iload_n dX5_glue_33 rfl ?_
      refine v_callS (as := [.int x1, .int x2]) (st := []) (sX5_wayOf rfl) dX5_glue_34 mlX5_96 (CRn (by decide) (by decide)) rfl rfl (Nat.le_of_ble_eq_true rfl) ?_
      refine v_istore (ls1 := [some (.ref 0), some (.int x1), some (.int x2), some (.int x3), some (.int x4), some (.int (fX5_wayOf x1 x2)), none]) dX5_glue_37 (Nat.le_of_ble_eq_true rfl) rfl ?_
      refine v_iload_n dX5_glue_39 rfl ?_
      refine v_iload dX5_glue_40 rfl ?_
      refine v_callS (as := [.int x3, .int x4]) (st := []) (sX5_wayOf rfl) dX5_glue_42 mlX5_96 (CRn (by decide) (by decide)) rfl rfl (Nat.le_of_ble_eq_true rfl) ?_
      refine v_istore (ls1 := [some (.ref 0), some (.int x1), some (.int x2), some (.int x3), some (.int x4), some (.int (fX5_wayOf x1 x2)), some (.int (fX5_wayOf x3 x4))]) dX5_glue_45 (Nat.le_of_ble_eq_true rfl) rfl ?_
      refine v_iload dX5_glue_47 rfl ?_
      refine v_iload dX5_glue_49 rfl ?_
      refine v_icmp_ne (tgt := 61) dX5_glue_51 rfl (fun c5 => ?_) (fun c5 => ?_)
      · replace h := (if_neg c5).symm.trans h
        refine v_aload_n dX5_glue_61 rfl ?_
        refine v_getr dX5_glue_62 flX5_12 sh_0 rfl ?_
        refine v_iload dX5_glue_65 rfl ?_
        obtain ⟨v6, e7, h⟩ := Option.bind_eq_some_iff.mp h
        refine v_callV (as := [.int (fX5_wayOf x1 x2)]) (st := []) (sX0_isFree e7) dX5_glue_67 mlX5_100 (CRn (by decide) (by decide)) sh_1 rfl rfl rfl (Nat.le_of_ble_eq_true rfl) ?_
        refine v_if_eq (tgt := 85) dX5_glue_70 rfl (fun c8 => ?_) (fun c8 => ?_)
        · replace h := (if_pos c8).symm.trans h
          refine v_aload_n dX5_glue_85 rfl ?_
          refine v_ldc (v := -1000000005) dX5_glue_86 w_242 ?_
          obtain ⟨w9, e10, h⟩ := Option.bind_eq_some_iff.mp h
          refine v_callV (as := [.int (-1000000005 : Int32)]) (st := []) (sX5_tell e10) dX5_glue_88 mlX5_64 (CRn (by decide) (by decide)) sh_0 rfl rfl rfl (Nat.le_of_ble_eq_true rfl) ?_
          replace h := Option.some.inj h; subst h
          exact v_iret rfl dX5_glue_91
        · replace h := (if_neg c8).symm.trans h
          refine v_aload_n dX5_glue_73 rfl ?_
          refine v_getr dX5_glue_74 flX5_12 sh_0 rfl ?_
          refine v_iload dX5_glue_77 rfl ?_
          obtain ⟨v11, e12, h⟩ := Option.bind_eq_some_iff.mp h
          refine v_callV (as := [.int (fX5_wayOf x3 x4)]) (st := []) (sX0_isFree e12) dX5_glue_79 mlX5_100 (CRn (by decide) (by decide)) sh_1 rfl rfl rfl (Nat.le_of_ble_eq_true rfl) ?_
          refine v_if_ne (tgt := 92) dX5_glue_82 rfl (fun c13 => ?_) (fun c13 => ?_)
          · replace h := (if_neg c13).symm.trans h
            refine v_aload_n dX5_glue_92 rfl ?_
            refine v_getr dX5_glue_93 flX5_12 sh_0 rfl ?_
            refine v_iload dX5_glue_96 rfl ?_
            refine v_iload dX5_glue_98 rfl ?_
            obtain ⟨w14, e15, h⟩ := Option.bind_eq_some_iff.mp h
            refine v_callV (as := [.int (fX5_wayOf x1 x2), .int (fX5_wayOf x3 x4)]) (st := []) (sX0_join e15) dX5_glue_100 mlX5_104 (CRn (by decide) (by decide)) sh_1 rfl rfl rfl (Nat.le_of_ble_eq_true rfl) ?_
            refine v_iconst (v := 1) dX5_glue_103 rfl ?_
            replace h := Option.some.inj h; subst h
            exact v_iret rfl dX5_glue_104
          · replace h := (if_pos c13).symm.trans h
            refine v_aload_n dX5_glue_85 rfl ?_
            refine v_ldc (v := -1000000005) dX5_glue_86 w_242 ?_
            obtain ⟨w16, e17, h⟩ := Option.bind_eq_some_iff.mp h
            refine v_callV (as := [.int (-1000000005 : Int32)]) (st := []) (sX5_tell e17) dX5_glue_88 mlX5_64 (CRn (by decide) (by decide)) sh_0 rfl rfl rfl (Nat.le_of_ble_eq_true rfl) ?_
            replace h := Option.some.inj h; subst h
            exact v_iret rfl dX5_glue_91
      · replace h := (if_pos c5).symm.trans h
        refine v_aload_n dX5_glue_54 rfl ?_
        refine v_ldc (v := -1000000001) dX5_glue_55 w_175 ?_
        obtain ⟨w18, e19, h⟩ := Option.bind_eq_some_iff.mp h
        refine v_callV (as := [.int (-1000000001 : Int32)]) (st := []) (sX5_tell e19) dX5_glue_57 mlX5_64 (CRn (by decide) (by decide)) sh_0 rfl rfl rfl (Nat.le_of_ble_eq_true rfl) ?_
        replace h := Option.some.inj h; subst h
        exact v_iret rfl dX5_glue_60
    · replace h := (if_pos c4).symm.trans h
      refine v_aload_n dX5_glue_25 rfl ?_
      refine v_ldc (v := -1000000001) dX5_glue_26 w_175 ?_
      obtain ⟨w20, e21, h⟩ := Option.bind_eq_some_iff.mp h
      refine v_callV (as := [.int (-1000000001 : Int32)]) (st := []) (sX5_tell e21) dX5_glue_28 mlX5_64 (CRn (by decide) (by decide)) sh_0 rfl rfl rfl (Nat.le_of_ble_eq_true rfl) ?_
      replace h := Option.some.inj h; subst h
      exact v_iret rfl dX5_glue_31
/-! ===== BentPlain$Ground.sever(I)V ===== -/
def fX0_sever (x1 : Int32) (M : Mem) : Option Mem := ((fX0_gluedTo x1 M).bind fun v1 => (if v1 = (-1 : Int32) then some M else ((stI M 10 64 x1 (-1 : Int32)).bind fun M4 => ((stI M4 10 64 v1 (-1 : Int32)).bind fun M6 => some M6))))
set_option maxRecDepth 100000 in
set_option maxHeartbeats 4000000 in
theorem sX0_sever {g : Wo} {M : Mem} {x1 : Int32} {r : Mem} (h : fX0_sever x1 M = some r) : Sp g kX0_sever 2 [.ref 1, .int x1] M none r := by
  rw [fX0_sever] at h
  refine Sp_intro (by decide) [some (.ref 1), some (.int x1), none] rfl (Nat.le_of_ble_eq_true rfl) ?_
  refine v_aload_n dX0_sever_0 rfl ?_
  refine v_iload_n dX0_sever_1 rfl ?_
  obtain ⟨v1, e2, h⟩ := Option.bind_eq_some_iff.mp h
  refine v_callV (as := [.int x1]) (st := []) (sX0_gluedTo e2) dX0_sever_2 mlX0_58 (CRn (by decide) (by decide)) sh_1 rfl rfl rfl (Nat.le_of_ble_eq_true rfl) ?_
  refine v_istore_n (ls1 := [some (.ref 1), some (.int x1), some (.int v1)]) dX0_sever_5 (Nat.le_of_ble_eq_true rfl) rfl ?_
  refine v_iload_n dX0_sever_6 rfl ?_
  refine v_iconst (v := -1) dX0_sever_7 rfl ?_
  refine v_icmp_eq (tgt := 25) dX0_sever_8 rfl (fun c3 => ?_) (fun c3 => ?_)
  · replace h := (if_pos c3).symm.trans h
    replace h := Option.some.inj h; subst h
    exact v_vret rfl dX0_sever_25
  · replace h := (if_neg c3).symm.trans h
    refine v_aload_n dX0_sever_11 rfl ?_
    refine v_getr dX0_sever_12 flX0_21 sh_1 rfl ?_
    refine v_iload_n dX0_sever_15 rfl ?_
    refine v_iconst (v := -1) dX0_sever_16 rfl ?_
    obtain ⟨M4, e5, h⟩ := Option.bind_eq_some_iff.mp h
    refine v_ist e5 dX0_sever_17 sh_10 ?_
    refine v_aload_n dX0_sever_18 rfl ?_
    refine v_getr dX0_sever_19 flX0_21 sh_1 rfl ?_
    refine v_iload_n dX0_sever_22 rfl ?_
    refine v_iconst (v := -1) dX0_sever_23 rfl ?_
    obtain ⟨M6, e7, h⟩ := Option.bind_eq_some_iff.mp h
    refine v_ist e7 dX0_sever_24 sh_10 ?_
    replace h := Option.some.inj h; subst h
    exact v_vret rfl dX0_sever_25
/-! ===== BentPlain.cut(II)I ===== -/
def fX5_cut (x1 : Int32) (x2 : Int32) (M : Mem) : Option (Int32 × Mem) := (if (fX0_hasWay x1 x2 M) = 0 then ((fX5_tell (-1000000001 : Int32) M).bind fun w9 => some (w9.1, w9.2)) else ((fX0_gluedTo (fX5_wayOf x1 x2) M).bind fun v2 => (if v2 = (-1 : Int32) then ((fX5_tell (-1000000005 : Int32) M).bind fun w7 => some (w7.1, w7.2)) else ((fX0_sever (fX5_wayOf x1 x2) M).bind fun w5 => some (v2, w5)))))
set_option maxRecDepth 100000 in
set_option maxHeartbeats 4000000 in
theorem sX5_cut {g : Wo} {M : Mem} {x1 : Int32} {x2 : Int32} {r : Int32 × Mem} (h : fX5_cut x1 x2 M = some r) : Sp g kX5_cut 3 [.ref 0, .int x1, .int x2] M (some (.int r.1)) r.2 := by
  rw [fX5_cut] at h
  refine Sp_intro (by decide) [some (.ref 0), some (.int x1), some (.int x2), none, none] rfl (Nat.le_of_ble_eq_true rfl) ?_
  refine v_aload_n dX5_cut_0 rfl ?_
  refine v_getr dX5_cut_1 flX5_12 sh_0 rfl ?_
  refine v_iload_n dX5_cut_4 rfl ?_
  refine v_iload_n dX5_cut_5 rfl ?_
  refine v_callV (as := [.int x1, .int x2]) (st := []) (sX0_hasWay rfl) dX5_cut_6 mlX5_92 (CRn (by decide) (by decide)) sh_1 rfl rfl rfl (Nat.le_of_ble_eq_true rfl) ?_
  refine v_if_ne (tgt := 19) dX5_cut_9 rfl (fun c1 => ?_) (fun c1 => ?_)
  · replace h := (if_neg c1).symm.trans h
    refine v_iload_n dX5_cut_19 rfl ?_
    refine v_iload_n dX5_cut_20 rfl ?_
    refine v_callS (as := [.int x1, .int x2]) (st := []) (sX5_wayOf rfl) dX5_cut_21 mlX5_96 (CRn (by decide) (by decide)) rfl rfl (Nat.le_of_ble_eq_true rfl) ?_
    refine v_istore_n (ls1 := [some (.ref 0), some (.int x1), some (.int x2), some (.int (fX5_wayOf x1 x2)), none]) dX5_cut_24 (Nat.le_of_ble_eq_true rfl) rfl ?_
    refine v_aload_n dX5_cut_25 rfl ?_
    refine v_getr dX5_cut_26 flX5_12 sh_0 rfl ?_
    refine v_iload_n dX5_cut_29 rfl ?_
    obtain ⟨v2, e3, h⟩ := Option.bind_eq_some_iff.mp h
    refine v_callV (as := [.int (fX5_wayOf x1 x2)]) (st := []) (sX0_gluedTo e3) dX5_cut_30 mlX5_107 (CRn (by decide) (by decide)) sh_1 rfl rfl rfl (Nat.le_of_ble_eq_true rfl) ?_
    refine v_istore (ls1 := [some (.ref 0), some (.int x1), some (.int x2), some (.int (fX5_wayOf x1 x2)), some (.int v2)]) dX5_cut_33 (Nat.le_of_ble_eq_true rfl) rfl ?_
    refine v_iload dX5_cut_35 rfl ?_
    refine v_iconst (v := -1) dX5_cut_37 rfl ?_
    refine v_icmp_ne (tgt := 48) dX5_cut_38 rfl (fun c4 => ?_) (fun c4 => ?_)
    · replace h := (if_neg c4).symm.trans h
      refine v_aload_n dX5_cut_48 rfl ?_
      refine v_getr dX5_cut_49 flX5_12 sh_0 rfl ?_
      refine v_iload_n dX5_cut_52 rfl ?_
      obtain ⟨w5, e6, h⟩ := Option.bind_eq_some_iff.mp h
      refine v_callV (as := [.int (fX5_wayOf x1 x2)]) (st := []) (sX0_sever e6) dX5_cut_53 mlX5_110 (CRn (by decide) (by decide)) sh_1 rfl rfl rfl (Nat.le_of_ble_eq_true rfl) ?_
      refine v_iload dX5_cut_56 rfl ?_
      replace h := Option.some.inj h; subst h
      exact v_iret rfl dX5_cut_58
    · replace h := (if_pos c4).symm.trans h
      refine v_aload_n dX5_cut_41 rfl ?_
      refine v_ldc (v := -1000000005) dX5_cut_42 w_242 ?_
      obtain ⟨w7, e8, h⟩ := Option.bind_eq_some_iff.mp h
      refine v_callV (as := [.int (-1000000005 : Int32)]) (st := []) (sX5_tell e8) dX5_cut_44 mlX5_64 (CRn (by decide) (by decide)) sh_0 rfl rfl rfl (Nat.le_of_ble_eq_true rfl) ?_
      replace h := Option.some.inj h; subst h
      exact v_iret rfl dX5_cut_47
  · replace h := (if_pos c1).symm.trans h
    refine v_aload_n dX5_cut_12 rfl ?_
    refine v_ldc (v := -1000000001) dX5_cut_13 w_175 ?_
    obtain ⟨w9, e10, h⟩ := Option.bind_eq_some_iff.mp h
    refine v_callV (as := [.int (-1000000001 : Int32)]) (st := []) (sX5_tell e10) dX5_cut_15 mlX5_64 (CRn (by decide) (by decide)) sh_0 rfl rfl rfl (Nat.le_of_ble_eq_true rfl) ?_
    replace h := Option.some.inj h; subst h
    exact v_iret rfl dX5_cut_18
/-! ===== BentPlain.numberOrNone(I)I ===== -/
def fX5_numberOrNone (x1 : Int32) (M : Mem) : Option (Int32 × Mem) := (if x1 = (-1 : Int32) then ((fX5_tell (-1000000004 : Int32) M).bind fun w2 => some (w2.1, w2.2)) else some (x1, M))
set_option maxRecDepth 100000 in
set_option maxHeartbeats 4000000 in
theorem sX5_numberOrNone {g : Wo} {M : Mem} {x1 : Int32} {r : Int32 × Mem} (h : fX5_numberOrNone x1 M = some r) : Sp g kX5_numberOrNone 1 [.ref 0, .int x1] M (some (.int r.1)) r.2 := by
  rw [fX5_numberOrNone] at h
  refine Sp_intro (by decide) [some (.ref 0), some (.int x1)] rfl (Nat.le_of_ble_eq_true rfl) ?_
  refine v_iload_n dX5_numberOrNone_0 rfl ?_
  refine v_iconst (v := -1) dX5_numberOrNone_1 rfl ?_
  refine v_icmp_ne (tgt := 14) dX5_numberOrNone_2 rfl (fun c1 => ?_) (fun c1 => ?_)
  · replace h := (if_neg c1).symm.trans h
    refine v_iload_n dX5_numberOrNone_14 rfl ?_
    replace h := Option.some.inj h; subst h
    exact v_iret rfl dX5_numberOrNone_15
  · replace h := (if_pos c1).symm.trans h
    refine v_aload_n dX5_numberOrNone_5 rfl ?_
    refine v_ldc (v := -1000000004) dX5_numberOrNone_6 w_264 ?_
    obtain ⟨w2, e3, h⟩ := Option.bind_eq_some_iff.mp h
    refine v_callV (as := [.int (-1000000004 : Int32)]) (st := []) (sX5_tell e3) dX5_numberOrNone_8 mlX5_64 (CRn (by decide) (by decide)) sh_0 rfl rfl rfl (Nat.le_of_ble_eq_true rfl) ?_
    refine v_goto (tgt := 15) dX5_numberOrNone_11 rfl ?_
    replace h := Option.some.inj h; subst h
    exact v_iret rfl dX5_numberOrNone_15
/-! ===== BentPlain.over(II)I ===== -/
def fX5_over (x1 : Int32) (x2 : Int32) (M : Mem) : Option (Int32 × Mem) := (if (fX0_hasWay x1 x2 M) = 0 then ((fX5_tell (-1000000001 : Int32) M).bind fun w6 => some (w6.1, w6.2)) else ((fX0_gluedTo (fX5_wayOf x1 x2) M).bind fun v2 => ((fX5_numberOrNone v2 M).bind fun w4 => some (w4.1, w4.2))))
set_option maxRecDepth 100000 in
set_option maxHeartbeats 4000000 in
theorem sX5_over {g : Wo} {M : Mem} {x1 : Int32} {x2 : Int32} {r : Int32 × Mem} (h : fX5_over x1 x2 M = some r) : Sp g kX5_over 2 [.ref 0, .int x1, .int x2] M (some (.int r.1)) r.2 := by
  rw [fX5_over] at h
  refine Sp_intro (by decide) [some (.ref 0), some (.int x1), some (.int x2)] rfl (Nat.le_of_ble_eq_true rfl) ?_
  refine v_aload_n dX5_over_0 rfl ?_
  refine v_getr dX5_over_1 flX5_12 sh_0 rfl ?_
  refine v_iload_n dX5_over_4 rfl ?_
  refine v_iload_n dX5_over_5 rfl ?_
  refine v_callV (as := [.int x1, .int x2]) (st := []) (sX0_hasWay rfl) dX5_over_6 mlX5_92 (CRn (by decide) (by decide)) sh_1 rfl rfl rfl (Nat.le_of_ble_eq_true rfl) ?_
  refine v_if_ne (tgt := 19) dX5_over_9 rfl (fun c1 => ?_) (fun c1 => ?_)
  · replace h := (if_neg c1).symm.trans h
    refine v_aload_n dX5_over_19 rfl ?_
    refine v_aload_n dX5_over_20 rfl ?_
    refine v_getr dX5_over_21 flX5_12 sh_0 rfl ?_
    refine v_iload_n dX5_over_24 rfl ?_
    refine v_iload_n dX5_over_25 rfl ?_
    refine v_callS (as := [.int x1, .int x2]) (st := [.ref 1, .ref 0]) (sX5_wayOf rfl) dX5_over_26 mlX5_96 (CRn (by decide) (by decide)) rfl rfl (Nat.le_of_ble_eq_true rfl) ?_
    obtain ⟨v2, e3, h⟩ := Option.bind_eq_some_iff.mp h
    refine v_callV (as := [.int (fX5_wayOf x1 x2)]) (st := [.ref 0]) (sX0_gluedTo e3) dX5_over_29 mlX5_107 (CRn (by decide) (by decide)) sh_1 rfl rfl rfl (Nat.le_of_ble_eq_true rfl) ?_
    obtain ⟨w4, e5, h⟩ := Option.bind_eq_some_iff.mp h
    refine v_callV (as := [.int v2]) (st := []) (sX5_numberOrNone e5) dX5_over_32 mlX5_114 (CRn (by decide) (by decide)) sh_0 rfl rfl rfl (Nat.le_of_ble_eq_true rfl) ?_
    replace h := Option.some.inj h; subst h
    exact v_iret rfl dX5_over_35
  · replace h := (if_pos c1).symm.trans h
    refine v_aload_n dX5_over_12 rfl ?_
    refine v_ldc (v := -1000000001) dX5_over_13 w_175 ?_
    obtain ⟨w6, e7, h⟩ := Option.bind_eq_some_iff.mp h
    refine v_callV (as := [.int (-1000000001 : Int32)]) (st := []) (sX5_tell e7) dX5_over_15 mlX5_64 (CRn (by decide) (by decide)) sh_0 rfl rfl rfl (Nat.le_of_ble_eq_true rfl) ?_
    replace h := Option.some.inj h; subst h
    exact v_iret rfl dX5_over_18
/-! ===== BentPlain.isKind(I)Z ===== -/
def fX5_isKind (x0 : Int32) : Int32 := (if x0 < 0 then (0 : Int32) else (if (6 : Int32) ≤ x0 then (0 : Int32) else (1 : Int32)))
set_option maxRecDepth 100000 in
set_option maxHeartbeats 4000000 in
theorem sX5_isKind {g : Wo} {M : Mem} {x0 : Int32} {r : Int32} (h : fX5_isKind x0 = r) : Sp g kX5_isKind 0 [.int x0] M (some (.int r)) M := by
  rw [fX5_isKind] at h
  refine Sp_intro (by decide) [some (.int x0)] rfl (Nat.le_of_ble_eq_true rfl) ?_
  refine v_iload_n dX5_isKind_0 rfl ?_
  refine v_if_lt (tgt := 14) dX5_isKind_1 rfl (fun c1 => ?_) (fun c1 => ?_)
  · replace h := (if_pos c1).symm.trans h
    refine v_iconst (v := 0) dX5_isKind_14 rfl ?_
    subst h
    exact v_zret rfl (z_nar z_0) dX5_isKind_15
  · replace h := (if_neg c1).symm.trans h
    refine v_iload_n dX5_isKind_4 rfl ?_
    refine v_bipush (v := 6) dX5_isKind_5 rfl ?_
    refine v_icmp_ge (tgt := 14) dX5_isKind_7 rfl (fun c2 => ?_) (fun c2 => ?_)
    · replace h := (if_pos c2).symm.trans h
      refine v_iconst (v := 0) dX5_isKind_14 rfl ?_
      subst h
      exact v_zret rfl (z_nar z_0) dX5_isKind_15
    · replace h := (if_neg c2).symm.trans h
      refine v_iconst (v := 1) dX5_isKind_10 rfl ?_
      refine v_goto (tgt := 15) dX5_isKind_11 rfl ?_
      subst h
      exact v_zret rfl (z_nar z_1) dX5_isKind_15
/-! ===== BentPlain$Walker.begin(II)V ===== -/
def fX4_begin (x0 : Nat) (x1 : Int32) (x2 : Int32) (M : Mem) : Option Mem := some (setI (setI (setI (setI M x0 0 x1) x0 1 x2) x0 2 (0 : Int32)) x0 3 (0 : Int32))
set_option maxRecDepth 100000 in
set_option maxHeartbeats 4000000 in
theorem sX4_begin {g : Wo} {M : Mem} {x0 : Nat} {x1 : Int32} {x2 : Int32} {r : Mem} (hx0 : isW x0) (h : fX4_begin x0 x1 x2 M = some r) : Sp g kX4_begin 0 [.ref x0, .int x1, .int x2] M none r := by
  rw [fX4_begin] at h
  refine Sp_intro (by decide) [some (.ref x0), some (.int x1), some (.int x2)] rfl (Nat.le_of_ble_eq_true rfl) ?_
  refine v_aload_n dX4_begin_0 rfl ?_
  refine v_iload_n dX4_begin_1 rfl ?_
  refine v_puti dX4_begin_2 fpX4_9 hx0 rfl ?_
  refine v_aload_n dX4_begin_5 rfl ?_
  refine v_iload_n dX4_begin_6 rfl ?_
  refine v_puti dX4_begin_7 fpX4_15 hx0 rfl ?_
  refine v_aload_n dX4_begin_10 rfl ?_
  refine v_iconst (v := 0) dX4_begin_11 rfl ?_
  refine v_puti dX4_begin_12 fpX4_18 hx0 rfl ?_
  refine v_aload_n dX4_begin_15 rfl ?_
  refine v_iconst (v := 0) dX4_begin_16 rfl ?_
  refine v_puti dX4_begin_17 fpX4_21 hx0 rfl ?_
  replace h := Option.some.inj h; subst h
  exact v_vret rfl dX4_begin_20
/-! ===== BentPlain$Ground.addWalker(II)I ===== -/
def fX0_addWalker (x1 : Int32) (x2 : Int32) (M : Mem) : Option (Int32 × Mem) := (if (M.1 1 1) < (6 : Int32) then ((ldW 1 (M.1 1 1)).bind fun q2 => ((fX4_begin q2 x1 x2 M).bind fun w4 => some ((((setI w4 1 1 ((w4.1 1 1) + (1 : Int32))).1 1 1) - (1 : Int32)), (setI w4 1 1 ((w4.1 1 1) + (1 : Int32)))))) else some ((-1 : Int32), M))
set_option maxRecDepth 100000 in
set_option maxHeartbeats 4000000 in
theorem sX0_addWalker {g : Wo} {M : Mem} {x1 : Int32} {x2 : Int32} {r : Int32 × Mem} (h : fX0_addWalker x1 x2 M = some r) : Sp g kX0_addWalker 1 [.ref 1, .int x1, .int x2] M (some (.int r.1)) r.2 := by
  rw [fX0_addWalker] at h
  refine Sp_intro (by decide) [some (.ref 1), some (.int x1), some (.int x2)] rfl (Nat.le_of_ble_eq_true rfl) ?_
  refine v_aload_n dX0_addWalker_0 rfl ?_
  refine v_geti dX0_addWalker_1 flX0_29 sh_1 rfl ?_
  refine v_bipush (v := 6) dX0_addWalker_4 rfl ?_
  refine v_icmp_lt (tgt := 11) dX0_addWalker_6 rfl (fun c1 => ?_) (fun c1 => ?_)
  · replace h := (if_pos c1).symm.trans h
    refine v_aload_n dX0_addWalker_11 rfl ?_
    refine v_getr dX0_addWalker_12 flX0_11 sh_1 rfl ?_
    refine v_aload_n dX0_addWalker_15 rfl ?_
    refine v_geti dX0_addWalker_16 flX0_29 sh_1 rfl ?_
    obtain ⟨q2, e3, h⟩ := Option.bind_eq_some_iff.mp h
    refine v_wld (r := 1) e3 dX0_addWalker_19 isG_1 ?_
    refine v_iload_n dX0_addWalker_20 rfl ?_
    refine v_iload_n dX0_addWalker_21 rfl ?_
    obtain ⟨w4, e5, h⟩ := Option.bind_eq_some_iff.mp h
    refine v_callV (as := [.int x1, .int x2]) (st := []) (sX4_begin (ldW_is isG_1 e3) e5) dX0_addWalker_22 mlX0_50 (CRn (by decide) (by decide)) (ldW_is isG_1 e3) rfl rfl rfl (Nat.le_of_ble_eq_true rfl) ?_
    refine v_aload_n dX0_addWalker_25 rfl ?_
    refine v_dup dX0_addWalker_26 rfl ?_
    refine v_geti dX0_addWalker_27 flX0_29 sh_1 rfl ?_
    refine v_iconst (v := 1) dX0_addWalker_30 rfl ?_
    refine v_iadd dX0_addWalker_31 ?_
    refine v_puti dX0_addWalker_32 fpX0_29 sh_1 rfl ?_
    refine v_aload_n dX0_addWalker_35 rfl ?_
    refine v_geti dX0_addWalker_36 flX0_29 sh_1 rfl ?_
    refine v_iconst (v := 1) dX0_addWalker_39 rfl ?_
    refine v_isub dX0_addWalker_40 ?_
    replace h := Option.some.inj h; subst h
    exact v_iret rfl dX0_addWalker_41
  · replace h := (if_neg c1).symm.trans h
    refine v_iconst (v := -1) dX0_addWalker_9 rfl ?_
    replace h := Option.some.inj h; subst h
    exact v_iret rfl dX0_addWalker_10
/-! ===== BentPlain.walker(III)I ===== -/
def fX5_walker (x1 : Int32) (x2 : Int32) (x3 : Int32) (M : Mem) : Option (Int32 × Mem) := (if (fX5_isKind x1) = 0 then ((fX5_tell (-1000000001 : Int32) M).bind fun w2 => some (w2.1, w2.2)) else (if (fX0_hasWay x2 x3 M) = 0 then ((fX5_tell (-1000000001 : Int32) M).bind fun w10 => some (w10.1, w10.2)) else (if (M.1 1 1) < (6 : Int32) then ((fX0_addWalker x1 (fX5_wayOf x2 x3) M).bind fun w6 => some (w6.1, w6.2)) else ((fX5_tell (-1000000002 : Int32) M).bind fun w8 => some (w8.1, w8.2)))))
set_option maxRecDepth 100000 in
set_option maxHeartbeats 4000000 in
theorem sX5_walker {g : Wo} {M : Mem} {x1 : Int32} {x2 : Int32} {x3 : Int32} {r : Int32 × Mem} (h : fX5_walker x1 x2 x3 M = some r) : Sp g kX5_walker 2 [.ref 0, .int x1, .int x2, .int x3] M (some (.int r.1)) r.2 := by
  rw [fX5_walker] at h
  refine Sp_intro (by decide) [some (.ref 0), some (.int x1), some (.int x2), some (.int x3)] rfl (Nat.le_of_ble_eq_true rfl) ?_
  refine v_iload_n dX5_walker_0 rfl ?_
  refine v_callS (as := [.int x1]) (st := []) (sX5_isKind rfl) dX5_walker_1 mlX5_117 (CRn (by decide) (by decide)) rfl rfl (Nat.le_of_ble_eq_true rfl) ?_
  refine v_if_eq (tgt := 19) dX5_walker_4 rfl (fun c1 => ?_) (fun c1 => ?_)
  · replace h := (if_pos c1).symm.trans h
    refine v_aload_n dX5_walker_19 rfl ?_
    refine v_ldc (v := -1000000001) dX5_walker_20 w_175 ?_
    obtain ⟨w2, e3, h⟩ := Option.bind_eq_some_iff.mp h
    refine v_callV (as := [.int (-1000000001 : Int32)]) (st := []) (sX5_tell e3) dX5_walker_22 mlX5_64 (CRn (by decide) (by decide)) sh_0 rfl rfl rfl (Nat.le_of_ble_eq_true rfl) ?_
    replace h := Option.some.inj h; subst h
    exact v_iret rfl dX5_walker_25
  · replace h := (if_neg c1).symm.trans h
    refine v_aload_n dX5_walker_7 rfl ?_
    refine v_getr dX5_walker_8 flX5_12 sh_0 rfl ?_
    refine v_iload_n dX5_walker_11 rfl ?_
    refine v_iload_n dX5_walker_12 rfl ?_
    refine v_callV (as := [.int x2, .int x3]) (st := []) (sX0_hasWay rfl) dX5_walker_13 mlX5_92 (CRn (by decide) (by decide)) sh_1 rfl rfl rfl (Nat.le_of_ble_eq_true rfl) ?_
    refine v_if_ne (tgt := 26) dX5_walker_16 rfl (fun c4 => ?_) (fun c4 => ?_)
    · replace h := (if_neg c4).symm.trans h
      refine v_aload_n dX5_walker_26 rfl ?_
      refine v_getr dX5_walker_27 flX5_12 sh_0 rfl ?_
      refine v_geti dX5_walker_30 flX5_120 sh_1 rfl ?_
      refine v_bipush (v := 6) dX5_walker_33 rfl ?_
      refine v_icmp_lt (tgt := 45) dX5_walker_35 rfl (fun c5 => ?_) (fun c5 => ?_)
      · replace h := (if_pos c5).symm.trans h
        refine v_aload_n dX5_walker_45 rfl ?_
        refine v_getr dX5_walker_46 flX5_12 sh_0 rfl ?_
        refine v_iload_n dX5_walker_49 rfl ?_
        refine v_iload_n dX5_walker_50 rfl ?_
        refine v_iload_n dX5_walker_51 rfl ?_
        refine v_callS (as := [.int x2, .int x3]) (st := [.int x1, .ref 1]) (sX5_wayOf rfl) dX5_walker_52 mlX5_96 (CRn (by decide) (by decide)) rfl rfl (Nat.le_of_ble_eq_true rfl) ?_
        obtain ⟨w6, e7, h⟩ := Option.bind_eq_some_iff.mp h
        refine v_callV (as := [.int x1, .int (fX5_wayOf x2 x3)]) (st := []) (sX0_addWalker e7) dX5_walker_55 mlX5_123 (CRn (by decide) (by decide)) sh_1 rfl rfl rfl (Nat.le_of_ble_eq_true rfl) ?_
        replace h := Option.some.inj h; subst h
        exact v_iret rfl dX5_walker_58
      · replace h := (if_neg c5).symm.trans h
        refine v_aload_n dX5_walker_38 rfl ?_
        refine v_ldc (v := -1000000002) dX5_walker_39 w_180 ?_
        obtain ⟨w8, e9, h⟩ := Option.bind_eq_some_iff.mp h
        refine v_callV (as := [.int (-1000000002 : Int32)]) (st := []) (sX5_tell e9) dX5_walker_41 mlX5_64 (CRn (by decide) (by decide)) sh_0 rfl rfl rfl (Nat.le_of_ble_eq_true rfl) ?_
        replace h := Option.some.inj h; subst h
        exact v_iret rfl dX5_walker_44
    · replace h := (if_pos c4).symm.trans h
      refine v_aload_n dX5_walker_19 rfl ?_
      refine v_ldc (v := -1000000001) dX5_walker_20 w_175 ?_
      obtain ⟨w10, e11, h⟩ := Option.bind_eq_some_iff.mp h
      refine v_callV (as := [.int (-1000000001 : Int32)]) (st := []) (sX5_tell e11) dX5_walker_22 mlX5_64 (CRn (by decide) (by decide)) sh_0 rfl rfl rfl (Nat.le_of_ble_eq_true rfl) ?_
      replace h := Option.some.inj h; subst h
      exact v_iret rfl dX5_walker_25
/-! ===== BentPlain$Ground.hasWalker(I)Z ===== -/
def fX0_hasWalker (x1 : Int32) (M : Mem) : Int32 := (if x1 < 0 then (0 : Int32) else (if (M.1 1 1) ≤ x1 then (0 : Int32) else (1 : Int32)))
set_option maxRecDepth 100000 in
set_option maxHeartbeats 4000000 in
theorem sX0_hasWalker {g : Wo} {M : Mem} {x1 : Int32} {r : Int32} (h : fX0_hasWalker x1 M = r) : Sp g kX0_hasWalker 0 [.ref 1, .int x1] M (some (.int r)) M := by
  rw [fX0_hasWalker] at h
  refine Sp_intro (by decide) [some (.ref 1), some (.int x1)] rfl (Nat.le_of_ble_eq_true rfl) ?_
  refine v_iload_n dX0_hasWalker_0 rfl ?_
  refine v_if_lt (tgt := 16) dX0_hasWalker_1 rfl (fun c1 => ?_) (fun c1 => ?_)
  · replace h := (if_pos c1).symm.trans h
    refine v_iconst (v := 0) dX0_hasWalker_16 rfl ?_
    subst h
    exact v_zret rfl (z_nar z_0) dX0_hasWalker_17
  · replace h := (if_neg c1).symm.trans h
    refine v_iload_n dX0_hasWalker_4 rfl ?_
    refine v_aload_n dX0_hasWalker_5 rfl ?_
    refine v_geti dX0_hasWalker_6 flX0_29 sh_1 rfl ?_
    refine v_icmp_ge (tgt := 16) dX0_hasWalker_9 rfl (fun c2 => ?_) (fun c2 => ?_)
    · replace h := (if_pos c2).symm.trans h
      refine v_iconst (v := 0) dX0_hasWalker_16 rfl ?_
      subst h
      exact v_zret rfl (z_nar z_0) dX0_hasWalker_17
    · replace h := (if_neg c2).symm.trans h
      refine v_iconst (v := 1) dX0_hasWalker_12 rfl ?_
      refine v_goto (tgt := 17) dX0_hasWalker_13 rfl ?_
      subst h
      exact v_zret rfl (z_nar z_1) dX0_hasWalker_17
/-! ===== BentPlain.headingOf(I)I ===== -/
def fX5_headingOf (x0 : Int32) : Int32 := (x0 - x0 / (4 : Int32) * (4 : Int32))
set_option maxRecDepth 100000 in
set_option maxHeartbeats 4000000 in
theorem sX5_headingOf {g : Wo} {M : Mem} {x0 : Int32} {r : Int32} (h : fX5_headingOf x0 = r) : Sp g kX5_headingOf 0 [.int x0] M (some (.int r)) M := by
  rw [fX5_headingOf] at h
  refine Sp_intro (by decide) [some (.int x0)] rfl (Nat.le_of_ble_eq_true rfl) ?_
  refine v_iload_n dX5_headingOf_0 rfl ?_
  refine v_iconst (v := 4) dX5_headingOf_1 rfl ?_
  refine v_irem dX5_headingOf_2 (by decide) ?_
  subst h
  exact v_iret rfl dX5_headingOf_3
/-! ===== BentPlain$Walker.above(I)I ===== -/
def fX4_above (x0 : Int32) : Int32 := (if x0 = (3 : Int32) then (1 : Int32) else (if x0 = (4 : Int32) then (2 : Int32) else (if x0 = (5 : Int32) then (1 : Int32) else (0 : Int32))))
set_option maxRecDepth 100000 in
set_option maxHeartbeats 4000000 in
theorem sX4_above {g : Wo} {M : Mem} {x0 : Int32} {r : Int32} (h : fX4_above x0 = r) : Sp g kX4_above 0 [.int x0] M (some (.int r)) M := by
  rw [fX4_above] at h
  refine Sp_intro (by decide) [some (.int x0)] rfl (Nat.le_of_ble_eq_true rfl) ?_
  refine v_iload_n dX4_above_0 rfl ?_
  by_cases c1 : x0 = (3 : Int32)
  · replace h := (if_pos c1).symm.trans h
    refine v_tabIn (off := 27) (tgt := 28) dX4_above_1 (by rw [c1]; decide) (by rw [c1]; decide) (by rw [c1]; decide) rfl ?_
    refine v_iconst (v := 1) dX4_above_28 rfl ?_
    subst h
    exact v_iret rfl dX4_above_29
  · replace h := (if_neg c1).symm.trans h
    by_cases c2 : x0 = (4 : Int32)
    · replace h := (if_pos c2).symm.trans h
      refine v_tabIn (off := 29) (tgt := 30) dX4_above_1 (by rw [c2]; decide) (by rw [c2]; decide) (by rw [c2]; decide) rfl ?_
      refine v_iconst (v := 2) dX4_above_30 rfl ?_
      subst h
      exact v_iret rfl dX4_above_31
    · replace h := (if_neg c2).symm.trans h
      by_cases c3 : x0 = (5 : Int32)
      · replace h := (if_pos c3).symm.trans h
        refine v_tabIn (off := 27) (tgt := 28) dX4_above_1 (by rw [c3]; decide) (by rw [c3]; decide) (by rw [c3]; decide) rfl ?_
        refine v_iconst (v := 1) dX4_above_28 rfl ?_
        subst h
        exact v_iret rfl dX4_above_29
      · replace h := (if_neg c3).symm.trans h
        refine v_tabOut (tgt := 32) dX4_above_1 ?_ rfl ?_
        · have o0 := i32ne c1
          have o1 := i32ne c2
          have o2 := i32ne c3
          simp only [i32l_3, i32l_4, i32l_5] at o0 o1 o2
          omega
        · refine v_iconst (v := 0) dX4_above_32 rfl ?_
          subst h
          exact v_iret rfl dX4_above_33
/-! ===== BentPlain$Walker.payOf(II)I ===== -/
def fX4_payOf : Nat → Int32 → Int32 → Option Int32
  | 0, _, _ => none
  | n + 1, x0, x1 => (if x0 = (0 : Int32) then some (1 : Int32) else (if x0 = (1 : Int32) then ((fX4_payOf n (fX4_above x0) x1).bind fun v3 => some v3) else (if x0 = (2 : Int32) then ((fX4_payOf n (fX4_above x0) x1).bind fun v6 => some (v6 + (x1 / (3 : Int32)))) else (if x0 = (3 : Int32) then ((fX4_payOf n (fX4_above x0) x1).bind fun v9 => some (v9 + (if x1 = (9 : Int32) then (1 : Int32) else (0 : Int32)))) else (if x0 = (4 : Int32) then ((fX4_payOf n (fX4_above x0) x1).bind fun v13 => some (v13 + x1)) else ((fX4_payOf n (fX4_above x0) x1).bind fun v15 => some v15))))))
set_option maxRecDepth 100000 in
set_option maxHeartbeats 4000000 in
theorem sX4_payOf {g : Wo} {M : Mem} : ∀ {n : Nat} {x0 : Int32} {x1 : Int32} {r : Int32}, fX4_payOf n x0 x1 = some r → Sp g kX4_payOf n [.int x0, .int x1] M (some (.int r)) M := by
  intro n
  induction n with
  | zero =>
    intro x0 x1 r h
    rw [fX4_payOf] at h
    cases h
  | succ n ihr =>
    intro x0 x1 r h
    rw [fX4_payOf] at h
    refine Sp_intro (by decide) [some (.int x0), some (.int x1)] rfl (Nat.le_of_ble_eq_true rfl) ?_
    refine v_iload_n dX4_payOf_0 rfl ?_
    by_cases c1 : x0 = (0 : Int32)
    · replace h := (if_pos c1).symm.trans h
      refine v_tabIn (off := 35) (tgt := 36) dX4_payOf_1 (by rw [c1]; decide) (by rw [c1]; decide) (by rw [c1]; decide) rfl ?_
      refine v_iconst (v := 1) dX4_payOf_36 rfl ?_
      replace h := Option.some.inj h; subst h
      exact v_iret rfl dX4_payOf_37
    · replace h := (if_neg c1).symm.trans h
      by_cases c2 : x0 = (1 : Int32)
      · replace h := (if_pos c2).symm.trans h
        refine v_tabIn (off := 82) (tgt := 83) dX4_payOf_1 (by rw [c2]; decide) (by rw [c2]; decide) (by rw [c2]; decide) rfl ?_
        refine v_iload_n dX4_payOf_83 rfl ?_
        refine v_callS (as := [.int x0]) (st := []) (sX4_above rfl) dX4_payOf_84 mlX4_54 (CRn (by omega) (by decide)) rfl rfl (Nat.le_of_ble_eq_true rfl) ?_
        refine v_iload_n dX4_payOf_87 rfl ?_
        obtain ⟨v3, e4, h⟩ := Option.bind_eq_some_iff.mp h
        refine v_callS (as := [.int (fX4_above x0), .int x1]) (st := []) (ihr e4) dX4_payOf_88 mlX4_43 (CRn (by omega) (by decide)) rfl rfl (Nat.le_of_ble_eq_true rfl) ?_
        replace h := Option.some.inj h; subst h
        exact v_iret rfl dX4_payOf_91
      · replace h := (if_neg c2).symm.trans h
        by_cases c5 : x0 = (2 : Int32)
        · replace h := (if_pos c5).symm.trans h
          refine v_tabIn (off := 37) (tgt := 38) dX4_payOf_1 (by rw [c5]; decide) (by rw [c5]; decide) (by rw [c5]; decide) rfl ?_
          refine v_iload_n dX4_payOf_38 rfl ?_
          refine v_callS (as := [.int x0]) (st := []) (sX4_above rfl) dX4_payOf_39 mlX4_54 (CRn (by omega) (by decide)) rfl rfl (Nat.le_of_ble_eq_true rfl) ?_
          refine v_iload_n dX4_payOf_42 rfl ?_
          obtain ⟨v6, e7, h⟩ := Option.bind_eq_some_iff.mp h
          refine v_callS (as := [.int (fX4_above x0), .int x1]) (st := []) (ihr e7) dX4_payOf_43 mlX4_43 (CRn (by omega) (by decide)) rfl rfl (Nat.le_of_ble_eq_true rfl) ?_
          refine v_iload_n dX4_payOf_46 rfl ?_
          refine v_iconst (v := 3) dX4_payOf_47 rfl ?_
          refine v_idiv dX4_payOf_48 (by decide) ?_
          refine v_iadd dX4_payOf_49 ?_
          replace h := Option.some.inj h; subst h
          exact v_iret rfl dX4_payOf_50
        · replace h := (if_neg c5).symm.trans h
          by_cases c8 : x0 = (3 : Int32)
          · replace h := (if_pos c8).symm.trans h
            refine v_tabIn (off := 61) (tgt := 62) dX4_payOf_1 (by rw [c8]; decide) (by rw [c8]; decide) (by rw [c8]; decide) rfl ?_
            refine v_iload_n dX4_payOf_62 rfl ?_
            refine v_callS (as := [.int x0]) (st := []) (sX4_above rfl) dX4_payOf_63 mlX4_54 (CRn (by omega) (by decide)) rfl rfl (Nat.le_of_ble_eq_true rfl) ?_
            refine v_iload_n dX4_payOf_66 rfl ?_
            obtain ⟨v9, e10, h⟩ := Option.bind_eq_some_iff.mp h
            refine v_callS (as := [.int (fX4_above x0), .int x1]) (st := []) (ihr e10) dX4_payOf_67 mlX4_43 (CRn (by omega) (by decide)) rfl rfl (Nat.le_of_ble_eq_true rfl) ?_
            refine v_iload_n dX4_payOf_70 rfl ?_
            refine v_bipush (v := 9) dX4_payOf_71 rfl ?_
            have hJ : V g kX4_payOf (jm g (n + 1) (some (.int r)) M) 81 [none, none] [.int (if x1 = (9 : Int32) then (1 : Int32) else (0 : Int32)), .int v9] M := by
              refine v_iadd dX4_payOf_81 ?_
              replace h := Option.some.inj h; subst h
              exact v_iret rfl dX4_payOf_82
            refine v_icmp_ne (tgt := 80) dX4_payOf_73 rfl (fun c11 => ?_) (fun c11 => ?_)
            · refine v_iconst (v := 0) dX4_payOf_80 rfl ?_
              refine V.sub (ls' := [none, none]) trivial ?_
              first | (simp only [if_neg c11] at hJ; exact hJ) | exact hJ | (simp only [if_neg c11] at hJ ⊢; exact hJ)
            · refine v_iconst (v := 1) dX4_payOf_76 rfl ?_
              refine v_goto (tgt := 81) dX4_payOf_77 rfl ?_
              refine V.sub (ls' := [none, none]) trivial ?_
              first | (simp only [if_pos c11] at hJ; exact hJ) | exact hJ | (simp only [if_pos c11] at hJ ⊢; exact hJ)
          · replace h := (if_neg c8).symm.trans h
            by_cases c12 : x0 = (4 : Int32)
            · replace h := (if_pos c12).symm.trans h
              refine v_tabIn (off := 50) (tgt := 51) dX4_payOf_1 (by rw [c12]; decide) (by rw [c12]; decide) (by rw [c12]; decide) rfl ?_
              refine v_iload_n dX4_payOf_51 rfl ?_
              refine v_callS (as := [.int x0]) (st := []) (sX4_above rfl) dX4_payOf_52 mlX4_54 (CRn (by omega) (by decide)) rfl rfl (Nat.le_of_ble_eq_true rfl) ?_
              refine v_iload_n dX4_payOf_55 rfl ?_
              obtain ⟨v13, e14, h⟩ := Option.bind_eq_some_iff.mp h
              refine v_callS (as := [.int (fX4_above x0), .int x1]) (st := []) (ihr e14) dX4_payOf_56 mlX4_43 (CRn (by omega) (by decide)) rfl rfl (Nat.le_of_ble_eq_true rfl) ?_
              refine v_iload_n dX4_payOf_59 rfl ?_
              refine v_iadd dX4_payOf_60 ?_
              replace h := Option.some.inj h; subst h
              exact v_iret rfl dX4_payOf_61
            · replace h := (if_neg c12).symm.trans h
              refine v_tabOut (tgt := 83) dX4_payOf_1 ?_ rfl ?_
              · have o0 := i32ne c1
                have o1 := i32ne c2
                have o2 := i32ne c5
                have o3 := i32ne c8
                have o4 := i32ne c12
                simp only [i32l_0, i32l_1, i32l_2, i32l_3, i32l_4] at o0 o1 o2 o3 o4
                omega
              · refine v_iload_n dX4_payOf_83 rfl ?_
                refine v_callS (as := [.int x0]) (st := []) (sX4_above rfl) dX4_payOf_84 mlX4_54 (CRn (by omega) (by decide)) rfl rfl (Nat.le_of_ble_eq_true rfl) ?_
                refine v_iload_n dX4_payOf_87 rfl ?_
                obtain ⟨v15, e16, h⟩ := Option.bind_eq_some_iff.mp h
                refine v_callS (as := [.int (fX4_above x0), .int x1]) (st := []) (ihr e16) dX4_payOf_88 mlX4_43 (CRn (by omega) (by decide)) rfl rfl (Nat.le_of_ble_eq_true rfl) ?_
                replace h := Option.some.inj h; subst h
                exact v_iret rfl dX4_payOf_91
/-! ===== BentPlain.its(II)I ===== -/
def fX5_its (x1 : Int32) (x2 : Int32) (M : Mem) : Option (Int32 × Mem) := (if (fX0_hasWalker x1 M) = 0 then ((fX5_tell (-1000000001 : Int32) M).bind fun w16 => some (w16.1, w16.2)) else ((ldW 1 x1).bind fun q2 => (if x2 = (0 : Int32) then some ((M.1 q2 0), M) else (if x2 = (1 : Int32) then some ((fX5_fieldOf (M.1 q2 1)), M) else (if x2 = (2 : Int32) then some ((fX5_headingOf (M.1 q2 1)), M) else (if x2 = (3 : Int32) then some ((M.1 q2 2), M) else (if x2 = (4 : Int32) then some ((M.1 q2 3), M) else (if x2 = (5 : Int32) then ((fX0_roughOf (fX5_fieldOf (M.1 q2 1)) M).bind fun v10 => ((fX4_payOf 4 (M.1 q2 0) v10).bind fun v12 => some (v12, M))) else ((fX5_tell (-1000000001 : Int32) M).bind fun w14 => some (w14.1, w14.2))))))))))
set_option maxRecDepth 100000 in
set_option maxHeartbeats 4000000 in
theorem sX5_its {g : Wo} {M : Mem} {x1 : Int32} {x2 : Int32} {r : Int32 × Mem} (h : fX5_its x1 x2 M = some r) : Sp g kX5_its 5 [.ref 0, .int x1, .int x2] M (some (.int r.1)) r.2 := by
  rw [fX5_its] at h
  refine Sp_intro (by decide) [some (.ref 0), some (.int x1), some (.int x2), none] rfl (Nat.le_of_ble_eq_true rfl) ?_
  refine v_aload_n dX5_its_0 rfl ?_
  refine v_getr dX5_its_1 flX5_12 sh_0 rfl ?_
  refine v_iload_n dX5_its_4 rfl ?_
  refine v_callV (as := [.int x1]) (st := []) (sX0_hasWalker rfl) dX5_its_5 mlX5_126 (CRn (by decide) (by decide)) sh_1 rfl rfl rfl (Nat.le_of_ble_eq_true rfl) ?_
  refine v_if_ne (tgt := 18) dX5_its_8 rfl (fun c1 => ?_) (fun c1 => ?_)
  · replace h := (if_neg c1).symm.trans h
    refine v_aload_n dX5_its_18 rfl ?_
    refine v_getr dX5_its_19 flX5_12 sh_0 rfl ?_
    refine v_getr dX5_its_22 flX5_129 sh_1 rfl ?_
    refine v_iload_n dX5_its_25 rfl ?_
    obtain ⟨q2, e3, h⟩ := Option.bind_eq_some_iff.mp h
    refine v_wld (r := 1) e3 dX5_its_26 isG_1 ?_
    refine v_astore_n (ls1 := [some (.ref 0), some (.int x1), some (.int x2), some (.ref q2)]) dX5_its_27 (Nat.le_of_ble_eq_true rfl) rfl ?_
    refine v_iload_n dX5_its_28 rfl ?_
    by_cases c4 : x2 = (0 : Int32)
    · replace h := (if_pos c4).symm.trans h
      refine v_tabIn (off := 39) (tgt := 68) dX5_its_29 (by rw [c4]; decide) (by rw [c4]; decide) (by rw [c4]; decide) rfl ?_
      refine v_aload_n dX5_its_68 rfl ?_
      refine v_geti dX5_its_69 flX5_133 (ldW_is isG_1 e3) rfl ?_
      replace h := Option.some.inj h; subst h
      exact v_iret rfl dX5_its_72
    · replace h := (if_neg c4).symm.trans h
      by_cases c5 : x2 = (1 : Int32)
      · replace h := (if_pos c5).symm.trans h
        refine v_tabIn (off := 44) (tgt := 73) dX5_its_29 (by rw [c5]; decide) (by rw [c5]; decide) (by rw [c5]; decide) rfl ?_
        refine v_aload_n dX5_its_73 rfl ?_
        refine v_geti dX5_its_74 flX5_136 (ldW_is isG_1 e3) rfl ?_
        refine v_callS (as := [.int (M.1 q2 1)]) (st := []) (sX5_fieldOf rfl) dX5_its_77 mlX5_139 (CRn (by decide) (by decide)) rfl rfl (Nat.le_of_ble_eq_true rfl) ?_
        replace h := Option.some.inj h; subst h
        exact v_iret rfl dX5_its_80
      · replace h := (if_neg c5).symm.trans h
        by_cases c6 : x2 = (2 : Int32)
        · replace h := (if_pos c6).symm.trans h
          refine v_tabIn (off := 52) (tgt := 81) dX5_its_29 (by rw [c6]; decide) (by rw [c6]; decide) (by rw [c6]; decide) rfl ?_
          refine v_aload_n dX5_its_81 rfl ?_
          refine v_geti dX5_its_82 flX5_136 (ldW_is isG_1 e3) rfl ?_
          refine v_callS (as := [.int (M.1 q2 1)]) (st := []) (sX5_headingOf rfl) dX5_its_85 mlX5_142 (CRn (by decide) (by decide)) rfl rfl (Nat.le_of_ble_eq_true rfl) ?_
          replace h := Option.some.inj h; subst h
          exact v_iret rfl dX5_its_88
        · replace h := (if_neg c6).symm.trans h
          by_cases c7 : x2 = (3 : Int32)
          · replace h := (if_pos c7).symm.trans h
            refine v_tabIn (off := 60) (tgt := 89) dX5_its_29 (by rw [c7]; decide) (by rw [c7]; decide) (by rw [c7]; decide) rfl ?_
            refine v_aload_n dX5_its_89 rfl ?_
            refine v_geti dX5_its_90 flX5_145 (ldW_is isG_1 e3) rfl ?_
            replace h := Option.some.inj h; subst h
            exact v_iret rfl dX5_its_93
          · replace h := (if_neg c7).symm.trans h
            by_cases c8 : x2 = (4 : Int32)
            · replace h := (if_pos c8).symm.trans h
              refine v_tabIn (off := 65) (tgt := 94) dX5_its_29 (by rw [c8]; decide) (by rw [c8]; decide) (by rw [c8]; decide) rfl ?_
              refine v_aload_n dX5_its_94 rfl ?_
              refine v_geti dX5_its_95 flX5_148 (ldW_is isG_1 e3) rfl ?_
              replace h := Option.some.inj h; subst h
              exact v_iret rfl dX5_its_98
            · replace h := (if_neg c8).symm.trans h
              by_cases c9 : x2 = (5 : Int32)
              · replace h := (if_pos c9).symm.trans h
                refine v_tabIn (off := 70) (tgt := 99) dX5_its_29 (by rw [c9]; decide) (by rw [c9]; decide) (by rw [c9]; decide) rfl ?_
                refine v_aload_n dX5_its_99 rfl ?_
                refine v_geti dX5_its_100 flX5_133 (ldW_is isG_1 e3) rfl ?_
                refine v_aload_n dX5_its_103 rfl ?_
                refine v_getr dX5_its_104 flX5_12 sh_0 rfl ?_
                refine v_aload_n dX5_its_107 rfl ?_
                refine v_geti dX5_its_108 flX5_136 (ldW_is isG_1 e3) rfl ?_
                refine v_callS (as := [.int (M.1 q2 1)]) (st := [.ref 1, .int (M.1 q2 0)]) (sX5_fieldOf rfl) dX5_its_111 mlX5_139 (CRn (by decide) (by decide)) rfl rfl (Nat.le_of_ble_eq_true rfl) ?_
                obtain ⟨v10, e11, h⟩ := Option.bind_eq_some_iff.mp h
                refine v_callV (as := [.int (fX5_fieldOf (M.1 q2 1))]) (st := [.int (M.1 q2 0)]) (sX0_roughOf e11) dX5_its_114 mlX5_79 (CRn (by decide) (by decide)) sh_1 rfl rfl rfl (Nat.le_of_ble_eq_true rfl) ?_
                obtain ⟨v12, e13, h⟩ := Option.bind_eq_some_iff.mp h
                refine v_callN (as := [.int (M.1 q2 0), .int v10]) (st := []) (sX4_payOf e13) dX5_its_117 mlX5_151 (CRn (by decide) (by decide)) rfl rfl (Nat.le_of_ble_eq_true rfl) ?_
                replace h := Option.some.inj h; subst h
                exact v_iret rfl dX5_its_120
              · replace h := (if_neg c9).symm.trans h
                refine v_tabOut (tgt := 121) dX5_its_29 ?_ rfl ?_
                · have o0 := i32ne c4
                  have o1 := i32ne c5
                  have o2 := i32ne c6
                  have o3 := i32ne c7
                  have o4 := i32ne c8
                  have o5 := i32ne c9
                  simp only [i32l_0, i32l_1, i32l_2, i32l_3, i32l_4, i32l_5] at o0 o1 o2 o3 o4 o5
                  omega
                · refine v_aload_n dX5_its_121 rfl ?_
                  refine v_ldc (v := -1000000001) dX5_its_122 w_175 ?_
                  obtain ⟨w14, e15, h⟩ := Option.bind_eq_some_iff.mp h
                  refine v_callV (as := [.int (-1000000001 : Int32)]) (st := []) (sX5_tell e15) dX5_its_124 mlX5_64 (CRn (by decide) (by decide)) sh_0 rfl rfl rfl (Nat.le_of_ble_eq_true rfl) ?_
                  replace h := Option.some.inj h; subst h
                  exact v_iret rfl dX5_its_127
  · replace h := (if_pos c1).symm.trans h
    refine v_aload_n dX5_its_11 rfl ?_
    refine v_ldc (v := -1000000001) dX5_its_12 w_175 ?_
    obtain ⟨w16, e17, h⟩ := Option.bind_eq_some_iff.mp h
    refine v_callV (as := [.int (-1000000001 : Int32)]) (st := []) (sX5_tell e17) dX5_its_14 mlX5_64 (CRn (by decide) (by decide)) sh_0 rfl rfl rfl (Nat.le_of_ble_eq_true rfl) ?_
    replace h := Option.some.inj h; subst h
    exact v_iret rfl dX5_its_17
