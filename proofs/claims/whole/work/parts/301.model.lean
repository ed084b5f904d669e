/-! ===== BentPlainModel.cuts(I)V ===== -/
def fX6_cuts (x1 : Int32) (M : Mem) : Option Mem := ((ldI M 50 112 ((18 : Int32) + x1)).bind fun v1 => ((stI M 50 112 (((18 : Int32) + v1) - (1 : Int32)) (0 : Int32)).bind fun M3 => ((stI M3 50 112 ((18 : Int32) + x1) (0 : Int32)).bind fun M5 => some M5)))
set_option maxRecDepth 100000 in
set_option maxHeartbeats 4000000 in
theorem sX6_cuts {g : Wo} {M : Mem} {x1 : Int32} {r : Mem} (h : fX6_cuts x1 M = some r) : Sp g kX6_cuts 0 [.ref 49, .int x1] M none r := by
  rw [fX6_cuts] at h
  refine Sp_intro (by decide) [some (.ref 49), some (.int x1)] rfl (Nat.le_of_ble_eq_true rfl) ?_
  refine v_aload_n dX6_cuts_0 rfl ?_
  refine v_getr dX6_cuts_1 flX6_7 sh_49 rfl ?_
  refine v_bipush (v := 18) dX6_cuts_4 rfl ?_
  refine v_aload_n dX6_cuts_6 rfl ?_
  refine v_getr dX6_cuts_7 flX6_7 sh_49 rfl ?_
  refine v_bipush (v := 18) dX6_cuts_10 rfl ?_
  refine v_iload_n dX6_cuts_12 rfl ?_
  refine v_iadd dX6_cuts_13 ?_
  obtain ⟨v1, e2, h⟩ := Option.bind_eq_some_iff.mp h
  refine v_ild e2 dX6_cuts_14 sh_50 ?_
  refine v_iadd dX6_cuts_15 ?_
  refine v_iconst (v := 1) dX6_cuts_16 rfl ?_
  refine v_isub dX6_cuts_17 ?_
  refine v_iconst (v := 0) dX6_cuts_18 rfl ?_
  obtain ⟨M3, e4, h⟩ := Option.bind_eq_some_iff.mp h
  refine v_ist e4 dX6_cuts_19 sh_50 ?_
  refine v_aload_n dX6_cuts_20 rfl ?_
  refine v_getr dX6_cuts_21 flX6_7 sh_49 rfl ?_
  refine v_bipush (v := 18) dX6_cuts_24 rfl ?_
  refine v_iload_n dX6_cuts_26 rfl ?_
  refine v_iadd dX6_cuts_27 ?_
  refine v_iconst (v := 0) dX6_cuts_28 rfl ?_
  obtain ⟨M5, e6, h⟩ := Option.bind_eq_some_iff.mp h
  refine v_ist e6 dX6_cuts_29 sh_50 ?_
  replace h := Option.some.inj h; subst h
  exact v_vret rfl dX6_cuts_30
/-! ===== BentPlainModel.cut(II)I ===== -/
def fX6_cut (x1 : Int32) (x2 : Int32) (M : Mem) : Option (Int32 × Mem) := ((fX6_isWay x1 x2 M).bind fun v1 => (if v1 = 0 then ((fX6_finds (-1000000001 : Int32) M).bind fun w11 => some (w11.1, w11.2)) else ((ldI M 50 112 (((18 : Int32) + ((4 : Int32) * x1)) + x2)).bind fun v4 => (if v4 = 0 then ((fX6_finds (-1000000005 : Int32) M).bind fun w9 => some (w9.1, w9.2)) else ((fX6_cuts (((4 : Int32) * x1) + x2) M).bind fun w7 => some ((v4 - (1 : Int32)), w7))))))
set_option maxRecDepth 100000 in
set_option maxHeartbeats 4000000 in
theorem sX6_cut {g : Wo} {M : Mem} {x1 : Int32} {x2 : Int32} {r : Int32 × Mem} (h : fX6_cut x1 x2 M = some r) : Sp g kX6_cut 3 [.ref 49, .int x1, .int x2] M (some (.int r.1)) r.2 := by
  rw [fX6_cut] at h
  refine Sp_intro (by decide) [some (.ref 49), some (.int x1), some (.int x2), none] rfl (Nat.le_of_ble_eq_true rfl) ?_
  refine v_aload_n dX6_cut_0 rfl ?_
  refine v_iload_n dX6_cut_1 rfl ?_
  refine v_iload_n dX6_cut_2 rfl ?_
  obtain ⟨v1, e2, h⟩ := Option.bind_eq_some_iff.mp h
  refine v_callV (as := [.int x1, .int x2]) (st := []) (sX6_isWay e2) dX6_cut_3 mlX6_88 (CRn (by decide) (by decide)) sh_49 rfl rfl rfl (Nat.le_of_ble_eq_true rfl) ?_
  refine v_if_ne (tgt := 16) dX6_cut_6 rfl (fun c3 => ?_) (fun c3 => ?_)
  · replace h := (if_neg c3).symm.trans h
    refine v_aload_n dX6_cut_16 rfl ?_
    refine v_getr dX6_cut_17 flX6_7 sh_49 rfl ?_
    refine v_bipush (v := 18) dX6_cut_20 rfl ?_
    refine v_iconst (v := 4) dX6_cut_22 rfl ?_
    refine v_iload_n dX6_cut_23 rfl ?_
    refine v_imul dX6_cut_24 ?_
    refine v_iadd dX6_cut_25 ?_
    refine v_iload_n dX6_cut_26 rfl ?_
    refine v_iadd dX6_cut_27 ?_
    obtain ⟨v4, e5, h⟩ := Option.bind_eq_some_iff.mp h
    refine v_ild e5 dX6_cut_28 sh_50 ?_
    refine v_istore_n (ls1 := [some (.ref 49), some (.int x1), some (.int x2), some (.int v4)]) dX6_cut_29 (Nat.le_of_ble_eq_true rfl) rfl ?_
    refine v_iload_n dX6_cut_30 rfl ?_
    refine v_if_ne (tgt := 41) dX6_cut_31 rfl (fun c6 => ?_) (fun c6 => ?_)
    · replace h := (if_neg c6).symm.trans h
      refine v_aload_n dX6_cut_41 rfl ?_
      refine v_iconst (v := 4) dX6_cut_42 rfl ?_
      refine v_iload_n dX6_cut_43 rfl ?_
      refine v_imul dX6_cut_44 ?_
      refine v_iload_n dX6_cut_45 rfl ?_
      refine v_iadd dX6_cut_46 ?_
      obtain ⟨w7, e8, h⟩ := Option.bind_eq_some_iff.mp h
      refine v_callV (as := [.int (((4 : Int32) * x1) + x2)]) (st := []) (sX6_cuts e8) dX6_cut_47 mlX6_97 (CRn (by decide) (by decide)) sh_49 rfl rfl rfl (Nat.le_of_ble_eq_true rfl) ?_
      refine v_iload_n dX6_cut_50 rfl ?_
      refine v_iconst (v := 1) dX6_cut_51 rfl ?_
      refine v_isub dX6_cut_52 ?_
      replace h := Option.some.inj h; subst h
      exact v_iret rfl dX6_cut_53
    · replace h := (if_pos c6).symm.trans h
      refine v_aload_n dX6_cut_34 rfl ?_
      refine v_ldc (v := -1000000005) dX6_cut_35 w_863 ?_
      obtain ⟨w9, e10, h⟩ := Option.bind_eq_some_iff.mp h
      refine v_callV (as := [.int (-1000000005 : Int32)]) (st := []) (sX6_finds e10) dX6_cut_37 mlX6_69 (CRn (by decide) (by decide)) sh_49 rfl rfl rfl (Nat.le_of_ble_eq_true rfl) ?_
      replace h := Option.some.inj h; subst h
      exact v_iret rfl dX6_cut_40
  · replace h := (if_pos c3).symm.trans h
    refine v_aload_n dX6_cut_9 rfl ?_
    refine v_ldc (v := -1000000001) dX6_cut_10 w_809 ?_
    obtain ⟨w11, e12, h⟩ := Option.bind_eq_some_iff.mp h
    refine v_callV (as := [.int (-1000000001 : Int32)]) (st := []) (sX6_finds e12) dX6_cut_12 mlX6_69 (CRn (by decide) (by decide)) sh_49 rfl rfl rfl (Nat.le_of_ble_eq_true rfl) ?_
    replace h := Option.some.inj h; subst h
    exact v_iret rfl dX6_cut_15
/-! ===== BentPlainModel.over(II)I ===== -/
def fX6_over (x1 : Int32) (x2 : Int32) (M : Mem) : Option (Int32 × Mem) := ((fX6_isWay x1 x2 M).bind fun v1 => (if v1 = 0 then ((fX6_finds (-1000000001 : Int32) M).bind fun w9 => some (w9.1, w9.2)) else ((ldI M 50 112 (((18 : Int32) + ((4 : Int32) * x1)) + x2)).bind fun v4 => (if v4 = 0 then ((fX6_finds (-1000000004 : Int32) M).bind fun w7 => some (w7.1, w7.2)) else some ((v4 - (1 : Int32)), M)))))
set_option maxRecDepth 100000 in
set_option maxHeartbeats 4000000 in
theorem sX6_over {g : Wo} {M : Mem} {x1 : Int32} {x2 : Int32} {r : Int32 × Mem} (h : fX6_over x1 x2 M = some r) : Sp g kX6_over 3 [.ref 49, .int x1, .int x2] M (some (.int r.1)) r.2 := by
  rw [fX6_over] at h
  refine Sp_intro (by decide) [some (.ref 49), some (.int x1), some (.int x2), none] rfl (Nat.le_of_ble_eq_true rfl) ?_
  refine v_aload_n dX6_over_0 rfl ?_
  refine v_iload_n dX6_over_1 rfl ?_
  refine v_iload_n dX6_over_2 rfl ?_
  obtain ⟨v1, e2, h⟩ := Option.bind_eq_some_iff.mp h
  refine v_callV (as := [.int x1, .int x2]) (st := []) (sX6_isWay e2) dX6_over_3 mlX6_88 (CRn (by decide) (by decide)) sh_49 rfl rfl rfl (Nat.le_of_ble_eq_true rfl) ?_
  refine v_if_ne (tgt := 16) dX6_over_6 rfl (fun c3 => ?_) (fun c3 => ?_)
  · replace h := (if_neg c3).symm.trans h
    refine v_aload_n dX6_over_16 rfl ?_
    refine v_getr dX6_over_17 flX6_7 sh_49 rfl ?_
    refine v_bipush (v := 18) dX6_over_20 rfl ?_
    refine v_iconst (v := 4) dX6_over_22 rfl ?_
    refine v_iload_n dX6_over_23 rfl ?_
    refine v_imul dX6_over_24 ?_
    refine v_iadd dX6_over_25 ?_
    refine v_iload_n dX6_over_26 rfl ?_
    refine v_iadd dX6_over_27 ?_
    obtain ⟨v4, e5, h⟩ := Option.bind_eq_some_iff.mp h
    refine v_ild e5 dX6_over_28 sh_50 ?_
    refine v_istore_n (ls1 := [some (.ref 49), some (.int x1), some (.int x2), some (.int v4)]) dX6_over_29 (Nat.le_of_ble_eq_true rfl) rfl ?_
    refine v_iload_n dX6_over_30 rfl ?_
    refine v_if_ne (tgt := 43) dX6_over_31 rfl (fun c6 => ?_) (fun c6 => ?_)
    · replace h := (if_neg c6).symm.trans h
      refine v_iload_n dX6_over_43 rfl ?_
      refine v_iconst (v := 1) dX6_over_44 rfl ?_
      refine v_isub dX6_over_45 ?_
      replace h := Option.some.inj h; subst h
      exact v_iret rfl dX6_over_46
    · replace h := (if_pos c6).symm.trans h
      refine v_aload_n dX6_over_34 rfl ?_
      refine v_ldc (v := -1000000004) dX6_over_35 w_880 ?_
      obtain ⟨w7, e8, h⟩ := Option.bind_eq_some_iff.mp h
      refine v_callV (as := [.int (-1000000004 : Int32)]) (st := []) (sX6_finds e8) dX6_over_37 mlX6_69 (CRn (by decide) (by decide)) sh_49 rfl rfl rfl (Nat.le_of_ble_eq_true rfl) ?_
      refine v_goto (tgt := 46) dX6_over_40 rfl ?_
      replace h := Option.some.inj h; subst h
      exact v_iret rfl dX6_over_46
  · replace h := (if_pos c3).symm.trans h
    refine v_aload_n dX6_over_9 rfl ?_
    refine v_ldc (v := -1000000001) dX6_over_10 w_809 ?_
    obtain ⟨w9, e10, h⟩ := Option.bind_eq_some_iff.mp h
    refine v_callV (as := [.int (-1000000001 : Int32)]) (st := []) (sX6_finds e10) dX6_over_12 mlX6_69 (CRn (by decide) (by decide)) sh_49 rfl rfl rfl (Nat.le_of_ble_eq_true rfl) ?_
    replace h := Option.some.inj h; subst h
    exact v_iret rfl dX6_over_15
/-! ===== BentPlainModel.isKind(I)Z ===== -/
def fX6_isKind (x0 : Int32) : Int32 := (fX6_in ((x0).toInt64) (0 : Int64) (5 : Int64))
set_option maxRecDepth 100000 in
set_option maxHeartbeats 4000000 in
theorem sX6_isKind {g : Wo} {M : Mem} {x0 : Int32} {r : Int32} (h : fX6_isKind x0 = r) : Sp g kX6_isKind 1 [.int x0] M (some (.int r)) M := by
  rw [fX6_isKind] at h
  refine Sp_intro (by decide) [some (.int x0)] rfl (Nat.le_of_ble_eq_true rfl) ?_
  refine v_iload_n dX6_isKind_0 rfl ?_
  refine v_i2l dX6_isKind_1 ?_
  refine v_lconst (v := 0) dX6_isKind_2 rfl ?_
  refine v_ldc2 (v := 5) dX6_isKind_3 w_888 ?_
  refine v_callS (as := [.long ((x0).toInt64), .long (0 : Int64), .long (5 : Int64)]) (st := []) (sX6_in rfl) dX6_isKind_6 mlX6_45 (CRn (by decide) (by decide)) rfl rfl (Nat.le_of_ble_eq_true rfl) ?_
  subst h
  exact v_zret rfl (z_nar (zX6_in ((x0).toInt64) (0 : Int64) (5 : Int64))) dX6_isKind_9
/-! ===== BentPlainModel.comes(III)I ===== -/
def fX6_comes (x1 : Int32) (x2 : Int32) (x3 : Int32) (M : Mem) : Option (Int32 × Mem) := ((ldI M 50 112 (1 : Int32)).bind fun v1 => ((stI M 50 112 (fX6_spot v1 (0 : Int32)) x1).bind fun M3 => ((stI M3 50 112 (fX6_spot v1 (1 : Int32)) x2).bind fun M5 => ((stI M5 50 112 (fX6_spot v1 (2 : Int32)) x3).bind fun M7 => ((stI M7 50 112 (fX6_spot v1 (3 : Int32)) (0 : Int32)).bind fun M9 => ((stI M9 50 112 (fX6_spot v1 (4 : Int32)) (0 : Int32)).bind fun M11 => ((ldI M11 50 112 (1 : Int32)).bind fun v13 => ((stI M11 50 112 (1 : Int32) (v13 + (1 : Int32))).bind fun M15 => some (v1, M15)))))))))
set_option maxRecDepth 100000 in
set_option maxHeartbeats 4000000 in
theorem sX6_comes {g : Wo} {M : Mem} {x1 : Int32} {x2 : Int32} {x3 : Int32} {r : Int32 × Mem} (h : fX6_comes x1 x2 x3 M = some r) : Sp g kX6_comes 1 [.ref 49, .int x1, .int x2, .int x3] M (some (.int r.1)) r.2 := by
  rw [fX6_comes] at h
  refine Sp_intro (by decide) [some (.ref 49), some (.int x1), some (.int x2), some (.int x3), none] rfl (Nat.le_of_ble_eq_true rfl) ?_
  refine v_aload_n dX6_comes_0 rfl ?_
  refine v_getr dX6_comes_1 flX6_7 sh_49 rfl ?_
  refine v_iconst (v := 1) dX6_comes_4 rfl ?_
  obtain ⟨v1, e2, h⟩ := Option.bind_eq_some_iff.mp h
  refine v_ild e2 dX6_comes_5 sh_50 ?_
  refine v_istore (ls1 := [some (.ref 49), some (.int x1), some (.int x2), some (.int x3), some (.int v1)]) dX6_comes_6 (Nat.le_of_ble_eq_true rfl) rfl ?_
  refine v_aload_n dX6_comes_8 rfl ?_
  refine v_getr dX6_comes_9 flX6_7 sh_49 rfl ?_
  refine v_iload dX6_comes_12 rfl ?_
  refine v_iconst (v := 0) dX6_comes_14 rfl ?_
  refine v_callS (as := [.int v1, .int (0 : Int32)]) (st := [.ref 50]) (sX6_spot rfl) dX6_comes_15 mlX6_60 (CRn (by decide) (by decide)) rfl rfl (Nat.le_of_ble_eq_true rfl) ?_
  refine v_iload_n dX6_comes_18 rfl ?_
  obtain ⟨M3, e4, h⟩ := Option.bind_eq_some_iff.mp h
  refine v_ist e4 dX6_comes_19 sh_50 ?_
  refine v_aload_n dX6_comes_20 rfl ?_
  refine v_getr dX6_comes_21 flX6_7 sh_49 rfl ?_
  refine v_iload dX6_comes_24 rfl ?_
  refine v_iconst (v := 1) dX6_comes_26 rfl ?_
  refine v_callS (as := [.int v1, .int (1 : Int32)]) (st := [.ref 50]) (sX6_spot rfl) dX6_comes_27 mlX6_60 (CRn (by decide) (by decide)) rfl rfl (Nat.le_of_ble_eq_true rfl) ?_
  refine v_iload_n dX6_comes_30 rfl ?_
  obtain ⟨M5, e6, h⟩ := Option.bind_eq_some_iff.mp h
  refine v_ist e6 dX6_comes_31 sh_50 ?_
  refine v_aload_n dX6_comes_32 rfl ?_
  refine v_getr dX6_comes_33 flX6_7 sh_49 rfl ?_
  refine v_iload dX6_comes_36 rfl ?_
  refine v_iconst (v := 2) dX6_comes_38 rfl ?_
  refine v_callS (as := [.int v1, .int (2 : Int32)]) (st := [.ref 50]) (sX6_spot rfl) dX6_comes_39 mlX6_60 (CRn (by decide) (by decide)) rfl rfl (Nat.le_of_ble_eq_true rfl) ?_
  refine v_iload_n dX6_comes_42 rfl ?_
  obtain ⟨M7, e8, h⟩ := Option.bind_eq_some_iff.mp h
  refine v_ist e8 dX6_comes_43 sh_50 ?_
  refine v_aload_n dX6_comes_44 rfl ?_
  refine v_getr dX6_comes_45 flX6_7 sh_49 rfl ?_
  refine v_iload dX6_comes_48 rfl ?_
  refine v_iconst (v := 3) dX6_comes_50 rfl ?_
  refine v_callS (as := [.int v1, .int (3 : Int32)]) (st := [.ref 50]) (sX6_spot rfl) dX6_comes_51 mlX6_60 (CRn (by decide) (by decide)) rfl rfl (Nat.le_of_ble_eq_true rfl) ?_
  refine v_iconst (v := 0) dX6_comes_54 rfl ?_
  obtain ⟨M9, e10, h⟩ := Option.bind_eq_some_iff.mp h
  refine v_ist e10 dX6_comes_55 sh_50 ?_
  refine v_aload_n dX6_comes_56 rfl ?_
  refine v_getr dX6_comes_57 flX6_7 sh_49 rfl ?_
  refine v_iload dX6_comes_60 rfl ?_
  refine v_iconst (v := 4) dX6_comes_62 rfl ?_
  refine v_callS (as := [.int v1, .int (4 : Int32)]) (st := [.ref 50]) (sX6_spot rfl) dX6_comes_63 mlX6_60 (CRn (by decide) (by decide)) rfl rfl (Nat.le_of_ble_eq_true rfl) ?_
  refine v_iconst (v := 0) dX6_comes_66 rfl ?_
  obtain ⟨M11, e12, h⟩ := Option.bind_eq_some_iff.mp h
  refine v_ist e12 dX6_comes_67 sh_50 ?_
  refine v_aload_n dX6_comes_68 rfl ?_
  refine v_getr dX6_comes_69 flX6_7 sh_49 rfl ?_
  refine v_iconst (v := 1) dX6_comes_72 rfl ?_
  refine v_dup2 dX6_comes_73 rfl rfl ?_
  obtain ⟨v13, e14, h⟩ := Option.bind_eq_some_iff.mp h
  refine v_ild e14 dX6_comes_74 sh_50 ?_
  refine v_iconst (v := 1) dX6_comes_75 rfl ?_
  refine v_iadd dX6_comes_76 ?_
  obtain ⟨M15, e16, h⟩ := Option.bind_eq_some_iff.mp h
  refine v_ist e16 dX6_comes_77 sh_50 ?_
  refine v_iload dX6_comes_78 rfl ?_
  replace h := Option.some.inj h; subst h
  exact v_iret rfl dX6_comes_80
/-! ===== BentPlainModel.walker(III)I ===== -/
def fX6_walker (x1 : Int32) (x2 : Int32) (x3 : Int32) (M : Mem) : Option (Int32 × Mem) := (if (fX6_isKind x1) = 0 then ((fX6_finds (-1000000001 : Int32) M).bind fun w2 => some (w2.1, w2.2)) else ((fX6_isWay x2 x3 M).bind fun v4 => (if v4 = 0 then ((fX6_finds (-1000000001 : Int32) M).bind fun w14 => some (w14.1, w14.2)) else ((ldI M 50 112 (1 : Int32)).bind fun v7 => (if v7 = (6 : Int32) then ((fX6_finds (-1000000002 : Int32) M).bind fun w12 => some (w12.1, w12.2)) else ((fX6_comes x1 x2 x3 M).bind fun w10 => some (w10.1, w10.2)))))))
set_option maxRecDepth 100000 in
set_option maxHeartbeats 4000000 in
theorem sX6_walker {g : Wo} {M : Mem} {x1 : Int32} {x2 : Int32} {x3 : Int32} {r : Int32 × Mem} (h : fX6_walker x1 x2 x3 M = some r) : Sp g kX6_walker 3 [.ref 49, .int x1, .int x2, .int x3] M (some (.int r.1)) r.2 := by
  rw [fX6_walker] at h
  refine Sp_intro (by decide) [some (.ref 49), some (.int x1), some (.int x2), some (.int x3)] rfl (Nat.le_of_ble_eq_true rfl) ?_
  refine v_iload_n dX6_walker_0 rfl ?_
  refine v_callS (as := [.int x1]) (st := []) (sX6_isKind rfl) dX6_walker_1 mlX6_102 (CRn (by decide) (by decide)) rfl rfl (Nat.le_of_ble_eq_true rfl) ?_
  refine v_if_eq (tgt := 16) dX6_walker_4 rfl (fun c1 => ?_) (fun c1 => ?_)
  · replace h := (if_pos c1).symm.trans h
    refine v_aload_n dX6_walker_16 rfl ?_
    refine v_ldc (v := -1000000001) dX6_walker_17 w_809 ?_
    obtain ⟨w2, e3, h⟩ := Option.bind_eq_some_iff.mp h
    refine v_callV (as := [.int (-1000000001 : Int32)]) (st := []) (sX6_finds e3) dX6_walker_19 mlX6_69 (CRn (by decide) (by decide)) sh_49 rfl rfl rfl (Nat.le_of_ble_eq_true rfl) ?_
    replace h := Option.some.inj h; subst h
    exact v_iret rfl dX6_walker_22
  · replace h := (if_neg c1).symm.trans h
    refine v_aload_n dX6_walker_7 rfl ?_
    refine v_iload_n dX6_walker_8 rfl ?_
    refine v_iload_n dX6_walker_9 rfl ?_
    obtain ⟨v4, e5, h⟩ := Option.bind_eq_some_iff.mp h
    refine v_callV (as := [.int x2, .int x3]) (st := []) (sX6_isWay e5) dX6_walker_10 mlX6_88 (CRn (by decide) (by decide)) sh_49 rfl rfl rfl (Nat.le_of_ble_eq_true rfl) ?_
    refine v_if_ne (tgt := 23) dX6_walker_13 rfl (fun c6 => ?_) (fun c6 => ?_)
    · replace h := (if_neg c6).symm.trans h
      refine v_aload_n dX6_walker_23 rfl ?_
      refine v_getr dX6_walker_24 flX6_7 sh_49 rfl ?_
      refine v_iconst (v := 1) dX6_walker_27 rfl ?_
      obtain ⟨v7, e8, h⟩ := Option.bind_eq_some_iff.mp h
      refine v_ild e8 dX6_walker_28 sh_50 ?_
      refine v_bipush (v := 6) dX6_walker_29 rfl ?_
      refine v_icmp_ne (tgt := 43) dX6_walker_31 rfl (fun c9 => ?_) (fun c9 => ?_)
      · replace h := (if_neg c9).symm.trans h
        refine v_aload_n dX6_walker_43 rfl ?_
        refine v_iload_n dX6_walker_44 rfl ?_
        refine v_iload_n dX6_walker_45 rfl ?_
        refine v_iload_n dX6_walker_46 rfl ?_
        obtain ⟨w10, e11, h⟩ := Option.bind_eq_some_iff.mp h
        refine v_callV (as := [.int x1, .int x2, .int x3]) (st := []) (sX6_comes e11) dX6_walker_47 mlX6_105 (CRn (by decide) (by decide)) sh_49 rfl rfl rfl (Nat.le_of_ble_eq_true rfl) ?_
        replace h := Option.some.inj h; subst h
        exact v_iret rfl dX6_walker_50
      · replace h := (if_pos c9).symm.trans h
        refine v_aload_n dX6_walker_34 rfl ?_
        refine v_ldc (v := -1000000002) dX6_walker_35 w_814 ?_
        obtain ⟨w12, e13, h⟩ := Option.bind_eq_some_iff.mp h
        refine v_callV (as := [.int (-1000000002 : Int32)]) (st := []) (sX6_finds e13) dX6_walker_37 mlX6_69 (CRn (by decide) (by decide)) sh_49 rfl rfl rfl (Nat.le_of_ble_eq_true rfl) ?_
        refine v_goto (tgt := 50) dX6_walker_40 rfl ?_
        replace h := Option.some.inj h; subst h
        exact v_iret rfl dX6_walker_50
    · replace h := (if_pos c6).symm.trans h
      refine v_aload_n dX6_walker_16 rfl ?_
      refine v_ldc (v := -1000000001) dX6_walker_17 w_809 ?_
      obtain ⟨w14, e15, h⟩ := Option.bind_eq_some_iff.mp h
      refine v_callV (as := [.int (-1000000001 : Int32)]) (st := []) (sX6_finds e15) dX6_walker_19 mlX6_69 (CRn (by decide) (by decide)) sh_49 rfl rfl rfl (Nat.le_of_ble_eq_true rfl) ?_
      replace h := Option.some.inj h; subst h
      exact v_iret rfl dX6_walker_22
/-! ===== BentPlainModel.isWalker(I)Z ===== -/
def fX6_isWalker (x1 : Int32) (M : Mem) : Option Int32 := ((ldI M 50 112 (1 : Int32)).bind fun v1 => some (fX6_in ((x1).toInt64) (0 : Int64) (((v1 - (1 : Int32))).toInt64)))
set_option maxRecDepth 100000 in
set_option maxHeartbeats 4000000 in
theorem sX6_isWalker {g : Wo} {M : Mem} {x1 : Int32} {r : Int32} (h : fX6_isWalker x1 M = some r) : Sp g kX6_isWalker 1 [.ref 49, .int x1] M (some (.int r)) M := by
  rw [fX6_isWalker] at h
  refine Sp_intro (by decide) [some (.ref 49), some (.int x1)] rfl (Nat.le_of_ble_eq_true rfl) ?_
  refine v_iload_n dX6_isWalker_0 rfl ?_
  refine v_i2l dX6_isWalker_1 ?_
  refine v_lconst (v := 0) dX6_isWalker_2 rfl ?_
  refine v_aload_n dX6_isWalker_3 rfl ?_
  refine v_getr dX6_isWalker_4 flX6_7 sh_49 rfl ?_
  refine v_iconst (v := 1) dX6_isWalker_7 rfl ?_
  obtain ⟨v1, e2, h⟩ := Option.bind_eq_some_iff.mp h
  refine v_ild e2 dX6_isWalker_8 sh_50 ?_
  refine v_iconst (v := 1) dX6_isWalker_9 rfl ?_
  refine v_isub dX6_isWalker_10 ?_
  refine v_i2l dX6_isWalker_11 ?_
  refine v_callS (as := [.long ((x1).toInt64), .long (0 : Int64), .long (((v1 - (1 : Int32))).toInt64)]) (st := []) (sX6_in rfl) dX6_isWalker_12 mlX6_45 (CRn (by decide) (by decide)) rfl rfl (Nat.le_of_ble_eq_true rfl) ?_
  replace h := Option.some.inj h; subst h
  exact v_zret rfl (z_nar (zX6_in ((x1).toInt64) (0 : Int64) (((v1 - (1 : Int32))).toInt64))) dX6_isWalker_15
/-! ===== BentPlainModel.pays(II)I ===== -/
def fX6_pays (x0 : Int32) (x1 : Int32) : Int32 := (if x0 = (2 : Int32) then ((1 : Int32) + (x1 / (3 : Int32))) else (if x0 = (3 : Int32) then (if x1 = (9 : Int32) then (2 : Int32) else (1 : Int32)) else (if x0 = (4 : Int32) then (((1 : Int32) + (x1 / (3 : Int32))) + x1) else (1 : Int32))))
set_option maxRecDepth 100000 in
set_option maxHeartbeats 4000000 in
theorem sX6_pays {g : Wo} {M : Mem} {x0 : Int32} {x1 : Int32} {r : Int32} (h : fX6_pays x0 x1 = r) : Sp g kX6_pays 0 [.int x0, .int x1] M (some (.int r)) M := by
  rw [fX6_pays] at h
  refine Sp_intro (by decide) [some (.int x0), some (.int x1)] rfl (Nat.le_of_ble_eq_true rfl) ?_
  refine v_iload_n dX6_pays_0 rfl ?_
  by_cases c1 : x0 = (2 : Int32)
  · replace h := (if_pos c1).symm.trans h
    refine v_tabIn (off := 27) (tgt := 28) dX6_pays_1 (by rw [c1]; decide) (by rw [c1]; decide) (by rw [c1]; decide) rfl ?_
    refine v_iconst (v := 1) dX6_pays_28 rfl ?_
    refine v_iload_n dX6_pays_29 rfl ?_
    refine v_iconst (v := 3) dX6_pays_30 rfl ?_
    refine v_idiv dX6_pays_31 (by decide) ?_
    refine v_iadd dX6_pays_32 ?_
    subst h
    exact v_iret rfl dX6_pays_33
  · replace h := (if_neg c1).symm.trans h
    by_cases c2 : x0 = (3 : Int32)
    · replace h := (if_pos c2).symm.trans h
      refine v_tabIn (off := 41) (tgt := 42) dX6_pays_1 (by rw [c2]; decide) (by rw [c2]; decide) (by rw [c2]; decide) rfl ?_
      refine v_iload_n dX6_pays_42 rfl ?_
      refine v_bipush (v := 9) dX6_pays_43 rfl ?_
      refine v_icmp_ne (tgt := 52) dX6_pays_45 rfl (fun c3 => ?_) (fun c3 => ?_)
      · replace h := (if_neg c3).symm.trans h
        refine v_iconst (v := 1) dX6_pays_52 rfl ?_
        subst h
        exact v_iret rfl dX6_pays_53
      · replace h := (if_pos c3).symm.trans h
        refine v_iconst (v := 2) dX6_pays_48 rfl ?_
        refine v_goto (tgt := 53) dX6_pays_49 rfl ?_
        subst h
        exact v_iret rfl dX6_pays_53
    · replace h := (if_neg c2).symm.trans h
      by_cases c4 : x0 = (4 : Int32)
      · replace h := (if_pos c4).symm.trans h
        refine v_tabIn (off := 33) (tgt := 34) dX6_pays_1 (by rw [c4]; decide) (by rw [c4]; decide) (by rw [c4]; decide) rfl ?_
        refine v_iconst (v := 1) dX6_pays_34 rfl ?_
        refine v_iload_n dX6_pays_35 rfl ?_
        refine v_iconst (v := 3) dX6_pays_36 rfl ?_
        refine v_idiv dX6_pays_37 (by decide) ?_
        refine v_iadd dX6_pays_38 ?_
        refine v_iload_n dX6_pays_39 rfl ?_
        refine v_iadd dX6_pays_40 ?_
        subst h
        exact v_iret rfl dX6_pays_41
      · replace h := (if_neg c4).symm.trans h
        refine v_tabOut (tgt := 54) dX6_pays_1 ?_ rfl ?_
        · have o0 := i32ne c1
          have o1 := i32ne c2
          have o2 := i32ne c4
          simp only [i32l_2, i32l_3, i32l_4] at o0 o1 o2
          omega
        · refine v_iconst (v := 1) dX6_pays_54 rfl ?_
          subst h
          exact v_iret rfl dX6_pays_55
/-! ===== BentPlainModel.its(II)I ===== -/
def fX6_its (x1 : Int32) (x2 : Int32) (M : Mem) : Option (Int32 × Mem) := ((fX6_isWalker x1 M).bind fun v1 => (if v1 = 0 then ((fX6_finds (-1000000001 : Int32) M).bind fun w4 => some (w4.1, w4.2)) else (if (fX6_in ((x2).toInt64) (0 : Int64) (5 : Int64)) = 0 then ((fX6_finds (-1000000001 : Int32) M).bind fun w16 => some (w16.1, w16.2)) else (if (5 : Int32) ≤ x2 then ((fX6_partOf x1 (0 : Int32) M).bind fun v8 => ((fX6_partOf x1 (1 : Int32) M).bind fun v10 => ((ldI M 50 112 ((2 : Int32) + v10)).bind fun v12 => some ((fX6_pays v8 v12), M)))) else ((fX6_partOf x1 x2 M).bind fun v14 => some (v14, M))))))
set_option maxRecDepth 100000 in
set_option maxHeartbeats 4000000 in
theorem sX6_its {g : Wo} {M : Mem} {x1 : Int32} {x2 : Int32} {r : Int32 × Mem} (h : fX6_its x1 x2 M = some r) : Sp g kX6_its 2 [.ref 49, .int x1, .int x2] M (some (.int r.1)) r.2 := by
  rw [fX6_its] at h
  refine Sp_intro (by decide) [some (.ref 49), some (.int x1), some (.int x2)] rfl (Nat.le_of_ble_eq_true rfl) ?_
  refine v_aload_n dX6_its_0 rfl ?_
  refine v_iload_n dX6_its_1 rfl ?_
  obtain ⟨v1, e2, h⟩ := Option.bind_eq_some_iff.mp h
  refine v_callV (as := [.int x1]) (st := []) (sX6_isWalker e2) dX6_its_2 mlX6_124 (CRn (by decide) (by decide)) sh_49 rfl rfl rfl (Nat.le_of_ble_eq_true rfl) ?_
  refine v_if_eq (tgt := 20) dX6_its_5 rfl (fun c3 => ?_) (fun c3 => ?_)
  · replace h := (if_pos c3).symm.trans h
    refine v_aload_n dX6_its_20 rfl ?_
    refine v_ldc (v := -1000000001) dX6_its_21 w_809 ?_
    obtain ⟨w4, e5, h⟩ := Option.bind_eq_some_iff.mp h
    refine v_callV (as := [.int (-1000000001 : Int32)]) (st := []) (sX6_finds e5) dX6_its_23 mlX6_69 (CRn (by decide) (by decide)) sh_49 rfl rfl rfl (Nat.le_of_ble_eq_true rfl) ?_
    replace h := Option.some.inj h; subst h
    exact v_iret rfl dX6_its_26
  · replace h := (if_neg c3).symm.trans h
    refine v_iload_n dX6_its_8 rfl ?_
    refine v_i2l dX6_its_9 ?_
    refine v_lconst (v := 0) dX6_its_10 rfl ?_
    refine v_ldc2 (v := 5) dX6_its_11 w_888 ?_
    refine v_callS (as := [.long ((x2).toInt64), .long (0 : Int64), .long (5 : Int64)]) (st := []) (sX6_in rfl) dX6_its_14 mlX6_45 (CRn (by decide) (by decide)) rfl rfl (Nat.le_of_ble_eq_true rfl) ?_
    refine v_if_ne (tgt := 27) dX6_its_17 rfl (fun c6 => ?_) (fun c6 => ?_)
    · replace h := (if_neg c6).symm.trans h
      refine v_iload_n dX6_its_27 rfl ?_
      refine v_iconst (v := 5) dX6_its_28 rfl ?_
      refine v_icmp_ge (tgt := 41) dX6_its_29 rfl (fun c7 => ?_) (fun c7 => ?_)
      · replace h := (if_pos c7).symm.trans h
        refine v_aload_n dX6_its_41 rfl ?_
        refine v_iload_n dX6_its_42 rfl ?_
        refine v_iconst (v := 0) dX6_its_43 rfl ?_
        obtain ⟨v8, e9, h⟩ := Option.bind_eq_some_iff.mp h
        refine v_callV (as := [.int x1, .int (0 : Int32)]) (st := []) (sX6_partOf e9) dX6_its_44 mlX6_64 (CRn (by decide) (by decide)) sh_49 rfl rfl rfl (Nat.le_of_ble_eq_true rfl) ?_
        refine v_aload_n dX6_its_47 rfl ?_
        refine v_getr dX6_its_48 flX6_7 sh_49 rfl ?_
        refine v_iconst (v := 2) dX6_its_51 rfl ?_
        refine v_aload_n dX6_its_52 rfl ?_
        refine v_iload_n dX6_its_53 rfl ?_
        refine v_iconst (v := 1) dX6_its_54 rfl ?_
        obtain ⟨v10, e11, h⟩ := Option.bind_eq_some_iff.mp h
        refine v_callV (as := [.int x1, .int (1 : Int32)]) (st := [.int (2 : Int32), .ref 50, .int v8]) (sX6_partOf e11) dX6_its_55 mlX6_64 (CRn (by decide) (by decide)) sh_49 rfl rfl rfl (Nat.le_of_ble_eq_true rfl) ?_
        refine v_iadd dX6_its_58 ?_
        obtain ⟨v12, e13, h⟩ := Option.bind_eq_some_iff.mp h
        refine v_ild e13 dX6_its_59 sh_50 ?_
        refine v_callS (as := [.int v8, .int v12]) (st := []) (sX6_pays rfl) dX6_its_60 mlX6_118 (CRn (by decide) (by decide)) rfl rfl (Nat.le_of_ble_eq_true rfl) ?_
        replace h := Option.some.inj h; subst h
        exact v_iret rfl dX6_its_63
      · replace h := (if_neg c7).symm.trans h
        refine v_aload_n dX6_its_32 rfl ?_
        refine v_iload_n dX6_its_33 rfl ?_
        refine v_iload_n dX6_its_34 rfl ?_
        obtain ⟨v14, e15, h⟩ := Option.bind_eq_some_iff.mp h
        refine v_callV (as := [.int x1, .int x2]) (st := []) (sX6_partOf e15) dX6_its_35 mlX6_64 (CRn (by decide) (by decide)) sh_49 rfl rfl rfl (Nat.le_of_ble_eq_true rfl) ?_
        refine v_goto (tgt := 63) dX6_its_38 rfl ?_
        replace h := Option.some.inj h; subst h
        exact v_iret rfl dX6_its_63
    · replace h := (if_pos c6).symm.trans h
      refine v_aload_n dX6_its_20 rfl ?_
      refine v_ldc (v := -1000000001) dX6_its_21 w_809 ?_
      obtain ⟨w16, e17, h⟩ := Option.bind_eq_some_iff.mp h
      refine v_callV (as := [.int (-1000000001 : Int32)]) (st := []) (sX6_finds e17) dX6_its_23 mlX6_69 (CRn (by decide) (by decide)) sh_49 rfl rfl rfl (Nat.le_of_ble_eq_true rfl) ?_
      replace h := Option.some.inj h; subst h
      exact v_iret rfl dX6_its_26
/-! ===== BentPlainModel.wayOf(I)I ===== -/
def fX6_wayOf (x1 : Int32) (M : Mem) : Option Int32 := ((fX6_partOf x1 (1 : Int32) M).bind fun v1 => ((fX6_partOf x1 (2 : Int32) M).bind fun v3 => some (((4 : Int32) * v1) + v3)))
set_option maxRecDepth 100000 in
set_option maxHeartbeats 4000000 in
theorem sX6_wayOf {g : Wo} {M : Mem} {x1 : Int32} {r : Int32} (h : fX6_wayOf x1 M = some r) : Sp g kX6_wayOf 2 [.ref 49, .int x1] M (some (.int r)) M := by
  rw [fX6_wayOf] at h
  refine Sp_intro (by decide) [some (.ref 49), some (.int x1)] rfl (Nat.le_of_ble_eq_true rfl) ?_
  refine v_iconst (v := 4) dX6_wayOf_0 rfl ?_
  refine v_aload_n dX6_wayOf_1 rfl ?_
  refine v_iload_n dX6_wayOf_2 rfl ?_
  refine v_iconst (v := 1) dX6_wayOf_3 rfl ?_
  obtain ⟨v1, e2, h⟩ := Option.bind_eq_some_iff.mp h
  refine v_callV (as := [.int x1, .int (1 : Int32)]) (st := [.int (4 : Int32)]) (sX6_partOf e2) dX6_wayOf_4 mlX6_64 (CRn (by decide) (by decide)) sh_49 rfl rfl rfl (Nat.le_of_ble_eq_true rfl) ?_
  refine v_imul dX6_wayOf_7 ?_
  refine v_aload_n dX6_wayOf_8 rfl ?_
  refine v_iload_n dX6_wayOf_9 rfl ?_
  refine v_iconst (v := 2) dX6_wayOf_10 rfl ?_
  obtain ⟨v3, e4, h⟩ := Option.bind_eq_some_iff.mp h
  refine v_callV (as := [.int x1, .int (2 : Int32)]) (st := [.int ((4 : Int32) * v1)]) (sX6_partOf e4) dX6_wayOf_11 mlX6_64 (CRn (by decide) (by decide)) sh_49 rfl rfl rfl (Nat.le_of_ble_eq_true rfl) ?_
  refine v_iadd dX6_wayOf_14 ?_
  replace h := Option.some.inj h; subst h
  exact v_iret rfl dX6_wayOf_15
/-! ===== BentPlainModel.stands(II)V ===== -/
def fX6_stands (x1 : Int32) (x2 : Int32) (M : Mem) : Option Mem := ((stI M 50 112 (fX6_spot x1 (1 : Int32)) (x2 / (4 : Int32))).bind fun M1 => ((stI M1 50 112 (fX6_spot x1 (2 : Int32)) (x2 - x2 / (4 : Int32) * (4 : Int32))).bind fun M3 => some M3))
set_option maxRecDepth 100000 in
set_option maxHeartbeats 4000000 in
theorem sX6_stands {g : Wo} {M : Mem} {x1 : Int32} {x2 : Int32} {r : Mem} (h : fX6_stands x1 x2 M = some r) : Sp g kX6_stands 1 [.ref 49, .int x1, .int x2] M none r := by
  rw [fX6_stands] at h
  refine Sp_intro (by decide) [some (.ref 49), some (.int x1), some (.int x2)] rfl (Nat.le_of_ble_eq_true rfl) ?_
  refine v_aload_n dX6_stands_0 rfl ?_
  refine v_getr dX6_stands_1 flX6_7 sh_49 rfl ?_
  refine v_iload_n dX6_stands_4 rfl ?_
  refine v_iconst (v := 1) dX6_stands_5 rfl ?_
  refine v_callS (as := [.int x1, .int (1 : Int32)]) (st := [.ref 50]) (sX6_spot rfl) dX6_stands_6 mlX6_60 (CRn (by decide) (by decide)) rfl rfl (Nat.le_of_ble_eq_true rfl) ?_
  refine v_iload_n dX6_stands_9 rfl ?_
  refine v_iconst (v := 4) dX6_stands_10 rfl ?_
  refine v_idiv dX6_stands_11 (by decide) ?_
  obtain ⟨M1, e2, h⟩ := Option.bind_eq_some_iff.mp h
  refine v_ist e2 dX6_stands_12 sh_50 ?_
  refine v_aload_n dX6_stands_13 rfl ?_
  refine v_getr dX6_stands_14 flX6_7 sh_49 rfl ?_
  refine v_iload_n dX6_stands_17 rfl ?_
  refine v_iconst (v := 2) dX6_stands_18 rfl ?_
  refine v_callS (as := [.int x1, .int (2 : Int32)]) (st := [.ref 50]) (sX6_spot rfl) dX6_stands_19 mlX6_60 (CRn (by decide) (by decide)) rfl rfl (Nat.le_of_ble_eq_true rfl) ?_
  refine v_iload_n dX6_stands_22 rfl ?_
  refine v_iconst (v := 4) dX6_stands_23 rfl ?_
  refine v_irem dX6_stands_24 (by decide) ?_
  obtain ⟨M3, e4, h⟩ := Option.bind_eq_some_iff.mp h
  refine v_ist e4 dX6_stands_25 sh_50 ?_
  replace h := Option.some.inj h; subst h
  exact v_vret rfl dX6_stands_26
/-! ===== BentPlainModel.place(III)I ===== -/
def fX6_place (x1 : Int32) (x2 : Int32) (x3 : Int32) (M : Mem) : Option (Int32 × Mem) := ((fX6_isWalker x1 M).bind fun v1 => (if v1 = 0 then ((fX6_finds (-1000000001 : Int32) M).bind fun w4 => some (w4.1, w4.2)) else ((fX6_isWay x2 x3 M).bind fun v6 => (if v6 = 0 then ((fX6_finds (-1000000001 : Int32) M).bind fun w13 => some (w13.1, w13.2)) else ((fX6_wayOf x1 M).bind fun v9 => ((fX6_stands x1 (((4 : Int32) * x2) + x3) M).bind fun w11 => some (v9, w11)))))))
set_option maxRecDepth 100000 in
set_option maxHeartbeats 4000000 in
theorem sX6_place {g : Wo} {M : Mem} {x1 : Int32} {x2 : Int32} {x3 : Int32} {r : Int32 × Mem} (h : fX6_place x1 x2 x3 M = some r) : Sp g kX6_place 3 [.ref 49, .int x1, .int x2, .int x3] M (some (.int r.1)) r.2 := by
  rw [fX6_place] at h
  refine Sp_intro (by decide) [some (.ref 49), some (.int x1), some (.int x2), some (.int x3), none] rfl (Nat.le_of_ble_eq_true rfl) ?_
  refine v_aload_n dX6_place_0 rfl ?_
  refine v_iload_n dX6_place_1 rfl ?_
  obtain ⟨v1, e2, h⟩ := Option.bind_eq_some_iff.mp h
  refine v_callV (as := [.int x1]) (st := []) (sX6_isWalker e2) dX6_place_2 mlX6_124 (CRn (by decide) (by decide)) sh_49 rfl rfl rfl (Nat.le_of_ble_eq_true rfl) ?_
  refine v_if_eq (tgt := 17) dX6_place_5 rfl (fun c3 => ?_) (fun c3 => ?_)
  · replace h := (if_pos c3).symm.trans h
    refine v_aload_n dX6_place_17 rfl ?_
    refine v_ldc (v := -1000000001) dX6_place_18 w_809 ?_
    obtain ⟨w4, e5, h⟩ := Option.bind_eq_some_iff.mp h
    refine v_callV (as := [.int (-1000000001 : Int32)]) (st := []) (sX6_finds e5) dX6_place_20 mlX6_69 (CRn (by decide) (by decide)) sh_49 rfl rfl rfl (Nat.le_of_ble_eq_true rfl) ?_
    replace h := Option.some.inj h; subst h
    exact v_iret rfl dX6_place_23
  · replace h := (if_neg c3).symm.trans h
    refine v_aload_n dX6_place_8 rfl ?_
    refine v_iload_n dX6_place_9 rfl ?_
    refine v_iload_n dX6_place_10 rfl ?_
    obtain ⟨v6, e7, h⟩ := Option.bind_eq_some_iff.mp h
    refine v_callV (as := [.int x2, .int x3]) (st := []) (sX6_isWay e7) dX6_place_11 mlX6_88 (CRn (by decide) (by decide)) sh_49 rfl rfl rfl (Nat.le_of_ble_eq_true rfl) ?_
    refine v_if_ne (tgt := 24) dX6_place_14 rfl (fun c8 => ?_) (fun c8 => ?_)
    · replace h := (if_neg c8).symm.trans h
      refine v_aload_n dX6_place_24 rfl ?_
      refine v_iload_n dX6_place_25 rfl ?_
      obtain ⟨v9, e10, h⟩ := Option.bind_eq_some_iff.mp h
      refine v_callV (as := [.int x1]) (st := []) (sX6_wayOf e10) dX6_place_26 mlX6_109 (CRn (by decide) (by decide)) sh_49 rfl rfl rfl (Nat.le_of_ble_eq_true rfl) ?_
      refine v_istore (ls1 := [some (.ref 49), some (.int x1), some (.int x2), some (.int x3), some (.int v9)]) dX6_place_29 (Nat.le_of_ble_eq_true rfl) rfl ?_
      refine v_aload_n dX6_place_31 rfl ?_
      refine v_iload_n dX6_place_32 rfl ?_
      refine v_iconst (v := 4) dX6_place_33 rfl ?_
      refine v_iload_n dX6_place_34 rfl ?_
      refine v_imul dX6_place_35 ?_
      refine v_iload_n dX6_place_36 rfl ?_
      refine v_iadd dX6_place_37 ?_
      obtain ⟨w11, e12, h⟩ := Option.bind_eq_some_iff.mp h
      refine v_callV (as := [.int x1, .int (((4 : Int32) * x2) + x3)]) (st := []) (sX6_stands e12) dX6_place_38 mlX6_127 (CRn (by decide) (by decide)) sh_49 rfl rfl rfl (Nat.le_of_ble_eq_true rfl) ?_
      refine v_iload dX6_place_41 rfl ?_
      replace h := Option.some.inj h; subst h
      exact v_iret rfl dX6_place_43
    · replace h := (if_pos c8).symm.trans h
      refine v_aload_n dX6_place_17 rfl ?_
      refine v_ldc (v := -1000000001) dX6_place_18 w_809 ?_
      obtain ⟨w13, e14, h⟩ := Option.bind_eq_some_iff.mp h
      refine v_callV (as := [.int (-1000000001 : Int32)]) (st := []) (sX6_finds e14) dX6_place_20 mlX6_69 (CRn (by decide) (by decide)) sh_49 rfl rfl rfl (Nat.le_of_ble_eq_true rfl) ?_
      replace h := Option.some.inj h; subst h
      exact v_iret rfl dX6_place_23
/-! ===== BentPlainModel.turn(II)I ===== -/
def fX6_turn (x1 : Int32) (x2 : Int32) (M : Mem) : Option (Int32 × Mem) := ((fX6_isWalker x1 M).bind fun v1 => (if v1 = 0 then ((fX6_finds (-1000000001 : Int32) M).bind fun w4 => some (w4.1, w4.2)) else (if (fX6_isKind x2) = 0 then ((fX6_finds (-1000000001 : Int32) M).bind fun w7 => some (w7.1, w7.2)) else ((fX6_becomes (fX6_spot x1 (0 : Int32)) x2 M).bind fun w9 => some (w9.1, w9.2)))))
set_option maxRecDepth 100000 in
set_option maxHeartbeats 4000000 in
theorem sX6_turn {g : Wo} {M : Mem} {x1 : Int32} {x2 : Int32} {r : Int32 × Mem} (h : fX6_turn x1 x2 M = some r) : Sp g kX6_turn 2 [.ref 49, .int x1, .int x2] M (some (.int r.1)) r.2 := by
  rw [fX6_turn] at h
  refine Sp_intro (by decide) [some (.ref 49), some (.int x1), some (.int x2)] rfl (Nat.le_of_ble_eq_true rfl) ?_
  refine v_aload_n dX6_turn_0 rfl ?_
  refine v_iload_n dX6_turn_1 rfl ?_
  obtain ⟨v1, e2, h⟩ := Option.bind_eq_some_iff.mp h
  refine v_callV (as := [.int x1]) (st := []) (sX6_isWalker e2) dX6_turn_2 mlX6_124 (CRn (by decide) (by decide)) sh_49 rfl rfl rfl (Nat.le_of_ble_eq_true rfl) ?_
  refine v_if_eq (tgt := 28) dX6_turn_5 rfl (fun c3 => ?_) (fun c3 => ?_)
  · replace h := (if_pos c3).symm.trans h
    refine v_aload_n dX6_turn_28 rfl ?_
    refine v_ldc (v := -1000000001) dX6_turn_29 w_809 ?_
    obtain ⟨w4, e5, h⟩ := Option.bind_eq_some_iff.mp h
    refine v_callV (as := [.int (-1000000001 : Int32)]) (st := []) (sX6_finds e5) dX6_turn_31 mlX6_69 (CRn (by decide) (by decide)) sh_49 rfl rfl rfl (Nat.le_of_ble_eq_true rfl) ?_
    replace h := Option.some.inj h; subst h
    exact v_iret rfl dX6_turn_34
  · replace h := (if_neg c3).symm.trans h
    refine v_iload_n dX6_turn_8 rfl ?_
    refine v_callS (as := [.int x2]) (st := []) (sX6_isKind rfl) dX6_turn_9 mlX6_102 (CRn (by decide) (by decide)) rfl rfl (Nat.le_of_ble_eq_true rfl) ?_
    refine v_if_eq (tgt := 28) dX6_turn_12 rfl (fun c6 => ?_) (fun c6 => ?_)
    · replace h := (if_pos c6).symm.trans h
      refine v_aload_n dX6_turn_28 rfl ?_
      refine v_ldc (v := -1000000001) dX6_turn_29 w_809 ?_
      obtain ⟨w7, e8, h⟩ := Option.bind_eq_some_iff.mp h
      refine v_callV (as := [.int (-1000000001 : Int32)]) (st := []) (sX6_finds e8) dX6_turn_31 mlX6_69 (CRn (by decide) (by decide)) sh_49 rfl rfl rfl (Nat.le_of_ble_eq_true rfl) ?_
      replace h := Option.some.inj h; subst h
      exact v_iret rfl dX6_turn_34
    · replace h := (if_neg c6).symm.trans h
      refine v_aload_n dX6_turn_15 rfl ?_
      refine v_iload_n dX6_turn_16 rfl ?_
      refine v_iconst (v := 0) dX6_turn_17 rfl ?_
      refine v_callS (as := [.int x1, .int (0 : Int32)]) (st := [.ref 49]) (sX6_spot rfl) dX6_turn_18 mlX6_60 (CRn (by decide) (by decide)) rfl rfl (Nat.le_of_ble_eq_true rfl) ?_
      refine v_iload_n dX6_turn_21 rfl ?_
      obtain ⟨w9, e10, h⟩ := Option.bind_eq_some_iff.mp h
      refine v_callV (as := [.int (fX6_spot x1 (0 : Int32)), .int x2]) (st := []) (sX6_becomes e10) dX6_turn_22 mlX6_85 (CRn (by decide) (by decide)) sh_49 rfl rfl rfl (Nat.le_of_ble_eq_true rfl) ?_
      refine v_goto (tgt := 34) dX6_turn_25 rfl ?_
      replace h := Option.some.inj h; subst h
      exact v_iret rfl dX6_turn_34
