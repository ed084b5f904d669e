/-! ===== BentPlain$Sheet.lowestBits(J)J ===== -/
def fX1_lowestBits (x0 : Nat) (x1 : Int64) (M : Mem) : Int64 := (if (M.1 x0 0) = (8 : Int32) then ((((((x1).toInt32)).toInt8.toInt32)).toInt64) else (if (M.1 x0 0) = (16 : Int32) then ((((((x1).toInt32)).toInt16.toInt32)).toInt64) else x1))
set_option maxRecDepth 100000 in
set_option maxHeartbeats 4000000 in
theorem sX1_lowestBits {g : Wo} {M : Mem} {x0 : Nat} {x1 : Int64} {r : Int64} (hx0 : isS x0) (h : fX1_lowestBits x0 x1 M = r) : Sp g kX1_lowestBits 0 [.ref x0, .long x1] M (some (.long r)) M := by
  rw [fX1_lowestBits] at h
  refine Sp_intro (by decide) [some (.ref x0), some (.long x1), none] rfl (Nat.le_of_ble_eq_true rfl) ?_
  refine v_aload_n dX1_lowestBits_0 rfl ?_
  refine v_geti dX1_lowestBits_1 flX1_15 hx0.1 rfl ?_
  by_cases c1 : (M.1 x0 0) = (8 : Int32)
  · replace h := (if_pos c1).symm.trans h
    refine v_lookup (off := 28) (tgt := 32) dX1_lowestBits_4 (by decide) (by rw [c1]; decide) rfl ?_
    refine v_lload_n dX1_lowestBits_32 rfl ?_
    refine v_l2i dX1_lowestBits_33 ?_
    refine v_i2b dX1_lowestBits_34 ?_
    refine v_i2l dX1_lowestBits_35 ?_
    subst h
    exact v_lret rfl dX1_lowestBits_36
  · replace h := (if_neg c1).symm.trans h
    by_cases c2 : (M.1 x0 0) = (16 : Int32)
    · replace h := (if_pos c2).symm.trans h
      refine v_lookup (off := 33) (tgt := 37) dX1_lowestBits_4 (by decide) (by rw [c2]; decide) rfl ?_
      refine v_lload_n dX1_lowestBits_37 rfl ?_
      refine v_l2i dX1_lowestBits_38 ?_
      refine v_i2s dX1_lowestBits_39 ?_
      refine v_i2l dX1_lowestBits_40 ?_
      subst h
      exact v_lret rfl dX1_lowestBits_41
    · replace h := (if_neg c2).symm.trans h
      refine v_lookup (off := 38) (tgt := 42) dX1_lowestBits_4 (by decide) ?_ rfl ?_
      · have o0 := i32ne c1
        have o1 := i32ne c2
        exact lk2 o0 o1
      · refine v_lload_n dX1_lowestBits_42 rfl ?_
        subst h
        exact v_lret rfl dX1_lowestBits_43
/-! ===== BentPlain.write(IIJ)J ===== -/
def fX5_write (x1 : Int32) (x2 : Int32) (x3 : Int64) (M : Mem) : Option (Int64 × Mem) := ((fX5_sheetFinding x1 M).bind fun v1 => (if v1 = 0 then ((ldS x1).bind fun q4 => (if x2 < 0 then ((fX5_tell (-1000000001 : Int32) M).bind fun w7 => some (((w7.1).toInt64), w7.2)) else (if x2 < (M.1 q4 1) then ((ldJ M (q4 + 1) 40 x2).bind fun v10 => ((stJ M (q4 + 1) 40 x2 (fX1_lowestBits q4 x3 M)).bind fun M12 => some (v10, M12))) else ((fX5_tell (-1000000001 : Int32) M).bind fun w14 => some (((w14.1).toInt64), w14.2))))) else ((fX5_tell v1 M).bind fun w16 => some (((w16.1).toInt64), w16.2))))
set_option maxRecDepth 100000 in
set_option maxHeartbeats 4000000 in
theorem sX5_write {g : Wo} {M : Mem} {x1 : Int32} {x2 : Int32} {x3 : Int64} {r : Int64 × Mem} (h : fX5_write x1 x2 x3 M = some r) : Sp g kX5_write 2 [.ref 0, .int x1, .int x2, .long x3] M (some (.long r.1)) r.2 := by
  rw [fX5_write] at h
  refine Sp_intro (by decide) [some (.ref 0), some (.int x1), some (.int x2), some (.long x3), none, none, none, none, none] rfl (Nat.le_of_ble_eq_true rfl) ?_
  refine v_aload_n dX5_write_0 rfl ?_
  refine v_iload_n dX5_write_1 rfl ?_
  obtain ⟨v1, e2, h⟩ := Option.bind_eq_some_iff.mp h
  refine v_callV (as := [.int x1]) (st := []) (sX5_sheetFinding e2) dX5_write_2 mlX5_259 (CRn (by decide) (by decide)) sh_0 rfl rfl rfl (Nat.le_of_ble_eq_true rfl) ?_
  refine v_istore (ls1 := [some (.ref 0), some (.int x1), some (.int x2), some (.long x3), none, some (.int v1), none, none, none]) dX5_write_5 (Nat.le_of_ble_eq_true rfl) rfl ?_
  refine v_iload dX5_write_7 rfl ?_
  refine v_if_eq (tgt := 20) dX5_write_9 rfl (fun c3 => ?_) (fun c3 => ?_)
  · replace h := (if_pos c3).symm.trans h
    refine v_aload_n dX5_write_20 rfl ?_
    refine v_getr dX5_write_21 flX5_51 sh_0 rfl ?_
    refine v_iload_n dX5_write_24 rfl ?_
    obtain ⟨q4, e5, h⟩ := Option.bind_eq_some_iff.mp h
    refine v_sld e5 dX5_write_25 ?_
    refine v_astore (ls1 := [some (.ref 0), some (.int x1), some (.int x2), some (.long x3), none, some (.int v1), some (.ref q4), none, none]) dX5_write_26 (Nat.le_of_ble_eq_true rfl) rfl ?_
    refine v_iload_n dX5_write_28 rfl ?_
    refine v_if_lt (tgt := 41) dX5_write_29 rfl (fun c6 => ?_) (fun c6 => ?_)
    · replace h := (if_pos c6).symm.trans h
      refine v_aload_n dX5_write_41 rfl ?_
      refine v_ldc (v := -1000000001) dX5_write_42 w_175 ?_
      obtain ⟨w7, e8, h⟩ := Option.bind_eq_some_iff.mp h
      refine v_callV (as := [.int (-1000000001 : Int32)]) (st := []) (sX5_tell e8) dX5_write_44 mlX5_64 (CRn (by decide) (by decide)) sh_0 rfl rfl rfl (Nat.le_of_ble_eq_true rfl) ?_
      refine v_i2l dX5_write_47 ?_
      replace h := Option.some.inj h; subst h
      exact v_lret rfl dX5_write_48
    · replace h := (if_neg c6).symm.trans h
      refine v_iload_n dX5_write_32 rfl ?_
      refine v_aload dX5_write_33 rfl ?_
      refine v_geti dX5_write_35 flX5_256 (ldS_is e5).1 rfl ?_
      refine v_icmp_lt (tgt := 49) dX5_write_38 rfl (fun c9 => ?_) (fun c9 => ?_)
      · replace h := (if_pos c9).symm.trans h
        refine v_aload dX5_write_49 rfl ?_
        refine v_getr dX5_write_51 flX5_262 (ldS_is e5).1 rfl ?_
        refine v_iload_n dX5_write_54 rfl ?_
        obtain ⟨v10, e11, h⟩ := Option.bind_eq_some_iff.mp h
        refine v_lld e11 dX5_write_55 (ldS_is e5).2 ?_
        refine v_lstore (ls1 := [some (.ref 0), some (.int x1), some (.int x2), some (.long x3), none, some (.int v1), some (.ref q4), some (.long v10), none]) dX5_write_56 (Nat.le_of_ble_eq_true rfl) rfl ?_
        refine v_aload dX5_write_58 rfl ?_
        refine v_getr dX5_write_60 flX5_262 (ldS_is e5).1 rfl ?_
        refine v_iload_n dX5_write_63 rfl ?_
        refine v_aload dX5_write_64 rfl ?_
        refine v_lload_n dX5_write_66 rfl ?_
        refine v_callV (as := [.long x3]) (st := [.int x2, .ref (q4 + 1)]) (sX1_lowestBits (ldS_is e5) rfl) dX5_write_67 mlX5_266 (CRn (by decide) (by decide)) (ldS_is e5).1 rfl rfl rfl (Nat.le_of_ble_eq_true rfl) ?_
        obtain ⟨M12, e13, h⟩ := Option.bind_eq_some_iff.mp h
        refine v_lst e13 dX5_write_70 (ldS_is e5).2 ?_
        refine v_lload dX5_write_71 rfl ?_
        replace h := Option.some.inj h; subst h
        exact v_lret rfl dX5_write_73
      · replace h := (if_neg c9).symm.trans h
        refine v_aload_n dX5_write_41 rfl ?_
        refine v_ldc (v := -1000000001) dX5_write_42 w_175 ?_
        obtain ⟨w14, e15, h⟩ := Option.bind_eq_some_iff.mp h
        refine v_callV (as := [.int (-1000000001 : Int32)]) (st := []) (sX5_tell e15) dX5_write_44 mlX5_64 (CRn (by decide) (by decide)) sh_0 rfl rfl rfl (Nat.le_of_ble_eq_true rfl) ?_
        refine v_i2l dX5_write_47 ?_
        replace h := Option.some.inj h; subst h
        exact v_lret rfl dX5_write_48
  · replace h := (if_neg c3).symm.trans h
    refine v_aload_n dX5_write_12 rfl ?_
    refine v_iload dX5_write_13 rfl ?_
    obtain ⟨w16, e17, h⟩ := Option.bind_eq_some_iff.mp h
    refine v_callV (as := [.int v1]) (st := []) (sX5_tell e17) dX5_write_15 mlX5_64 (CRn (by decide) (by decide)) sh_0 rfl rfl rfl (Nat.le_of_ble_eq_true rfl) ?_
    refine v_i2l dX5_write_18 ?_
    replace h := Option.some.inj h; subst h
    exact v_lret rfl dX5_write_19
/-! ===== BentPlain$Sheet.hasRow(II)Z ===== -/
def fX1_hasRow (x0 : Nat) (x1 : Int32) (x2 : Int32) (M : Mem) : Int32 := (if x1 < 0 then (0 : Int32) else (if x2 < 0 then (0 : Int32) else (if (M.1 x0 1) < x2 then (0 : Int32) else (if ((M.1 x0 1) - x2) < x1 then (0 : Int32) else (1 : Int32)))))
set_option maxRecDepth 100000 in
set_option maxHeartbeats 4000000 in
theorem sX1_hasRow {g : Wo} {M : Mem} {x0 : Nat} {x1 : Int32} {x2 : Int32} {r : Int32} (hx0 : isS x0) (h : fX1_hasRow x0 x1 x2 M = r) : Sp g kX1_hasRow 0 [.ref x0, .int x1, .int x2] M (some (.int r)) M := by
  rw [fX1_hasRow] at h
  refine Sp_intro (by decide) [some (.ref x0), some (.int x1), some (.int x2)] rfl (Nat.le_of_ble_eq_true rfl) ?_
  refine v_iload_n dX1_hasRow_0 rfl ?_
  refine v_if_lt (tgt := 30) dX1_hasRow_1 rfl (fun c1 => ?_) (fun c1 => ?_)
  · replace h := (if_pos c1).symm.trans h
    refine v_iconst (v := 0) dX1_hasRow_30 rfl ?_
    subst h
    exact v_zret rfl (z_nar z_0) dX1_hasRow_31
  · replace h := (if_neg c1).symm.trans h
    refine v_iload_n dX1_hasRow_4 rfl ?_
    refine v_if_lt (tgt := 30) dX1_hasRow_5 rfl (fun c2 => ?_) (fun c2 => ?_)
    · replace h := (if_pos c2).symm.trans h
      refine v_iconst (v := 0) dX1_hasRow_30 rfl ?_
      subst h
      exact v_zret rfl (z_nar z_0) dX1_hasRow_31
    · replace h := (if_neg c2).symm.trans h
      refine v_iload_n dX1_hasRow_8 rfl ?_
      refine v_aload_n dX1_hasRow_9 rfl ?_
      refine v_geti dX1_hasRow_10 flX1_19 hx0.1 rfl ?_
      refine v_icmp_gt (tgt := 30) dX1_hasRow_13 rfl (fun c3 => ?_) (fun c3 => ?_)
      · replace h := (if_pos c3).symm.trans h
        refine v_iconst (v := 0) dX1_hasRow_30 rfl ?_
        subst h
        exact v_zret rfl (z_nar z_0) dX1_hasRow_31
      · replace h := (if_neg c3).symm.trans h
        refine v_iload_n dX1_hasRow_16 rfl ?_
        refine v_aload_n dX1_hasRow_17 rfl ?_
        refine v_geti dX1_hasRow_18 flX1_19 hx0.1 rfl ?_
        refine v_iload_n dX1_hasRow_21 rfl ?_
        refine v_isub dX1_hasRow_22 ?_
        refine v_icmp_gt (tgt := 30) dX1_hasRow_23 rfl (fun c4 => ?_) (fun c4 => ?_)
        · replace h := (if_pos c4).symm.trans h
          refine v_iconst (v := 0) dX1_hasRow_30 rfl ?_
          subst h
          exact v_zret rfl (z_nar z_0) dX1_hasRow_31
        · replace h := (if_neg c4).symm.trans h
          refine v_iconst (v := 1) dX1_hasRow_26 rfl ?_
          refine v_goto (tgt := 31) dX1_hasRow_27 rfl ?_
          subst h
          exact v_zret rfl (z_nar z_1) dX1_hasRow_31
/-! ===== BentPlain.copy(IIIII)I ===== -/
def fX5_copy (x1 : Int32) (x2 : Int32) (x3 : Int32) (x4 : Int32) (x5 : Int32) (M : Mem) : Option (Int32 × Mem) := (if (fX5_isSheet x1) = 0 then ((fX5_tell (-1000000001 : Int32) M).bind fun w2 => some (w2.1, w2.2)) else (if (fX5_isSheet x3) = 0 then ((fX5_tell (-1000000001 : Int32) M).bind fun w26 => some (w26.1, w26.2)) else ((ldS x1).bind fun q5 => ((ldS x3).bind fun q7 => (if (M.1 q5 0) = 0 then ((fX5_tell (-1000000006 : Int32) M).bind fun w10 => some (w10.1, w10.2)) else (if (M.1 q7 0) = 0 then ((fX5_tell (-1000000006 : Int32) M).bind fun w24 => some (w24.1, w24.2)) else (if (M.1 q5 0) = (M.1 q7 0) then (if (fX1_hasRow q5 x2 x5 M) = 0 then ((fX5_tell (-1000000001 : Int32) M).bind fun w15 => some (w15.1, w15.2)) else (if (fX1_hasRow q7 x4 x5 M) = 0 then ((fX5_tell (-1000000001 : Int32) M).bind fun w20 => some (w20.1, w20.2)) else ((acJ M (q5 + 1) 40 x2 (q7 + 1) 40 x4 x5).bind fun M18 => some (x5, M18)))) else ((fX5_tell (-1000000003 : Int32) M).bind fun w22 => some (w22.1, w22.2)))))))))
set_option maxRecDepth 100000 in
set_option maxHeartbeats 4000000 in
theorem sX5_copy {g : Wo} {M : Mem} {x1 : Int32} {x2 : Int32} {x3 : Int32} {x4 : Int32} {x5 : Int32} {r : Int32 × Mem} (h : fX5_copy x1 x2 x3 x4 x5 M = some r) : Sp g kX5_copy 1 [.ref 0, .int x1, .int x2, .int x3, .int x4, .int x5] M (some (.int r.1)) r.2 := by
  rw [fX5_copy] at h
  refine Sp_intro (by decide) [some (.ref 0), some (.int x1), some (.int x2), some (.int x3), some (.int x4), some (.int x5), none, none] rfl (Nat.le_of_ble_eq_true rfl) ?_
  refine v_iload_n dX5_copy_0 rfl ?_
  refine v_callS (as := [.int x1]) (st := []) (sX5_isSheet rfl) dX5_copy_1 mlX5_249 (CRn (by decide) (by decide)) rfl rfl (Nat.le_of_ble_eq_true rfl) ?_
  refine v_if_eq (tgt := 14) dX5_copy_4 rfl (fun c1 => ?_) (fun c1 => ?_)
  · replace h := (if_pos c1).symm.trans h
    refine v_aload_n dX5_copy_14 rfl ?_
    refine v_ldc (v := -1000000001) dX5_copy_15 w_175 ?_
    obtain ⟨w2, e3, h⟩ := Option.bind_eq_some_iff.mp h
    refine v_callV (as := [.int (-1000000001 : Int32)]) (st := []) (sX5_tell e3) dX5_copy_17 mlX5_64 (CRn (by decide) (by decide)) sh_0 rfl rfl rfl (Nat.le_of_ble_eq_true rfl) ?_
    replace h := Option.some.inj h; subst h
    exact v_iret rfl dX5_copy_20
  · replace h := (if_neg c1).symm.trans h
    refine v_iload_n dX5_copy_7 rfl ?_
    refine v_callS (as := [.int x3]) (st := []) (sX5_isSheet rfl) dX5_copy_8 mlX5_249 (CRn (by decide) (by decide)) rfl rfl (Nat.le_of_ble_eq_true rfl) ?_
    refine v_if_ne (tgt := 21) dX5_copy_11 rfl (fun c4 => ?_) (fun c4 => ?_)
    · replace h := (if_neg c4).symm.trans h
      refine v_aload_n dX5_copy_21 rfl ?_
      refine v_getr dX5_copy_22 flX5_51 sh_0 rfl ?_
      refine v_iload_n dX5_copy_25 rfl ?_
      obtain ⟨q5, e6, h⟩ := Option.bind_eq_some_iff.mp h
      refine v_sld e6 dX5_copy_26 ?_
      refine v_astore (ls1 := [some (.ref 0), some (.int x1), some (.int x2), some (.int x3), some (.int x4), some (.int x5), some (.ref q5), none]) dX5_copy_27 (Nat.le_of_ble_eq_true rfl) rfl ?_
      refine v_aload_n dX5_copy_29 rfl ?_
      refine v_getr dX5_copy_30 flX5_51 sh_0 rfl ?_
      refine v_iload_n dX5_copy_33 rfl ?_
      obtain ⟨q7, e8, h⟩ := Option.bind_eq_some_iff.mp h
      refine v_sld e8 dX5_copy_34 ?_
      refine v_astore (ls1 := [some (.ref 0), some (.int x1), some (.int x2), some (.int x3), some (.int x4), some (.int x5), some (.ref q5), some (.ref q7)]) dX5_copy_35 (Nat.le_of_ble_eq_true rfl) rfl ?_
      refine v_aload dX5_copy_37 rfl ?_
      refine v_geti dX5_copy_39 flX5_270 (ldS_is e6).1 rfl ?_
      refine v_if_eq (tgt := 53) dX5_copy_42 rfl (fun c9 => ?_) (fun c9 => ?_)
      · replace h := (if_pos c9).symm.trans h
        refine v_aload_n dX5_copy_53 rfl ?_
        refine v_ldcw (v := -1000000006) dX5_copy_54 w_684 ?_
        obtain ⟨w10, e11, h⟩ := Option.bind_eq_some_iff.mp h
        refine v_callV (as := [.int (-1000000006 : Int32)]) (st := []) (sX5_tell e11) dX5_copy_57 mlX5_64 (CRn (by decide) (by decide)) sh_0 rfl rfl rfl (Nat.le_of_ble_eq_true rfl) ?_
        replace h := Option.some.inj h; subst h
        exact v_iret rfl dX5_copy_60
      · replace h := (if_neg c9).symm.trans h
        refine v_aload dX5_copy_45 rfl ?_
        refine v_geti dX5_copy_47 flX5_270 (ldS_is e8).1 rfl ?_
        refine v_if_ne (tgt := 61) dX5_copy_50 rfl (fun c12 => ?_) (fun c12 => ?_)
        · replace h := (if_neg c12).symm.trans h
          refine v_aload dX5_copy_61 rfl ?_
          refine v_geti dX5_copy_63 flX5_270 (ldS_is e6).1 rfl ?_
          refine v_aload dX5_copy_66 rfl ?_
          refine v_geti dX5_copy_68 flX5_270 (ldS_is e8).1 rfl ?_
          refine v_icmp_eq (tgt := 81) dX5_copy_71 rfl (fun c13 => ?_) (fun c13 => ?_)
          · replace h := (if_pos c13).symm.trans h
            refine v_aload dX5_copy_81 rfl ?_
            refine v_iload_n dX5_copy_83 rfl ?_
            refine v_iload dX5_copy_84 rfl ?_
            refine v_callV (as := [.int x2, .int x5]) (st := []) (sX1_hasRow (ldS_is e6) rfl) dX5_copy_86 mlX5_274 (CRn (by decide) (by decide)) (ldS_is e6).1 rfl rfl rfl (Nat.le_of_ble_eq_true rfl) ?_
            refine v_if_eq (tgt := 104) dX5_copy_89 rfl (fun c14 => ?_) (fun c14 => ?_)
            · replace h := (if_pos c14).symm.trans h
              refine v_aload_n dX5_copy_104 rfl ?_
              refine v_ldc (v := -1000000001) dX5_copy_105 w_175 ?_
              obtain ⟨w15, e16, h⟩ := Option.bind_eq_some_iff.mp h
              refine v_callV (as := [.int (-1000000001 : Int32)]) (st := []) (sX5_tell e16) dX5_copy_107 mlX5_64 (CRn (by decide) (by decide)) sh_0 rfl rfl rfl (Nat.le_of_ble_eq_true rfl) ?_
              replace h := Option.some.inj h; subst h
              exact v_iret rfl dX5_copy_110
            · replace h := (if_neg c14).symm.trans h
              refine v_aload dX5_copy_92 rfl ?_
              refine v_iload dX5_copy_94 rfl ?_
              refine v_iload dX5_copy_96 rfl ?_
              refine v_callV (as := [.int x4, .int x5]) (st := []) (sX1_hasRow (ldS_is e8) rfl) dX5_copy_98 mlX5_274 (CRn (by decide) (by decide)) (ldS_is e8).1 rfl rfl rfl (Nat.le_of_ble_eq_true rfl) ?_
              refine v_if_ne (tgt := 111) dX5_copy_101 rfl (fun c17 => ?_) (fun c17 => ?_)
              · replace h := (if_neg c17).symm.trans h
                refine v_aload dX5_copy_111 rfl ?_
                refine v_getr dX5_copy_113 flX5_262 (ldS_is e6).1 rfl ?_
                refine v_iload_n dX5_copy_116 rfl ?_
                refine v_aload dX5_copy_117 rfl ?_
                refine v_getr dX5_copy_119 flX5_262 (ldS_is e8).1 rfl ?_
                refine v_iload dX5_copy_122 rfl ?_
                refine v_iload dX5_copy_124 rfl ?_
                obtain ⟨M18, e19, h⟩ := Option.bind_eq_some_iff.mp h
                refine v_acJ e19 dX5_copy_126 acX5_277 (ldS_is e6).2 (ldS_is e8).2 (Nat.le_of_ble_eq_true rfl) (Nat.le_of_ble_eq_true rfl) ?_
                refine v_iload dX5_copy_129 rfl ?_
                replace h := Option.some.inj h; subst h
                exact v_iret rfl dX5_copy_131
              · replace h := (if_pos c17).symm.trans h
                refine v_aload_n dX5_copy_104 rfl ?_
                refine v_ldc (v := -1000000001) dX5_copy_105 w_175 ?_
                obtain ⟨w20, e21, h⟩ := Option.bind_eq_some_iff.mp h
                refine v_callV (as := [.int (-1000000001 : Int32)]) (st := []) (sX5_tell e21) dX5_copy_107 mlX5_64 (CRn (by decide) (by decide)) sh_0 rfl rfl rfl (Nat.le_of_ble_eq_true rfl) ?_
                replace h := Option.some.inj h; subst h
                exact v_iret rfl dX5_copy_110
          · replace h := (if_neg c13).symm.trans h
            refine v_aload_n dX5_copy_74 rfl ?_
            refine v_ldc (v := -1000000003) dX5_copy_75 w_314 ?_
            obtain ⟨w22, e23, h⟩ := Option.bind_eq_some_iff.mp h
            refine v_callV (as := [.int (-1000000003 : Int32)]) (st := []) (sX5_tell e23) dX5_copy_77 mlX5_64 (CRn (by decide) (by decide)) sh_0 rfl rfl rfl (Nat.le_of_ble_eq_true rfl) ?_
            replace h := Option.some.inj h; subst h
            exact v_iret rfl dX5_copy_80
        · replace h := (if_pos c12).symm.trans h
          refine v_aload_n dX5_copy_53 rfl ?_
          refine v_ldcw (v := -1000000006) dX5_copy_54 w_684 ?_
          obtain ⟨w24, e25, h⟩ := Option.bind_eq_some_iff.mp h
          refine v_callV (as := [.int (-1000000006 : Int32)]) (st := []) (sX5_tell e25) dX5_copy_57 mlX5_64 (CRn (by decide) (by decide)) sh_0 rfl rfl rfl (Nat.le_of_ble_eq_true rfl) ?_
          replace h := Option.some.inj h; subst h
          exact v_iret rfl dX5_copy_60
    · replace h := (if_pos c4).symm.trans h
      refine v_aload_n dX5_copy_14 rfl ?_
      refine v_ldc (v := -1000000001) dX5_copy_15 w_175 ?_
      obtain ⟨w26, e27, h⟩ := Option.bind_eq_some_iff.mp h
      refine v_callV (as := [.int (-1000000001 : Int32)]) (st := []) (sX5_tell e27) dX5_copy_17 mlX5_64 (CRn (by decide) (by decide)) sh_0 rfl rfl rfl (Nat.le_of_ble_eq_true rfl) ?_
      replace h := Option.some.inj h; subst h
      exact v_iret rfl dX5_copy_20
/-! ===== BentPlain.lays(I)I ===== -/
def fX5_lays_29 {ρ : Type} (kx : Int32 → Mem → Option ρ) (y3 : Nat) : Nat → Int32 → Int32 → Mem → Option ρ
  | 0, _, _, _ => none
  | n + 1, y4, y5, M => (if (M.1 y3 1) ≤ y5 then (kx y4 M) else (if (M.1 1 0) ≤ y5 then (kx y4 M) else ((ldJ M (y3 + 1) 40 y5).bind fun v8 => ((if (lg_cmp v8 (0 : Int64)) < 0 then some (y4, M) else (if 0 < (lg_cmp v8 (9 : Int64)) then some (y4, M) else ((fX0_makeRough y5 ((v8).toInt32) M).bind fun w15 => some ((y4 + (1 : Int32)), w15)))).bind fun t12 => (fX5_lays_29 kx y3 n t12.1 (y5 + (1 : Int32)) t12.2)))))
def fX5_lays (x1 : Int32) (M : Mem) : Option (Int32 × Mem) := ((fX5_sheetFinding x1 M).bind fun v1 => (if v1 = 0 then ((ldS x1).bind fun q4 => (fX5_lays_29 (fun u17 M18 => some (u17, M18)) q4 FU (0 : Int32) (0 : Int32) M)) else ((fX5_tell v1 M).bind fun w19 => some (w19.1, w19.2))))
set_option maxRecDepth 100000 in
set_option maxHeartbeats 4000000 in
theorem tX5_lays_29 {g : Wo} {ρ : Type} {kx : Int32 → Mem → Option ρ} {y3 : Nat} (hy3 : isS y3) {r : ρ} {rr : Option Value} {Mr : Mem} (hk : ∀ (z4 : Int32) (Mx : Mem), kx z4 Mx = some r → V g kX5_lays (jm g 2 rr Mr) 96 [none, none, none, none, some (.int z4), none, none, none] [] Mx) : ∀ (n : Nat) (y4 : Int32) (y5 : Int32) (M : Mem), fX5_lays_29 kx y3 n y4 y5 M = some r → V g kX5_lays (jm g 2 rr Mr) 29 [some (.ref 0), none, none, some (.ref y3), some (.int y4), some (.int y5), none, none] [] M := by
  intro n
  induction n with
  | zero =>
    intro y4 y5 M h
    rw [fX5_lays_29] at h
    cases h
  | succ n ih =>
    intro y4 y5 M h
    rw [fX5_lays_29] at h
    refine v_iload dX5_lays_29 rfl ?_
    refine v_aload_n dX5_lays_31 rfl ?_
    refine v_geti dX5_lays_32 flX5_256 hy3.1 rfl ?_
    refine v_icmp_ge (tgt := 96) dX5_lays_35 rfl (fun c6 => ?_) (fun c6 => ?_)
    · replace h := (if_pos c6).symm.trans h
      refine V.sub (ls' := [none, none, none, none, some (.int y4), none, none, none]) (And.intro rfl trivial) ?_
      exact hk _ _ h
    · replace h := (if_neg c6).symm.trans h
      refine v_iload dX5_lays_38 rfl ?_
      refine v_aload_n dX5_lays_40 rfl ?_
      refine v_getr dX5_lays_41 flX5_12 sh_0 rfl ?_
      refine v_geti dX5_lays_44 flX5_68 sh_1 rfl ?_
      refine v_icmp_ge (tgt := 96) dX5_lays_47 rfl (fun c7 => ?_) (fun c7 => ?_)
      · replace h := (if_pos c7).symm.trans h
        refine V.sub (ls' := [none, none, none, none, some (.int y4), none, none, none]) (And.intro rfl trivial) ?_
        exact hk _ _ h
      · replace h := (if_neg c7).symm.trans h
        refine v_aload_n dX5_lays_50 rfl ?_
        refine v_getr dX5_lays_51 flX5_262 hy3.1 rfl ?_
        refine v_iload dX5_lays_54 rfl ?_
        obtain ⟨v8, e9, h⟩ := Option.bind_eq_some_iff.mp h
        refine v_lld e9 dX5_lays_56 hy3.2 ?_
        refine v_lstore (ls1 := [some (.ref 0), none, none, some (.ref y3), some (.int y4), some (.int y5), some (.long v8), none]) dX5_lays_57 (Nat.le_of_ble_eq_true rfl) rfl ?_
        refine v_lload dX5_lays_59 rfl ?_
        refine v_lconst (v := 0) dX5_lays_61 rfl ?_
        refine v_lcmp dX5_lays_62 ?_
        obtain ⟨t12, e13, h⟩ := Option.bind_eq_some_iff.mp h
        have hJ : V g kX5_lays (jm g 2 rr Mr) 90 [some (.ref 0), none, none, some (.ref y3), some (.int t12.1), some (.int y5), none, none] [] t12.2 := by
          refine v_iinc (v := 1) (ls1 := [some (.ref 0), none, none, some (.ref y3), some (.int t12.1), some (.int (y5 + (1 : Int32))), none, none]) dX5_lays_90 rfl rfl (Nat.le_of_ble_eq_true rfl) rfl ?_
          refine v_goto (tgt := 29) dX5_lays_93 rfl ?_
          refine V.sub (ls' := [some (.ref 0), none, none, some (.ref y3), some (.int t12.1), some (.int (y5 + (1 : Int32))), none, none]) (And.intro rfl (And.intro rfl (And.intro rfl (And.intro rfl trivial)))) ?_
          exact ih _ _ _ h
        clear h
        have h := e13
        clear e13
        refine v_if_lt (tgt := 90) dX5_lays_63 rfl (fun c11 => ?_) (fun c11 => ?_)
        · replace h := (if_pos c11).symm.trans h
          replace h := Option.some.inj h; subst h
          refine V.sub (ls' := [some (.ref 0), none, none, some (.ref y3), some (.int y4), some (.int y5), none, none]) (And.intro rfl (And.intro rfl (And.intro rfl (And.intro rfl trivial)))) ?_
          exact hJ
        · replace h := (if_neg c11).symm.trans h
          refine v_lload dX5_lays_66 rfl ?_
          refine v_ldc2 (v := 9) dX5_lays_68 w_702 ?_
          refine v_lcmp dX5_lays_71 ?_
          refine v_if_gt (tgt := 90) dX5_lays_72 rfl (fun c14 => ?_) (fun c14 => ?_)
          · replace h := (if_pos c14).symm.trans h
            replace h := Option.some.inj h; subst h
            refine V.sub (ls' := [some (.ref 0), none, none, some (.ref y3), some (.int y4), some (.int y5), none, none]) (And.intro rfl (And.intro rfl (And.intro rfl (And.intro rfl trivial)))) ?_
            exact hJ
          · replace h := (if_neg c14).symm.trans h
            refine v_aload_n dX5_lays_75 rfl ?_
            refine v_getr dX5_lays_76 flX5_12 sh_0 rfl ?_
            refine v_iload dX5_lays_79 rfl ?_
            refine v_lload dX5_lays_81 rfl ?_
            refine v_l2i dX5_lays_83 ?_
            obtain ⟨w15, e16, h⟩ := Option.bind_eq_some_iff.mp h
            refine v_callV (as := [.int y5, .int ((v8).toInt32)]) (st := []) (sX0_makeRough e16) dX5_lays_84 mlX5_88 (CRn (by decide) (by decide)) sh_1 rfl rfl rfl (Nat.le_of_ble_eq_true rfl) ?_
            refine v_iinc (v := 1) (ls1 := [some (.ref 0), none, none, some (.ref y3), some (.int (y4 + (1 : Int32))), some (.int y5), some (.long v8), none]) dX5_lays_87 rfl rfl (Nat.le_of_ble_eq_true rfl) rfl ?_
            replace h := Option.some.inj h; subst h
            refine V.sub (ls' := [some (.ref 0), none, none, some (.ref y3), some (.int (y4 + (1 : Int32))), some (.int y5), none, none]) (And.intro rfl (And.intro rfl (And.intro rfl (And.intro rfl trivial)))) ?_
            exact hJ
set_option maxRecDepth 100000 in
set_option maxHeartbeats 4000000 in
theorem sX5_lays {g : Wo} {M : Mem} {x1 : Int32} {r : Int32 × Mem} (h : fX5_lays x1 M = some r) : Sp g kX5_lays 2 [.ref 0, .int x1] M (some (.int r.1)) r.2 := by
  rw [fX5_lays] at h
  refine Sp_intro (by decide) [some (.ref 0), some (.int x1), none, none, none, none, none, none] rfl (Nat.le_of_ble_eq_true rfl) ?_
  refine v_aload_n dX5_lays_0 rfl ?_
  refine v_iload_n dX5_lays_1 rfl ?_
  obtain ⟨v1, e2, h⟩ := Option.bind_eq_some_iff.mp h
  refine v_callV (as := [.int x1]) (st := []) (sX5_sheetFinding e2) dX5_lays_2 mlX5_259 (CRn (by decide) (by decide)) sh_0 rfl rfl rfl (Nat.le_of_ble_eq_true rfl) ?_
  refine v_istore_n (ls1 := [some (.ref 0), some (.int x1), some (.int v1), none, none, none, none, none]) dX5_lays_5 (Nat.le_of_ble_eq_true rfl) rfl ?_
  refine v_iload_n dX5_lays_6 rfl ?_
  refine v_if_eq (tgt := 16) dX5_lays_7 rfl (fun c3 => ?_) (fun c3 => ?_)
  · replace h := (if_pos c3).symm.trans h
    refine v_aload_n dX5_lays_16 rfl ?_
    refine v_getr dX5_lays_17 flX5_51 sh_0 rfl ?_
    refine v_iload_n dX5_lays_20 rfl ?_
    obtain ⟨q4, e5, h⟩ := Option.bind_eq_some_iff.mp h
    refine v_sld e5 dX5_lays_21 ?_
    refine v_astore_n (ls1 := [some (.ref 0), some (.int x1), some (.int v1), some (.ref q4), none, none, none, none]) dX5_lays_22 (Nat.le_of_ble_eq_true rfl) rfl ?_
    refine v_iconst (v := 0) dX5_lays_23 rfl ?_
    refine v_istore (ls1 := [some (.ref 0), some (.int x1), some (.int v1), some (.ref q4), some (.int (0 : Int32)), none, none, none]) dX5_lays_24 (Nat.le_of_ble_eq_true rfl) rfl ?_
    refine v_iconst (v := 0) dX5_lays_26 rfl ?_
    refine v_istore (ls1 := [some (.ref 0), some (.int x1), some (.int v1), some (.ref q4), some (.int (0 : Int32)), some (.int (0 : Int32)), none, none]) dX5_lays_27 (Nat.le_of_ble_eq_true rfl) rfl ?_
    refine V.sub (ls' := [some (.ref 0), none, none, some (.ref q4), some (.int (0 : Int32)), some (.int (0 : Int32)), none, none]) (And.intro rfl (And.intro rfl (And.intro rfl (And.intro rfl trivial)))) ?_
    refine tX5_lays_29 (ldS_is e5) (fun u17 M18 h => ?_) FU _ _ _ h
    refine v_iload dX5_lays_96 rfl ?_
    replace h := Option.some.inj h; subst h
    exact v_iret rfl dX5_lays_98
  · replace h := (if_neg c3).symm.trans h
    refine v_aload_n dX5_lays_10 rfl ?_
    refine v_iload_n dX5_lays_11 rfl ?_
    obtain ⟨w19, e20, h⟩ := Option.bind_eq_some_iff.mp h
    refine v_callV (as := [.int v1]) (st := []) (sX5_tell e20) dX5_lays_12 mlX5_64 (CRn (by decide) (by decide)) sh_0 rfl rfl rfl (Nat.le_of_ble_eq_true rfl) ?_
    replace h := Option.some.inj h; subst h
    exact v_iret rfl dX5_lays_15
/-! ===== BentPlain.bookFinding(II)I ===== -/
def fX5_bookFinding (x1 : Int32) (x2 : Int32) (M : Mem) : Option Int32 := ((fX5_sheetFinding x1 M).bind fun v1 => (if v1 = 0 then (if (fX0_hasWalker x2 M) = 0 then some (-1000000001 : Int32) else some (0 : Int32)) else some v1))
set_option maxRecDepth 100000 in
set_option maxHeartbeats 4000000 in
theorem sX5_bookFinding {g : Wo} {M : Mem} {x1 : Int32} {x2 : Int32} {r : Int32} (h : fX5_bookFinding x1 x2 M = some r) : Sp g kX5_bookFinding 2 [.ref 0, .int x1, .int x2] M (some (.int r)) M := by
  rw [fX5_bookFinding] at h
  refine Sp_intro (by decide) [some (.ref 0), some (.int x1), some (.int x2), none] rfl (Nat.le_of_ble_eq_true rfl) ?_
  refine v_aload_n dX5_bookFinding_0 rfl ?_
  refine v_iload_n dX5_bookFinding_1 rfl ?_
  obtain ⟨v1, e2, h⟩ := Option.bind_eq_some_iff.mp h
  refine v_callV (as := [.int x1]) (st := []) (sX5_sheetFinding e2) dX5_bookFinding_2 mlX5_259 (CRn (by decide) (by decide)) sh_0 rfl rfl rfl (Nat.le_of_ble_eq_true rfl) ?_
  refine v_istore_n (ls1 := [some (.ref 0), some (.int x1), some (.int x2), some (.int v1)]) dX5_bookFinding_5 (Nat.le_of_ble_eq_true rfl) rfl ?_
  refine v_iload_n dX5_bookFinding_6 rfl ?_
  refine v_if_eq (tgt := 12) dX5_bookFinding_7 rfl (fun c3 => ?_) (fun c3 => ?_)
  · replace h := (if_pos c3).symm.trans h
    refine v_aload_n dX5_bookFinding_12 rfl ?_
    refine v_getr dX5_bookFinding_13 flX5_12 sh_0 rfl ?_
    refine v_iload_n dX5_bookFinding_16 rfl ?_
    refine v_callV (as := [.int x2]) (st := []) (sX0_hasWalker rfl) dX5_bookFinding_17 mlX5_126 (CRn (by decide) (by decide)) sh_1 rfl rfl rfl (Nat.le_of_ble_eq_true rfl) ?_
    refine v_if_eq (tgt := 27) dX5_bookFinding_20 rfl (fun c4 => ?_) (fun c4 => ?_)
    · replace h := (if_pos c4).symm.trans h
      refine v_ldc (v := -1000000001) dX5_bookFinding_27 w_175 ?_
      replace h := Option.some.inj h; subst h
      exact v_iret rfl dX5_bookFinding_29
    · replace h := (if_neg c4).symm.trans h
      refine v_iconst (v := 0) dX5_bookFinding_23 rfl ?_
      refine v_goto (tgt := 29) dX5_bookFinding_24 rfl ?_
      replace h := Option.some.inj h; subst h
      exact v_iret rfl dX5_bookFinding_29
  · replace h := (if_neg c3).symm.trans h
    refine v_iload_n dX5_bookFinding_10 rfl ?_
    replace h := Option.some.inj h; subst h
    exact v_iret rfl dX5_bookFinding_11
/-! ===== BentPlain.book(II)I ===== -/
def fX5_book_44 {ρ : Type} (kx : Mem → Option ρ) (y4 : Nat) : Nat → Int32 → Mem → Option ρ
  | 0, _, _ => none
  | n + 1, y5, M => (if (M.1 y4 1) ≤ y5 then (kx M) else ((stJ M (y4 + 1) 40 y5 (((fX5_fieldOf (M.1 31 1))).toInt64)).bind fun M11 => ((fX4_move 31 M11).bind fun w13 => (fX5_book_44 kx y4 n (y5 + (1 : Int32)) w13))))
def fX5_book (x1 : Int32) (x2 : Int32) (M : Mem) : Option (Int32 × Mem) := ((fX5_bookFinding x1 x2 M).bind fun v1 => (if v1 = 0 then ((ldS x1).bind fun q4 => ((ldW 1 x2).bind fun q6 => ((fX4_become 31 q6 M).bind fun w8 => (fX5_book_44 (fun M15 => some ((M15.1 q4 1), M15)) q4 FU (0 : Int32) w8)))) else ((fX5_tell v1 M).bind fun w16 => some (w16.1, w16.2))))
set_option maxRecDepth 100000 in
set_option maxHeartbeats 4000000 in
theorem tX5_book_44 {g : Wo} {ρ : Type} {kx : Mem → Option ρ} {y4 : Nat} (hy4 : isS y4) {r : ρ} {rr : Option Value} {Mr : Mem} (hk : ∀ (Mx : Mem), kx Mx = some r → V g kX5_book (jm g 6 rr Mr) 90 [none, none, none, none, some (.ref y4), none] [] Mx) : ∀ (n : Nat) (y5 : Int32) (M : Mem), fX5_book_44 kx y4 n y5 M = some r → V g kX5_book (jm g 6 rr Mr) 44 [some (.ref 0), none, none, none, some (.ref y4), some (.int y5)] [] M := by
  intro n
  induction n with
  | zero =>
    intro y5 M h
    rw [fX5_book_44] at h
    cases h
  | succ n ih =>
    intro y5 M h
    rw [fX5_book_44] at h
    refine v_iload dX5_book_44 rfl ?_
    refine v_aload dX5_book_46 rfl ?_
    refine v_geti dX5_book_48 flX5_256 hy4.1 rfl ?_
    refine v_icmp_ge (tgt := 90) dX5_book_51 rfl (fun c10 => ?_) (fun c10 => ?_)
    · replace h := (if_pos c10).symm.trans h
      refine V.sub (ls' := [none, none, none, none, some (.ref y4), none]) (And.intro rfl trivial) ?_
      exact hk _ h
    · replace h := (if_neg c10).symm.trans h
      refine v_aload dX5_book_54 rfl ?_
      refine v_getr dX5_book_56 flX5_262 hy4.1 rfl ?_
      refine v_iload dX5_book_59 rfl ?_
      refine v_aload_n dX5_book_61 rfl ?_
      refine v_getr dX5_book_62 flX5_25 sh_0 rfl ?_
      refine v_geti dX5_book_65 flX5_136 sh_31 rfl ?_
      refine v_callS (as := [.int (M.1 31 1)]) (st := [.int y5, .ref (y4 + 1)]) (sX5_fieldOf rfl) dX5_book_68 mlX5_139 (CRn (by decide) (by decide)) rfl rfl (Nat.le_of_ble_eq_true rfl) ?_
      refine v_i2l dX5_book_71 ?_
      obtain ⟨M11, e12, h⟩ := Option.bind_eq_some_iff.mp h
      refine v_lst e12 dX5_book_72 hy4.2 ?_
      refine v_aload_n dX5_book_73 rfl ?_
      refine v_getr dX5_book_74 flX5_25 sh_0 rfl ?_
      refine v_aload_n dX5_book_77 rfl ?_
      refine v_getr dX5_book_78 flX5_12 sh_0 rfl ?_
      obtain ⟨w13, e14, h⟩ := Option.bind_eq_some_iff.mp h
      refine v_callV (as := [.ref 1]) (st := []) (sX4_move isW_31 e14) dX5_book_81 mlX5_158 (CRn (by decide) (by decide)) sh_31 rfl rfl rfl (Nat.le_of_ble_eq_true rfl) ?_
      refine v_iinc (v := 1) (ls1 := [some (.ref 0), none, none, none, some (.ref y4), some (.int (y5 + (1 : Int32)))]) dX5_book_84 rfl rfl (Nat.le_of_ble_eq_true rfl) rfl ?_
      refine v_goto (tgt := 44) dX5_book_87 rfl ?_
      refine V.sub (ls' := [some (.ref 0), none, none, none, some (.ref y4), some (.int (y5 + (1 : Int32)))]) (And.intro rfl (And.intro rfl (And.intro rfl trivial))) ?_
      exact ih _ _ h
set_option maxRecDepth 100000 in
set_option maxHeartbeats 4000000 in
theorem sX5_book {g : Wo} {M : Mem} {x1 : Int32} {x2 : Int32} {r : Int32 × Mem} (h : fX5_book x1 x2 M = some r) : Sp g kX5_book 6 [.ref 0, .int x1, .int x2] M (some (.int r.1)) r.2 := by
  rw [fX5_book] at h
  refine Sp_intro (by decide) [some (.ref 0), some (.int x1), some (.int x2), none, none, none] rfl (Nat.le_of_ble_eq_true rfl) ?_
  refine v_aload_n dX5_book_0 rfl ?_
  refine v_iload_n dX5_book_1 rfl ?_
  refine v_iload_n dX5_book_2 rfl ?_
  obtain ⟨v1, e2, h⟩ := Option.bind_eq_some_iff.mp h
  refine v_callV (as := [.int x1, .int x2]) (st := []) (sX5_bookFinding e2) dX5_book_3 mlX5_285 (CRn (by decide) (by decide)) sh_0 rfl rfl rfl (Nat.le_of_ble_eq_true rfl) ?_
  refine v_istore_n (ls1 := [some (.ref 0), some (.int x1), some (.int x2), some (.int v1), none, none]) dX5_book_6 (Nat.le_of_ble_eq_true rfl) rfl ?_
  refine v_iload_n dX5_book_7 rfl ?_
  refine v_if_eq (tgt := 17) dX5_book_8 rfl (fun c3 => ?_) (fun c3 => ?_)
  · replace h := (if_pos c3).symm.trans h
    refine v_aload_n dX5_book_17 rfl ?_
    refine v_getr dX5_book_18 flX5_51 sh_0 rfl ?_
    refine v_iload_n dX5_book_21 rfl ?_
    obtain ⟨q4, e5, h⟩ := Option.bind_eq_some_iff.mp h
    refine v_sld e5 dX5_book_22 ?_
    refine v_astore (ls1 := [some (.ref 0), some (.int x1), some (.int x2), some (.int v1), some (.ref q4), none]) dX5_book_23 (Nat.le_of_ble_eq_true rfl) rfl ?_
    refine v_aload_n dX5_book_25 rfl ?_
    refine v_getr dX5_book_26 flX5_25 sh_0 rfl ?_
    refine v_aload_n dX5_book_29 rfl ?_
    refine v_getr dX5_book_30 flX5_12 sh_0 rfl ?_
    refine v_getr dX5_book_33 flX5_129 sh_1 rfl ?_
    refine v_iload_n dX5_book_36 rfl ?_
    obtain ⟨q6, e7, h⟩ := Option.bind_eq_some_iff.mp h
    refine v_wld (r := 1) e7 dX5_book_37 isG_1 ?_
    obtain ⟨w8, e9, h⟩ := Option.bind_eq_some_iff.mp h
    refine v_callV (as := [.ref q6]) (st := []) (sX4_become isW_31 (ldW_is isG_1 e7) e9) dX5_book_38 mlX5_173 (CRn (by decide) (by decide)) sh_31 rfl rfl rfl (Nat.le_of_ble_eq_true rfl) ?_
    refine v_iconst (v := 0) dX5_book_41 rfl ?_
    refine v_istore (ls1 := [some (.ref 0), some (.int x1), some (.int x2), some (.int v1), some (.ref q4), some (.int (0 : Int32))]) dX5_book_42 (Nat.le_of_ble_eq_true rfl) rfl ?_
    refine V.sub (ls' := [some (.ref 0), none, none, none, some (.ref q4), some (.int (0 : Int32))]) (And.intro rfl (And.intro rfl (And.intro rfl trivial))) ?_
    refine tX5_book_44 (ldS_is e5) (fun M15 h => ?_) FU _ _ h
    refine v_aload dX5_book_90 rfl ?_
    refine v_geti dX5_book_92 flX5_256 (ldS_is e5).1 rfl ?_
    replace h := Option.some.inj h; subst h
    exact v_iret rfl dX5_book_95
  · replace h := (if_neg c3).symm.trans h
    refine v_aload_n dX5_book_11 rfl ?_
    refine v_iload_n dX5_book_12 rfl ?_
    obtain ⟨w16, e17, h⟩ := Option.bind_eq_some_iff.mp h
    refine v_callV (as := [.int v1]) (st := []) (sX5_tell e17) dX5_book_13 mlX5_64 (CRn (by decide) (by decide)) sh_0 rfl rfl rfl (Nat.le_of_ble_eq_true rfl) ?_
    replace h := Option.some.inj h; subst h
    exact v_iret rfl dX5_book_16
/-! ===== BentPlain.goesByBook(LBentPlain$Sheet;)Z ===== -/
def fX5_goesByBook_2 (kx : Mem → Option (Int32 × Mem)) (y1 : Nat) : Nat → Int32 → Mem → Option (Int32 × Mem)
  | 0, _, _ => none
  | n + 1, y2, M => (if (M.1 y1 1) ≤ y2 then (kx M) else ((ldJ M (y1 + 1) 40 y2).bind fun v2 => (if (lg_cmp v2 (((fX5_fieldOf (M.1 31 1))).toInt64)) = 0 then ((fX4_move 31 M).bind fun w5 => (fX5_goesByBook_2 kx y1 n (y2 + (1 : Int32)) w5)) else some ((0 : Int32), M))))
def fX5_goesByBook (x1 : Nat) (M : Mem) : Option (Int32 × Mem) := (fX5_goesByBook_2 (fun M7 => some ((1 : Int32), M7)) x1 FU (0 : Int32) M)
set_option maxRecDepth 100000 in
set_option maxHeartbeats 4000000 in
theorem tX5_goesByBook_2 {g : Wo} {kx : Mem → Option (Int32 × Mem)} {y1 : Nat} (hy1 : isS y1) {r : Int32 × Mem} (hk : ∀ (Mx : Mem), kx Mx = some r → V g kX5_goesByBook (jm g 6 (some (.int r.1)) r.2) 50 [none, none, none] [] Mx) : ∀ (n : Nat) (y2 : Int32) (M : Mem), fX5_goesByBook_2 kx y1 n y2 M = some r → V g kX5_goesByBook (jm g 6 (some (.int r.1)) r.2) 2 [some (.ref 0), some (.ref y1), some (.int y2)] [] M := by
  intro n
  induction n with
  | zero =>
    intro y2 M h
    rw [fX5_goesByBook_2] at h
    cases h
  | succ n ih =>
    intro y2 M h
    rw [fX5_goesByBook_2] at h
    refine v_iload_n dX5_goesByBook_2 rfl ?_
    refine v_aload_n dX5_goesByBook_3 rfl ?_
    refine v_geti dX5_goesByBook_4 flX5_256 hy1.1 rfl ?_
    refine v_icmp_ge (tgt := 50) dX5_goesByBook_7 rfl (fun c1 => ?_) (fun c1 => ?_)
    · replace h := (if_pos c1).symm.trans h
      refine V.sub (ls' := [none, none, none]) trivial ?_
      exact hk _ h
    · replace h := (if_neg c1).symm.trans h
      refine v_aload_n dX5_goesByBook_10 rfl ?_
      refine v_getr dX5_goesByBook_11 flX5_262 hy1.1 rfl ?_
      refine v_iload_n dX5_goesByBook_14 rfl ?_
      obtain ⟨v2, e3, h⟩ := Option.bind_eq_some_iff.mp h
      refine v_lld e3 dX5_goesByBook_15 hy1.2 ?_
      refine v_aload_n dX5_goesByBook_16 rfl ?_
      refine v_getr dX5_goesByBook_17 flX5_25 sh_0 rfl ?_
      refine v_geti dX5_goesByBook_20 flX5_136 sh_31 rfl ?_
      refine v_callS (as := [.int (M.1 31 1)]) (st := [.long v2]) (sX5_fieldOf rfl) dX5_goesByBook_23 mlX5_139 (CRn (by decide) (by decide)) rfl rfl (Nat.le_of_ble_eq_true rfl) ?_
      refine v_i2l dX5_goesByBook_26 ?_
      refine v_lcmp dX5_goesByBook_27 ?_
      refine v_if_eq (tgt := 33) dX5_goesByBook_28 rfl (fun c4 => ?_) (fun c4 => ?_)
      · replace h := (if_pos c4).symm.trans h
        refine v_aload_n dX5_goesByBook_33 rfl ?_
        refine v_getr dX5_goesByBook_34 flX5_25 sh_0 rfl ?_
        refine v_aload_n dX5_goesByBook_37 rfl ?_
        refine v_getr dX5_goesByBook_38 flX5_12 sh_0 rfl ?_
        obtain ⟨w5, e6, h⟩ := Option.bind_eq_some_iff.mp h
        refine v_callV (as := [.ref 1]) (st := []) (sX4_move isW_31 e6) dX5_goesByBook_41 mlX5_158 (CRn (by decide) (by decide)) sh_31 rfl rfl rfl (Nat.le_of_ble_eq_true rfl) ?_
        refine v_iinc (v := 1) (ls1 := [some (.ref 0), some (.ref y1), some (.int (y2 + (1 : Int32)))]) dX5_goesByBook_44 rfl rfl (Nat.le_of_ble_eq_true rfl) rfl ?_
        refine v_goto (tgt := 2) dX5_goesByBook_47 rfl ?_
        refine V.sub (ls' := [some (.ref 0), some (.ref y1), some (.int (y2 + (1 : Int32)))]) (And.intro rfl (And.intro rfl (And.intro rfl trivial))) ?_
        exact ih _ _ h
      · replace h := (if_neg c4).symm.trans h
        refine v_iconst (v := 0) dX5_goesByBook_31 rfl ?_
        replace h := Option.some.inj h; subst h
        exact v_zret rfl (z_nar z_0) dX5_goesByBook_32
set_option maxRecDepth 100000 in
set_option maxHeartbeats 4000000 in
theorem sX5_goesByBook {g : Wo} {M : Mem} {x1 : Nat} {r : Int32 × Mem} (hx1 : isS x1) (h : fX5_goesByBook x1 M = some r) : Sp g kX5_goesByBook 6 [.ref 0, .ref x1] M (some (.int r.1)) r.2 := by
  rw [fX5_goesByBook] at h
  refine Sp_intro (by decide) [some (.ref 0), some (.ref x1), none] rfl (Nat.le_of_ble_eq_true rfl) ?_
  refine v_iconst (v := 0) dX5_goesByBook_0 rfl ?_
  refine v_istore_n (ls1 := [some (.ref 0), some (.ref x1), some (.int (0 : Int32))]) dX5_goesByBook_1 (Nat.le_of_ble_eq_true rfl) rfl ?_
  refine V.sub (ls' := [some (.ref 0), some (.ref x1), some (.int (0 : Int32))]) (And.intro rfl (And.intro rfl (And.intro rfl trivial))) ?_
  refine tX5_goesByBook_2 hx1 (fun M7 h => ?_) FU _ _ h
  refine v_iconst (v := 1) dX5_goesByBook_50 rfl ?_
  replace h := Option.some.inj h; subst h
  exact v_zret rfl (z_nar z_1) dX5_goesByBook_51
/-! ===== BentPlain.read(II)I ===== -/
def fX5_read_23 {ρ : Type} (kx : Int32 → Mem → Option ρ) (y1 : Int32) (y2 : Int32) : Nat → Int32 → Int32 → Mem → Option ρ
  | 0, _, _, _ => none
  | n + 1, y4, y5, M => (if (fX0_ways M) ≤ y5 then (kx y4 M) else ((ldW 1 y2).bind fun q5 => ((fX4_become 31 q5 M).bind fun w7 => ((ldS y1).bind fun q9 => ((fX5_goesByBook q9 (setI w7 31 1 y5)).bind fun w11 => (fX5_read_23 kx y1 y2 n (if w11.1 = 0 then y4 else (y4 + (1 : Int32))) (y5 + (1 : Int32)) w11.2))))))
def fX5_read (x1 : Int32) (x2 : Int32) (M : Mem) : Option (Int32 × Mem) := ((fX5_bookFinding x1 x2 M).bind fun v1 => (if v1 = 0 then (fX5_read_23 (fun u14 M15 => some (u14, M15)) x1 x2 FU (0 : Int32) (0 : Int32) M) else ((fX5_tell v1 M).bind fun w16 => some (w16.1, w16.2))))
set_option maxRecDepth 100000 in
set_option maxHeartbeats 4000000 in
theorem tX5_read_23 {g : Wo} {ρ : Type} {kx : Int32 → Mem → Option ρ} {y1 : Int32} {y2 : Int32} {r : ρ} {rr : Option Value} {Mr : Mem} (hk : ∀ (z4 : Int32) (Mx : Mem), kx z4 Mx = some r → V g kX5_read (jm g 7 rr Mr) 82 [none, none, none, none, some (.int z4), none] [] Mx) : ∀ (n : Nat) (y4 : Int32) (y5 : Int32) (M : Mem), fX5_read_23 kx y1 y2 n y4 y5 M = some r → V g kX5_read (jm g 7 rr Mr) 23 [some (.ref 0), some (.int y1), some (.int y2), none, some (.int y4), some (.int y5)] [] M := by
  intro n
  induction n with
  | zero =>
    intro y4 y5 M h
    rw [fX5_read_23] at h
    cases h
  | succ n ih =>
    intro y4 y5 M h
    rw [fX5_read_23] at h
    refine v_iload dX5_read_23 rfl ?_
    refine v_aload_n dX5_read_25 rfl ?_
    refine v_getr dX5_read_26 flX5_12 sh_0 rfl ?_
    refine v_callV (as := []) (st := [.int y5]) (sX0_ways rfl) dX5_read_29 mlX5_207 (CRn (by decide) (by decide)) sh_1 rfl rfl rfl (Nat.le_of_ble_eq_true rfl) ?_
    refine v_icmp_ge (tgt := 82) dX5_read_32 rfl (fun c4 => ?_) (fun c4 => ?_)
    · replace h := (if_pos c4).symm.trans h
      refine V.sub (ls' := [none, none, none, none, some (.int y4), none]) (And.intro rfl trivial) ?_
      exact hk _ _ h
    · replace h := (if_neg c4).symm.trans h
      refine v_aload_n dX5_read_35 rfl ?_
      refine v_getr dX5_read_36 flX5_25 sh_0 rfl ?_
      refine v_aload_n dX5_read_39 rfl ?_
      refine v_getr dX5_read_40 flX5_12 sh_0 rfl ?_
      refine v_getr dX5_read_43 flX5_129 sh_1 rfl ?_
      refine v_iload_n dX5_read_46 rfl ?_
      obtain ⟨q5, e6, h⟩ := Option.bind_eq_some_iff.mp h
      refine v_wld (r := 1) e6 dX5_read_47 isG_1 ?_
      obtain ⟨w7, e8, h⟩ := Option.bind_eq_some_iff.mp h
      refine v_callV (as := [.ref q5]) (st := []) (sX4_become isW_31 (ldW_is isG_1 e6) e8) dX5_read_48 mlX5_173 (CRn (by decide) (by decide)) sh_31 rfl rfl rfl (Nat.le_of_ble_eq_true rfl) ?_
      refine v_aload_n dX5_read_51 rfl ?_
      refine v_getr dX5_read_52 flX5_25 sh_0 rfl ?_
      refine v_iload dX5_read_55 rfl ?_
      refine v_puti dX5_read_57 fpX5_136 sh_31 rfl ?_
      refine v_aload_n dX5_read_60 rfl ?_
      refine v_aload_n dX5_read_61 rfl ?_
      refine v_getr dX5_read_62 flX5_51 sh_0 rfl ?_
      refine v_iload_n dX5_read_65 rfl ?_
      obtain ⟨q9, e10, h⟩ := Option.bind_eq_some_iff.mp h
      refine v_sld e10 dX5_read_66 ?_
      obtain ⟨w11, e12, h⟩ := Option.bind_eq_some_iff.mp h
      refine v_callV (as := [.ref q9]) (st := []) (sX5_goesByBook (ldS_is e10) e12) dX5_read_67 mlX5_288 (CRn (by decide) (by decide)) sh_0 rfl rfl rfl (Nat.le_of_ble_eq_true rfl) ?_
      have hJ : V g kX5_read (jm g 7 rr Mr) 76 [some (.ref 0), some (.int y1), some (.int y2), none, some (.int (if w11.1 = 0 then y4 else (y4 + (1 : Int32)))), some (.int y5)] [] w11.2 := by
        refine v_iinc (v := 1) (ls1 := [some (.ref 0), some (.int y1), some (.int y2), none, some (.int (if w11.1 = 0 then y4 else (y4 + (1 : Int32)))), some (.int (y5 + (1 : Int32)))]) dX5_read_76 rfl rfl (Nat.le_of_ble_eq_true rfl) rfl ?_
        refine v_goto (tgt := 23) dX5_read_79 rfl ?_
        refine V.sub (ls' := [some (.ref 0), some (.int y1), some (.int y2), none, some (.int (if w11.1 = 0 then y4 else (y4 + (1 : Int32)))), some (.int (y5 + (1 : Int32)))]) (And.intro rfl (And.intro rfl (And.intro rfl (And.intro rfl (And.intro rfl trivial))))) ?_
        exact ih _ _ _ h
      refine v_if_eq (tgt := 76) dX5_read_70 rfl (fun c13 => ?_) (fun c13 => ?_)
      · refine V.sub (ls' := [some (.ref 0), some (.int y1), some (.int y2), none, some (.int y4), some (.int y5)]) (And.intro rfl (And.intro rfl (And.intro rfl (And.intro rfl (And.intro rfl trivial))))) ?_
        first | (simp only [if_pos c13] at hJ; exact hJ) | exact hJ | (simp only [if_pos c13] at hJ ⊢; exact hJ)
      · refine v_iinc (v := 1) (ls1 := [some (.ref 0), some (.int y1), some (.int y2), none, some (.int (y4 + (1 : Int32))), some (.int y5)]) dX5_read_73 rfl rfl (Nat.le_of_ble_eq_true rfl) rfl ?_
        refine V.sub (ls' := [some (.ref 0), some (.int y1), some (.int y2), none, some (.int (y4 + (1 : Int32))), some (.int y5)]) (And.intro rfl (And.intro rfl (And.intro rfl (And.intro rfl (And.intro rfl trivial))))) ?_
        first | (simp only [if_neg c13] at hJ; exact hJ) | exact hJ | (simp only [if_neg c13] at hJ ⊢; exact hJ)
set_option maxRecDepth 100000 in
set_option maxHeartbeats 4000000 in
theorem sX5_read {g : Wo} {M : Mem} {x1 : Int32} {x2 : Int32} {r : Int32 × Mem} (h : fX5_read x1 x2 M = some r) : Sp g kX5_read 7 [.ref 0, .int x1, .int x2] M (some (.int r.1)) r.2 := by
  rw [fX5_read] at h
  refine Sp_intro (by decide) [some (.ref 0), some (.int x1), some (.int x2), none, none, none] rfl (Nat.le_of_ble_eq_true rfl) ?_
  refine v_aload_n dX5_read_0 rfl ?_
  refine v_iload_n dX5_read_1 rfl ?_
  refine v_iload_n dX5_read_2 rfl ?_
  obtain ⟨v1, e2, h⟩ := Option.bind_eq_some_iff.mp h
  refine v_callV (as := [.int x1, .int x2]) (st := []) (sX5_bookFinding e2) dX5_read_3 mlX5_285 (CRn (by decide) (by decide)) sh_0 rfl rfl rfl (Nat.le_of_ble_eq_true rfl) ?_
  refine v_istore_n (ls1 := [some (.ref 0), some (.int x1), some (.int x2), some (.int v1), none, none]) dX5_read_6 (Nat.le_of_ble_eq_true rfl) rfl ?_
  refine v_iload_n dX5_read_7 rfl ?_
  refine v_if_eq (tgt := 17) dX5_read_8 rfl (fun c3 => ?_) (fun c3 => ?_)
  · replace h := (if_pos c3).symm.trans h
    refine v_iconst (v := 0) dX5_read_17 rfl ?_
    refine v_istore (ls1 := [some (.ref 0), some (.int x1), some (.int x2), some (.int v1), some (.int (0 : Int32)), none]) dX5_read_18 (Nat.le_of_ble_eq_true rfl) rfl ?_
    refine v_iconst (v := 0) dX5_read_20 rfl ?_
    refine v_istore (ls1 := [some (.ref 0), some (.int x1), some (.int x2), some (.int v1), some (.int (0 : Int32)), some (.int (0 : Int32))]) dX5_read_21 (Nat.le_of_ble_eq_true rfl) rfl ?_
    refine V.sub (ls' := [some (.ref 0), some (.int x1), some (.int x2), none, some (.int (0 : Int32)), some (.int (0 : Int32))]) (And.intro rfl (And.intro rfl (And.intro rfl (And.intro rfl (And.intro rfl trivial))))) ?_
    refine tX5_read_23 (fun u14 M15 h => ?_) FU _ _ _ h
    refine v_iload dX5_read_82 rfl ?_
    replace h := Option.some.inj h; subst h
    exact v_iret rfl dX5_read_84
  · replace h := (if_neg c3).symm.trans h
    refine v_aload_n dX5_read_11 rfl ?_
    refine v_iload_n dX5_read_12 rfl ?_
    obtain ⟨w16, e17, h⟩ := Option.bind_eq_some_iff.mp h
    refine v_callV (as := [.int v1]) (st := []) (sX5_tell e17) dX5_read_13 mlX5_64 (CRn (by decide) (by decide)) sh_0 rfl rfl rfl (Nat.le_of_ble_eq_true rfl) ?_
    replace h := Option.some.inj h; subst h
    exact v_iret rfl dX5_read_16
