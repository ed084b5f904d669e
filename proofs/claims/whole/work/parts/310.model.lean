/-! ===== BentPlainModel.write(IIJ)J ===== -/
def fX6_write (x1 : Int32) (x2 : Int32) (x3 : Int64) (M : Mem) : Option (Int64 × Mem) := ((fX6_wrong x1 M).bind fun v1 => (if v1 = 0 then ((ldI M 58 4 x1).bind fun v4 => (if (fX6_in ((x2).toInt64) (0 : Int64) (((v4 - (1 : Int32))).toInt64)) = 0 then ((fX6_finds (-1000000001 : Int32) M).bind fun w13 => some (((w13.1).toInt64), w13.2)) else ((ldJ M 59 160 (((40 : Int32) * x1) + x2)).bind fun v7 => ((ldI M 57 4 x1).bind fun v9 => ((stJ M 59 160 (((40 : Int32) * x1) + x2) (fX6_narrowed v9 x3)).bind fun M11 => some (v7, M11)))))) else ((fX6_finds v1 M).bind fun w15 => some (((w15.1).toInt64), w15.2))))
set_option maxRecDepth 100000 in
set_option maxHeartbeats 4000000 in
theorem sX6_write {g : Wo} {M : Mem} {x1 : Int32} {x2 : Int32} {x3 : Int64} {r : Int64 × Mem} (h : fX6_write x1 x2 x3 M = some r) : Sp g kX6_write 3 [.ref 49, .int x1, .int x2, .long x3] M (some (.long r.1)) r.2 := by
  rw [fX6_write] at h
  refine Sp_intro (by decide) [some (.ref 49), some (.int x1), some (.int x2), some (.long x3), none, none, none, none] rfl (Nat.le_of_ble_eq_true rfl) ?_
  refine v_aload_n dX6_write_0 rfl ?_
  refine v_iload_n dX6_write_1 rfl ?_
  obtain ⟨v1, e2, h⟩ := Option.bind_eq_some_iff.mp h
  refine v_callV (as := [.int x1]) (st := []) (sX6_wrong e2) dX6_write_2 mlX6_303 (CRn (by decide) (by decide)) sh_49 rfl rfl rfl (Nat.le_of_ble_eq_true rfl) ?_
  refine v_istore (ls1 := [some (.ref 49), some (.int x1), some (.int x2), some (.long x3), none, some (.int v1), none, none]) dX6_write_5 (Nat.le_of_ble_eq_true rfl) rfl ?_
  refine v_iload dX6_write_7 rfl ?_
  refine v_if_eq (tgt := 20) dX6_write_9 rfl (fun c3 => ?_) (fun c3 => ?_)
  · replace h := (if_pos c3).symm.trans h
    refine v_iload_n dX6_write_20 rfl ?_
    refine v_i2l dX6_write_21 ?_
    refine v_lconst (v := 0) dX6_write_22 rfl ?_
    refine v_aload_n dX6_write_23 rfl ?_
    refine v_getr dX6_write_24 flX6_34 sh_49 rfl ?_
    refine v_iload_n dX6_write_27 rfl ?_
    obtain ⟨v4, e5, h⟩ := Option.bind_eq_some_iff.mp h
    refine v_ild e5 dX6_write_28 sh_58 ?_
    refine v_iconst (v := 1) dX6_write_29 rfl ?_
    refine v_isub dX6_write_30 ?_
    refine v_i2l dX6_write_31 ?_
    refine v_callS (as := [.long ((x2).toInt64), .long (0 : Int64), .long (((v4 - (1 : Int32))).toInt64)]) (st := []) (sX6_in rfl) dX6_write_32 mlX6_45 (CRn (by decide) (by decide)) rfl rfl (Nat.le_of_ble_eq_true rfl) ?_
    refine v_if_ne (tgt := 46) dX6_write_35 rfl (fun c6 => ?_) (fun c6 => ?_)
    · replace h := (if_neg c6).symm.trans h
      refine v_aload_n dX6_write_46 rfl ?_
      refine v_getr dX6_write_47 flX6_37 sh_49 rfl ?_
      refine v_bipush (v := 40) dX6_write_50 rfl ?_
      refine v_iload_n dX6_write_52 rfl ?_
      refine v_imul dX6_write_53 ?_
      refine v_iload_n dX6_write_54 rfl ?_
      refine v_iadd dX6_write_55 ?_
      obtain ⟨v7, e8, h⟩ := Option.bind_eq_some_iff.mp h
      refine v_lld e8 dX6_write_56 sh_59 ?_
      refine v_lstore (ls1 := [some (.ref 49), some (.int x1), some (.int x2), some (.long x3), none, some (.int v1), some (.long v7), none]) dX6_write_57 (Nat.le_of_ble_eq_true rfl) rfl ?_
      refine v_aload_n dX6_write_59 rfl ?_
      refine v_getr dX6_write_60 flX6_37 sh_49 rfl ?_
      refine v_bipush (v := 40) dX6_write_63 rfl ?_
      refine v_iload_n dX6_write_65 rfl ?_
      refine v_imul dX6_write_66 ?_
      refine v_iload_n dX6_write_67 rfl ?_
      refine v_iadd dX6_write_68 ?_
      refine v_aload_n dX6_write_69 rfl ?_
      refine v_getr dX6_write_70 flX6_31 sh_49 rfl ?_
      refine v_iload_n dX6_write_73 rfl ?_
      obtain ⟨v9, e10, h⟩ := Option.bind_eq_some_iff.mp h
      refine v_ild e10 dX6_write_74 sh_57 ?_
      refine v_lload_n dX6_write_75 rfl ?_
      refine v_callS (as := [.int v9, .long x3]) (st := [.int (((40 : Int32) * x1) + x2), .ref 59]) (sX6_narrowed rfl) dX6_write_76 mlX6_306 (CRn (by decide) (by decide)) rfl rfl (Nat.le_of_ble_eq_true rfl) ?_
      obtain ⟨M11, e12, h⟩ := Option.bind_eq_some_iff.mp h
      refine v_lst e12 dX6_write_79 sh_59 ?_
      refine v_lload dX6_write_80 rfl ?_
      replace h := Option.some.inj h; subst h
      exact v_lret rfl dX6_write_82
    · replace h := (if_pos c6).symm.trans h
      refine v_aload_n dX6_write_38 rfl ?_
      refine v_ldc (v := -1000000001) dX6_write_39 w_809 ?_
      obtain ⟨w13, e14, h⟩ := Option.bind_eq_some_iff.mp h
      refine v_callV (as := [.int (-1000000001 : Int32)]) (st := []) (sX6_finds e14) dX6_write_41 mlX6_69 (CRn (by decide) (by decide)) sh_49 rfl rfl rfl (Nat.le_of_ble_eq_true rfl) ?_
      refine v_i2l dX6_write_44 ?_
      replace h := Option.some.inj h; subst h
      exact v_lret rfl dX6_write_45
  · replace h := (if_neg c3).symm.trans h
    refine v_aload_n dX6_write_12 rfl ?_
    refine v_iload dX6_write_13 rfl ?_
    obtain ⟨w15, e16, h⟩ := Option.bind_eq_some_iff.mp h
    refine v_callV (as := [.int v1]) (st := []) (sX6_finds e16) dX6_write_15 mlX6_69 (CRn (by decide) (by decide)) sh_49 rfl rfl rfl (Nat.le_of_ble_eq_true rfl) ?_
    refine v_i2l dX6_write_18 ?_
    replace h := Option.some.inj h; subst h
    exact v_lret rfl dX6_write_19
/-! ===== BentPlainModel.copy(IIIII)I ===== -/
def fX6_copy_120 {ρ : Type} (kx : Mem → Option ρ) (y1 : Int32) (y2 : Int32) (y3 : Int32) (y4 : Int32) (y5 : Int32) : Nat → Int32 → Mem → Option ρ
  | 0, _, _ => none
  | n + 1, y6, M => (if y5 ≤ y6 then (kx M) else ((ldJ M 59 160 ((((40 : Int32) * y1) + y2) + y6)).bind fun v36 => ((stJ M 38 40 y6 v36).bind fun M38 => (fX6_copy_120 kx y1 y2 y3 y4 y5 n (y6 + (1 : Int32)) M38))))
def fX6_copy_157 {ρ : Type} (kx : Mem → Option ρ) (y3 : Int32) (y4 : Int32) (y5 : Int32) : Nat → Int32 → Mem → Option ρ
  | 0, _, _ => none
  | n + 1, y6, M => (if y5 ≤ y6 then (kx M) else ((ldJ M 38 40 y6).bind fun v42 => ((stJ M 59 160 ((((40 : Int32) * y3) + y4) + y6) v42).bind fun M44 => (fX6_copy_157 kx y3 y4 y5 n (y6 + (1 : Int32)) M44))))
def fX6_copy (x1 : Int32) (x2 : Int32) (x3 : Int32) (x4 : Int32) (x5 : Int32) (M : Mem) : Option (Int32 × Mem) := (if (fX6_isOne x1) = 0 then ((fX6_finds (-1000000001 : Int32) M).bind fun w2 => some (w2.1, w2.2)) else (if (fX6_isOne x3) = 0 then ((fX6_finds (-1000000001 : Int32) M).bind fun w53 => some (w53.1, w53.2)) else ((ldI M 57 4 x1).bind fun v5 => (if v5 = 0 then ((fX6_finds (-1000000006 : Int32) M).bind fun w8 => some (w8.1, w8.2)) else ((ldI M 57 4 x3).bind fun v10 => (if v10 = 0 then ((fX6_finds (-1000000006 : Int32) M).bind fun w51 => some (w51.1, w51.2)) else ((ldI M 57 4 x1).bind fun v13 => ((ldI M 57 4 x3).bind fun v15 => (if v13 = v15 then (if x2 < 0 then ((fX6_finds (-1000000001 : Int32) M).bind fun w19 => some (w19.1, w19.2)) else (if x4 < 0 then ((fX6_finds (-1000000001 : Int32) M).bind fun w22 => some (w22.1, w22.2)) else (if x5 < 0 then ((fX6_finds (-1000000001 : Int32) M).bind fun w25 => some (w25.1, w25.2)) else ((ldI M 58 4 x1).bind fun v27 => (if (v27 - x2) < x5 then ((fX6_finds (-1000000001 : Int32) M).bind fun w30 => some (w30.1, w30.2)) else ((ldI M 58 4 x3).bind fun v32 => (if x5 ≤ (v32 - x4) then (fX6_copy_120 (fun M40 => (fX6_copy_157 (fun M46 => some (x5, M46)) x3 x4 x5 FU (0 : Int32) M40)) x1 x2 x3 x4 x5 FU (0 : Int32) M) else ((fX6_finds (-1000000001 : Int32) M).bind fun w47 => some (w47.1, w47.2))))))))) else ((fX6_finds (-1000000003 : Int32) M).bind fun w49 => some (w49.1, w49.2)))))))))))
set_option maxRecDepth 100000 in
set_option maxHeartbeats 4000000 in
theorem tX6_copy_120 {g : Wo} {ρ : Type} {kx : Mem → Option ρ} {y1 : Int32} {y2 : Int32} {y3 : Int32} {y4 : Int32} {y5 : Int32} {r : ρ} {rr : Option Value} {Mr : Mem} (hk : ∀ (Mx : Mem), kx Mx = some r → V g kX6_copy (jm g 2 rr Mr) 154 [some (.ref 49), none, none, some (.int y3), some (.int y4), some (.int y5), none] [] Mx) : ∀ (n : Nat) (y6 : Int32) (M : Mem), fX6_copy_120 kx y1 y2 y3 y4 y5 n y6 M = some r → V g kX6_copy (jm g 2 rr Mr) 120 [some (.ref 49), some (.int y1), some (.int y2), some (.int y3), some (.int y4), some (.int y5), some (.int y6)] [] M := by
  intro n
  induction n with
  | zero =>
    intro y6 M h
    rw [fX6_copy_120] at h
    cases h
  | succ n ih =>
    intro y6 M h
    rw [fX6_copy_120] at h
    refine v_iload dX6_copy_120 rfl ?_
    refine v_iload dX6_copy_122 rfl ?_
    refine v_icmp_ge (tgt := 154) dX6_copy_124 rfl (fun c35 => ?_) (fun c35 => ?_)
    · replace h := (if_pos c35).symm.trans h
      refine V.sub (ls' := [some (.ref 49), none, none, some (.int y3), some (.int y4), some (.int y5), none]) (And.intro rfl (And.intro rfl (And.intro rfl (And.intro rfl trivial)))) ?_
      exact hk _ h
    · replace h := (if_neg c35).symm.trans h
      refine v_aload_n dX6_copy_127 rfl ?_
      refine v_getr dX6_copy_128 flX6_41 sh_49 rfl ?_
      refine v_iload dX6_copy_131 rfl ?_
      refine v_aload_n dX6_copy_133 rfl ?_
      refine v_getr dX6_copy_134 flX6_37 sh_49 rfl ?_
      refine v_bipush (v := 40) dX6_copy_137 rfl ?_
      refine v_iload_n dX6_copy_139 rfl ?_
      refine v_imul dX6_copy_140 ?_
      refine v_iload_n dX6_copy_141 rfl ?_
      refine v_iadd dX6_copy_142 ?_
      refine v_iload dX6_copy_143 rfl ?_
      refine v_iadd dX6_copy_145 ?_
      obtain ⟨v36, e37, h⟩ := Option.bind_eq_some_iff.mp h
      refine v_lld e37 dX6_copy_146 sh_59 ?_
      obtain ⟨M38, e39, h⟩ := Option.bind_eq_some_iff.mp h
      refine v_lst e39 dX6_copy_147 sh_38 ?_
      refine v_iinc (v := 1) (ls1 := [some (.ref 49), some (.int y1), some (.int y2), some (.int y3), some (.int y4), some (.int y5), some (.int (y6 + (1 : Int32)))]) dX6_copy_148 rfl rfl (Nat.le_of_ble_eq_true rfl) rfl ?_
      refine v_goto (tgt := 120) dX6_copy_151 rfl ?_
      refine V.sub (ls' := [some (.ref 49), some (.int y1), some (.int y2), some (.int y3), some (.int y4), some (.int y5), some (.int (y6 + (1 : Int32)))]) (And.intro rfl (And.intro rfl (And.intro rfl (And.intro rfl (And.intro rfl (And.intro rfl (And.intro rfl trivial))))))) ?_
      exact ih _ _ h
set_option maxRecDepth 100000 in
set_option maxHeartbeats 4000000 in
theorem tX6_copy_157 {g : Wo} {ρ : Type} {kx : Mem → Option ρ} {y3 : Int32} {y4 : Int32} {y5 : Int32} {r : ρ} {rr : Option Value} {Mr : Mem} (hk : ∀ (Mx : Mem), kx Mx = some r → V g kX6_copy (jm g 2 rr Mr) 192 [none, none, none, none, none, some (.int y5), none] [] Mx) : ∀ (n : Nat) (y6 : Int32) (M : Mem), fX6_copy_157 kx y3 y4 y5 n y6 M = some r → V g kX6_copy (jm g 2 rr Mr) 157 [some (.ref 49), none, none, some (.int y3), some (.int y4), some (.int y5), some (.int y6)] [] M := by
  intro n
  induction n with
  | zero =>
    intro y6 M h
    rw [fX6_copy_157] at h
    cases h
  | succ n ih =>
    intro y6 M h
    rw [fX6_copy_157] at h
    refine v_iload dX6_copy_157 rfl ?_
    refine v_iload dX6_copy_159 rfl ?_
    refine v_icmp_ge (tgt := 192) dX6_copy_161 rfl (fun c41 => ?_) (fun c41 => ?_)
    · replace h := (if_pos c41).symm.trans h
      refine V.sub (ls' := [none, none, none, none, none, some (.int y5), none]) (And.intro rfl trivial) ?_
      exact hk _ h
    · replace h := (if_neg c41).symm.trans h
      refine v_aload_n dX6_copy_164 rfl ?_
      refine v_getr dX6_copy_165 flX6_37 sh_49 rfl ?_
      refine v_bipush (v := 40) dX6_copy_168 rfl ?_
      refine v_iload_n dX6_copy_170 rfl ?_
      refine v_imul dX6_copy_171 ?_
      refine v_iload dX6_copy_172 rfl ?_
      refine v_iadd dX6_copy_174 ?_
      refine v_iload dX6_copy_175 rfl ?_
      refine v_iadd dX6_copy_177 ?_
      refine v_aload_n dX6_copy_178 rfl ?_
      refine v_getr dX6_copy_179 flX6_41 sh_49 rfl ?_
      refine v_iload dX6_copy_182 rfl ?_
      obtain ⟨v42, e43, h⟩ := Option.bind_eq_some_iff.mp h
      refine v_lld e43 dX6_copy_184 sh_38 ?_
      obtain ⟨M44, e45, h⟩ := Option.bind_eq_some_iff.mp h
      refine v_lst e45 dX6_copy_185 sh_59 ?_
      refine v_iinc (v := 1) (ls1 := [some (.ref 49), none, none, some (.int y3), some (.int y4), some (.int y5), some (.int (y6 + (1 : Int32)))]) dX6_copy_186 rfl rfl (Nat.le_of_ble_eq_true rfl) rfl ?_
      refine v_goto (tgt := 157) dX6_copy_189 rfl ?_
      refine V.sub (ls' := [some (.ref 49), none, none, some (.int y3), some (.int y4), some (.int y5), some (.int (y6 + (1 : Int32)))]) (And.intro rfl (And.intro rfl (And.intro rfl (And.intro rfl (And.intro rfl trivial))))) ?_
      exact ih _ _ h
set_option maxRecDepth 100000 in
set_option maxHeartbeats 4000000 in
theorem sX6_copy {g : Wo} {M : Mem} {x1 : Int32} {x2 : Int32} {x3 : Int32} {x4 : Int32} {x5 : Int32} {r : Int32 × Mem} (h : fX6_copy x1 x2 x3 x4 x5 M = some r) : Sp g kX6_copy 2 [.ref 49, .int x1, .int x2, .int x3, .int x4, .int x5] M (some (.int r.1)) r.2 := by
  rw [fX6_copy] at h
  refine Sp_intro (by decide) [some (.ref 49), some (.int x1), some (.int x2), some (.int x3), some (.int x4), some (.int x5), none] rfl (Nat.le_of_ble_eq_true rfl) ?_
  refine v_iload_n dX6_copy_0 rfl ?_
  refine v_callS (as := [.int x1]) (st := []) (sX6_isOne rfl) dX6_copy_1 mlX6_298 (CRn (by decide) (by decide)) rfl rfl (Nat.le_of_ble_eq_true rfl) ?_
  refine v_if_eq (tgt := 14) dX6_copy_4 rfl (fun c1 => ?_) (fun c1 => ?_)
  · replace h := (if_pos c1).symm.trans h
    refine v_aload_n dX6_copy_14 rfl ?_
    refine v_ldc (v := -1000000001) dX6_copy_15 w_809 ?_
    obtain ⟨w2, e3, h⟩ := Option.bind_eq_some_iff.mp h
    refine v_callV (as := [.int (-1000000001 : Int32)]) (st := []) (sX6_finds e3) dX6_copy_17 mlX6_69 (CRn (by decide) (by decide)) sh_49 rfl rfl rfl (Nat.le_of_ble_eq_true rfl) ?_
    replace h := Option.some.inj h; subst h
    exact v_iret rfl dX6_copy_20
  · replace h := (if_neg c1).symm.trans h
    refine v_iload_n dX6_copy_7 rfl ?_
    refine v_callS (as := [.int x3]) (st := []) (sX6_isOne rfl) dX6_copy_8 mlX6_298 (CRn (by decide) (by decide)) rfl rfl (Nat.le_of_ble_eq_true rfl) ?_
    refine v_if_ne (tgt := 21) dX6_copy_11 rfl (fun c4 => ?_) (fun c4 => ?_)
    · replace h := (if_neg c4).symm.trans h
      refine v_aload_n dX6_copy_21 rfl ?_
      refine v_getr dX6_copy_22 flX6_31 sh_49 rfl ?_
      refine v_iload_n dX6_copy_25 rfl ?_
      obtain ⟨v5, e6, h⟩ := Option.bind_eq_some_iff.mp h
      refine v_ild e6 dX6_copy_26 sh_57 ?_
      refine v_if_eq (tgt := 39) dX6_copy_27 rfl (fun c7 => ?_) (fun c7 => ?_)
      · replace h := (if_pos c7).symm.trans h
        refine v_aload_n dX6_copy_39 rfl ?_
        refine v_ldcw (v := -1000000006) dX6_copy_40 w_1205 ?_
        obtain ⟨w8, e9, h⟩ := Option.bind_eq_some_iff.mp h
        refine v_callV (as := [.int (-1000000006 : Int32)]) (st := []) (sX6_finds e9) dX6_copy_43 mlX6_69 (CRn (by decide) (by decide)) sh_49 rfl rfl rfl (Nat.le_of_ble_eq_true rfl) ?_
        replace h := Option.some.inj h; subst h
        exact v_iret rfl dX6_copy_46
      · replace h := (if_neg c7).symm.trans h
        refine v_aload_n dX6_copy_30 rfl ?_
        refine v_getr dX6_copy_31 flX6_31 sh_49 rfl ?_
        refine v_iload_n dX6_copy_34 rfl ?_
        obtain ⟨v10, e11, h⟩ := Option.bind_eq_some_iff.mp h
        refine v_ild e11 dX6_copy_35 sh_57 ?_
        refine v_if_ne (tgt := 47) dX6_copy_36 rfl (fun c12 => ?_) (fun c12 => ?_)
        · replace h := (if_neg c12).symm.trans h
          refine v_aload_n dX6_copy_47 rfl ?_
          refine v_getr dX6_copy_48 flX6_31 sh_49 rfl ?_
          refine v_iload_n dX6_copy_51 rfl ?_
          obtain ⟨v13, e14, h⟩ := Option.bind_eq_some_iff.mp h
          refine v_ild e14 dX6_copy_52 sh_57 ?_
          refine v_aload_n dX6_copy_53 rfl ?_
          refine v_getr dX6_copy_54 flX6_31 sh_49 rfl ?_
          refine v_iload_n dX6_copy_57 rfl ?_
          obtain ⟨v15, e16, h⟩ := Option.bind_eq_some_iff.mp h
          refine v_ild e16 dX6_copy_58 sh_57 ?_
          refine v_icmp_eq (tgt := 69) dX6_copy_59 rfl (fun c17 => ?_) (fun c17 => ?_)
          · replace h := (if_pos c17).symm.trans h
            refine v_iload_n dX6_copy_69 rfl ?_
            refine v_if_lt (tgt := 110) dX6_copy_70 rfl (fun c18 => ?_) (fun c18 => ?_)
            · replace h := (if_pos c18).symm.trans h
              refine v_aload_n dX6_copy_110 rfl ?_
              refine v_ldc (v := -1000000001) dX6_copy_111 w_809 ?_
              obtain ⟨w19, e20, h⟩ := Option.bind_eq_some_iff.mp h
              refine v_callV (as := [.int (-1000000001 : Int32)]) (st := []) (sX6_finds e20) dX6_copy_113 mlX6_69 (CRn (by decide) (by decide)) sh_49 rfl rfl rfl (Nat.le_of_ble_eq_true rfl) ?_
              replace h := Option.some.inj h; subst h
              exact v_iret rfl dX6_copy_116
            · replace h := (if_neg c18).symm.trans h
              refine v_iload dX6_copy_73 rfl ?_
              refine v_if_lt (tgt := 110) dX6_copy_75 rfl (fun c21 => ?_) (fun c21 => ?_)
              · replace h := (if_pos c21).symm.trans h
                refine v_aload_n dX6_copy_110 rfl ?_
                refine v_ldc (v := -1000000001) dX6_copy_111 w_809 ?_
                obtain ⟨w22, e23, h⟩ := Option.bind_eq_some_iff.mp h
                refine v_callV (as := [.int (-1000000001 : Int32)]) (st := []) (sX6_finds e23) dX6_copy_113 mlX6_69 (CRn (by decide) (by decide)) sh_49 rfl rfl rfl (Nat.le_of_ble_eq_true rfl) ?_
                replace h := Option.some.inj h; subst h
                exact v_iret rfl dX6_copy_116
              · replace h := (if_neg c21).symm.trans h
                refine v_iload dX6_copy_78 rfl ?_
                refine v_if_lt (tgt := 110) dX6_copy_80 rfl (fun c24 => ?_) (fun c24 => ?_)
                · replace h := (if_pos c24).symm.trans h
                  refine v_aload_n dX6_copy_110 rfl ?_
                  refine v_ldc (v := -1000000001) dX6_copy_111 w_809 ?_
                  obtain ⟨w25, e26, h⟩ := Option.bind_eq_some_iff.mp h
                  refine v_callV (as := [.int (-1000000001 : Int32)]) (st := []) (sX6_finds e26) dX6_copy_113 mlX6_69 (CRn (by decide) (by decide)) sh_49 rfl rfl rfl (Nat.le_of_ble_eq_true rfl) ?_
                  replace h := Option.some.inj h; subst h
                  exact v_iret rfl dX6_copy_116
                · replace h := (if_neg c24).symm.trans h
                  refine v_iload dX6_copy_83 rfl ?_
                  refine v_aload_n dX6_copy_85 rfl ?_
                  refine v_getr dX6_copy_86 flX6_34 sh_49 rfl ?_
                  refine v_iload_n dX6_copy_89 rfl ?_
                  obtain ⟨v27, e28, h⟩ := Option.bind_eq_some_iff.mp h
                  refine v_ild e28 dX6_copy_90 sh_58 ?_
                  refine v_iload_n dX6_copy_91 rfl ?_
                  refine v_isub dX6_copy_92 ?_
                  refine v_icmp_gt (tgt := 110) dX6_copy_93 rfl (fun c29 => ?_) (fun c29 => ?_)
                  · replace h := (if_pos c29).symm.trans h
                    refine v_aload_n dX6_copy_110 rfl ?_
                    refine v_ldc (v := -1000000001) dX6_copy_111 w_809 ?_
                    obtain ⟨w30, e31, h⟩ := Option.bind_eq_some_iff.mp h
                    refine v_callV (as := [.int (-1000000001 : Int32)]) (st := []) (sX6_finds e31) dX6_copy_113 mlX6_69 (CRn (by decide) (by decide)) sh_49 rfl rfl rfl (Nat.le_of_ble_eq_true rfl) ?_
                    replace h := Option.some.inj h; subst h
                    exact v_iret rfl dX6_copy_116
                  · replace h := (if_neg c29).symm.trans h
                    refine v_iload dX6_copy_96 rfl ?_
                    refine v_aload_n dX6_copy_98 rfl ?_
                    refine v_getr dX6_copy_99 flX6_34 sh_49 rfl ?_
                    refine v_iload_n dX6_copy_102 rfl ?_
                    obtain ⟨v32, e33, h⟩ := Option.bind_eq_some_iff.mp h
                    refine v_ild e33 dX6_copy_103 sh_58 ?_
                    refine v_iload dX6_copy_104 rfl ?_
                    refine v_isub dX6_copy_106 ?_
                    refine v_icmp_le (tgt := 117) dX6_copy_107 rfl (fun c34 => ?_) (fun c34 => ?_)
                    · replace h := (if_pos c34).symm.trans h
                      refine v_iconst (v := 0) dX6_copy_117 rfl ?_
                      refine v_istore (ls1 := [some (.ref 49), some (.int x1), some (.int x2), some (.int x3), some (.int x4), some (.int x5), some (.int (0 : Int32))]) dX6_copy_118 (Nat.le_of_ble_eq_true rfl) rfl ?_
                      refine V.sub (ls' := [some (.ref 49), some (.int x1), some (.int x2), some (.int x3), some (.int x4), some (.int x5), some (.int (0 : Int32))]) (And.intro rfl (And.intro rfl (And.intro rfl (And.intro rfl (And.intro rfl (And.intro rfl (And.intro rfl trivial))))))) ?_
                      refine tX6_copy_120 (fun M40 h => ?_) FU _ _ h
                      refine v_iconst (v := 0) dX6_copy_154 rfl ?_
                      refine v_istore (ls1 := [some (.ref 49), none, none, some (.int x3), some (.int x4), some (.int x5), some (.int (0 : Int32))]) dX6_copy_155 (Nat.le_of_ble_eq_true rfl) rfl ?_
                      refine V.sub (ls' := [some (.ref 49), none, none, some (.int x3), some (.int x4), some (.int x5), some (.int (0 : Int32))]) (And.intro rfl (And.intro rfl (And.intro rfl (And.intro rfl (And.intro rfl trivial))))) ?_
                      refine tX6_copy_157 (fun M46 h => ?_) FU _ _ h
                      refine v_iload dX6_copy_192 rfl ?_
                      replace h := Option.some.inj h; subst h
                      exact v_iret rfl dX6_copy_194
                    · replace h := (if_neg c34).symm.trans h
                      refine v_aload_n dX6_copy_110 rfl ?_
                      refine v_ldc (v := -1000000001) dX6_copy_111 w_809 ?_
                      obtain ⟨w47, e48, h⟩ := Option.bind_eq_some_iff.mp h
                      refine v_callV (as := [.int (-1000000001 : Int32)]) (st := []) (sX6_finds e48) dX6_copy_113 mlX6_69 (CRn (by decide) (by decide)) sh_49 rfl rfl rfl (Nat.le_of_ble_eq_true rfl) ?_
                      replace h := Option.some.inj h; subst h
                      exact v_iret rfl dX6_copy_116
          · replace h := (if_neg c17).symm.trans h
            refine v_aload_n dX6_copy_62 rfl ?_
            refine v_ldc (v := -1000000003) dX6_copy_63 w_927 ?_
            obtain ⟨w49, e50, h⟩ := Option.bind_eq_some_iff.mp h
            refine v_callV (as := [.int (-1000000003 : Int32)]) (st := []) (sX6_finds e50) dX6_copy_65 mlX6_69 (CRn (by decide) (by decide)) sh_49 rfl rfl rfl (Nat.le_of_ble_eq_true rfl) ?_
            replace h := Option.some.inj h; subst h
            exact v_iret rfl dX6_copy_68
        · replace h := (if_pos c12).symm.trans h
          refine v_aload_n dX6_copy_39 rfl ?_
          refine v_ldcw (v := -1000000006) dX6_copy_40 w_1205 ?_
          obtain ⟨w51, e52, h⟩ := Option.bind_eq_some_iff.mp h
          refine v_callV (as := [.int (-1000000006 : Int32)]) (st := []) (sX6_finds e52) dX6_copy_43 mlX6_69 (CRn (by decide) (by decide)) sh_49 rfl rfl rfl (Nat.le_of_ble_eq_true rfl) ?_
          replace h := Option.some.inj h; subst h
          exact v_iret rfl dX6_copy_46
    · replace h := (if_pos c4).symm.trans h
      refine v_aload_n dX6_copy_14 rfl ?_
      refine v_ldc (v := -1000000001) dX6_copy_15 w_809 ?_
      obtain ⟨w53, e54, h⟩ := Option.bind_eq_some_iff.mp h
      refine v_callV (as := [.int (-1000000001 : Int32)]) (st := []) (sX6_finds e54) dX6_copy_17 mlX6_69 (CRn (by decide) (by decide)) sh_49 rfl rfl rfl (Nat.le_of_ble_eq_true rfl) ?_
      replace h := Option.some.inj h; subst h
      exact v_iret rfl dX6_copy_20
/-! ===== BentPlainModel.lays(I)I ===== -/
def fX6_lays_21 {ρ : Type} (kx : Int32 → Mem → Option ρ) (y1 : Int32) : Nat → Int32 → Int32 → Mem → Option ρ
  | 0, _, _, _ => none
  | n + 1, y3, y4, M => ((ldI M 58 4 y1).bind fun v4 => (if v4 ≤ y4 then (kx y3 M) else ((ldI M 50 112 (0 : Int32)).bind fun v7 => (if v7 ≤ y4 then (kx y3 M) else ((ldJ M 59 160 (((40 : Int32) * y1) + y4)).bind fun v10 => ((if (fX6_in v10 (0 : Int64) (9 : Int64)) = 0 then some (y3, M) else ((stI M 50 112 ((2 : Int32) + y4) ((v10).toInt32)).bind fun M16 => some ((y3 + (1 : Int32)), M16))).bind fun t14 => (fX6_lays_21 kx y1 n t14.1 (y4 + (1 : Int32)) t14.2)))))))
def fX6_lays (x1 : Int32) (M : Mem) : Option (Int32 × Mem) := ((fX6_wrong x1 M).bind fun v1 => (if v1 = 0 then (fX6_lays_21 (fun u18 M19 => some (u18, M19)) x1 FU (0 : Int32) (0 : Int32) M) else ((fX6_finds v1 M).bind fun w20 => some (w20.1, w20.2))))
set_option maxRecDepth 100000 in
set_option maxHeartbeats 4000000 in
theorem tX6_lays_21 {g : Wo} {ρ : Type} {kx : Int32 → Mem → Option ρ} {y1 : Int32} {r : ρ} {rr : Option Value} {Mr : Mem} (hk : ∀ (z3 : Int32) (Mx : Mem), kx z3 Mx = some r → V g kX6_lays (jm g 3 rr Mr) 90 [none, none, none, some (.int z3), none, none, none] [] Mx) : ∀ (n : Nat) (y3 : Int32) (y4 : Int32) (M : Mem), fX6_lays_21 kx y1 n y3 y4 M = some r → V g kX6_lays (jm g 3 rr Mr) 21 [some (.ref 49), some (.int y1), none, some (.int y3), some (.int y4), none, none] [] M := by
  intro n
  induction n with
  | zero =>
    intro y3 y4 M h
    rw [fX6_lays_21] at h
    cases h
  | succ n ih =>
    intro y3 y4 M h
    rw [fX6_lays_21] at h
    refine v_iload dX6_lays_21 rfl ?_
    refine v_aload_n dX6_lays_23 rfl ?_
    refine v_getr dX6_lays_24 flX6_34 sh_49 rfl ?_
    refine v_iload_n dX6_lays_27 rfl ?_
    obtain ⟨v4, e5, h⟩ := Option.bind_eq_some_iff.mp h
    refine v_ild e5 dX6_lays_28 sh_58 ?_
    refine v_icmp_ge (tgt := 90) dX6_lays_29 rfl (fun c6 => ?_) (fun c6 => ?_)
    · replace h := (if_pos c6).symm.trans h
      refine V.sub (ls' := [none, none, none, some (.int y3), none, none, none]) (And.intro rfl trivial) ?_
      exact hk _ _ h
    · replace h := (if_neg c6).symm.trans h
      refine v_iload dX6_lays_32 rfl ?_
      refine v_aload_n dX6_lays_34 rfl ?_
      refine v_getr dX6_lays_35 flX6_7 sh_49 rfl ?_
      refine v_iconst (v := 0) dX6_lays_38 rfl ?_
      obtain ⟨v7, e8, h⟩ := Option.bind_eq_some_iff.mp h
      refine v_ild e8 dX6_lays_39 sh_50 ?_
      refine v_icmp_ge (tgt := 90) dX6_lays_40 rfl (fun c9 => ?_) (fun c9 => ?_)
      · replace h := (if_pos c9).symm.trans h
        refine V.sub (ls' := [none, none, none, some (.int y3), none, none, none]) (And.intro rfl trivial) ?_
        exact hk _ _ h
      · replace h := (if_neg c9).symm.trans h
        refine v_aload_n dX6_lays_43 rfl ?_
        refine v_getr dX6_lays_44 flX6_37 sh_49 rfl ?_
        refine v_bipush (v := 40) dX6_lays_47 rfl ?_
        refine v_iload_n dX6_lays_49 rfl ?_
        refine v_imul dX6_lays_50 ?_
        refine v_iload dX6_lays_51 rfl ?_
        refine v_iadd dX6_lays_53 ?_
        obtain ⟨v10, e11, h⟩ := Option.bind_eq_some_iff.mp h
        refine v_lld e11 dX6_lays_54 sh_59 ?_
        refine v_lstore (ls1 := [some (.ref 49), some (.int y1), none, some (.int y3), some (.int y4), some (.long v10), none]) dX6_lays_55 (Nat.le_of_ble_eq_true rfl) rfl ?_
        refine v_lload dX6_lays_57 rfl ?_
        refine v_lconst (v := 0) dX6_lays_59 rfl ?_
        refine v_ldc2 (v := 9) dX6_lays_60 w_805 ?_
        refine v_callS (as := [.long v10, .long (0 : Int64), .long (9 : Int64)]) (st := []) (sX6_in rfl) dX6_lays_63 mlX6_45 (CRn (by decide) (by decide)) rfl rfl (Nat.le_of_ble_eq_true rfl) ?_
        obtain ⟨t14, e15, h⟩ := Option.bind_eq_some_iff.mp h
        have hJ : V g kX6_lays (jm g 3 rr Mr) 84 [some (.ref 49), some (.int y1), none, some (.int t14.1), some (.int y4), none, none] [] t14.2 := by
          refine v_iinc (v := 1) (ls1 := [some (.ref 49), some (.int y1), none, some (.int t14.1), some (.int (y4 + (1 : Int32))), none, none]) dX6_lays_84 rfl rfl (Nat.le_of_ble_eq_true rfl) rfl ?_
          refine v_goto (tgt := 21) dX6_lays_87 rfl ?_
          refine V.sub (ls' := [some (.ref 49), some (.int y1), none, some (.int t14.1), some (.int (y4 + (1 : Int32))), none, none]) (And.intro rfl (And.intro rfl (And.intro rfl (And.intro rfl trivial)))) ?_
          exact ih _ _ _ h
        clear h
        have h := e15
        clear e15
        refine v_if_eq (tgt := 84) dX6_lays_66 rfl (fun c13 => ?_) (fun c13 => ?_)
        · replace h := (if_pos c13).symm.trans h
          replace h := Option.some.inj h; subst h
          refine V.sub (ls' := [some (.ref 49), some (.int y1), none, some (.int y3), some (.int y4), none, none]) (And.intro rfl (And.intro rfl (And.intro rfl (And.intro rfl trivial)))) ?_
          exact hJ
        · replace h := (if_neg c13).symm.trans h
          refine v_aload_n dX6_lays_69 rfl ?_
          refine v_getr dX6_lays_70 flX6_7 sh_49 rfl ?_
          refine v_iconst (v := 2) dX6_lays_73 rfl ?_
          refine v_iload dX6_lays_74 rfl ?_
          refine v_iadd dX6_lays_76 ?_
          refine v_lload dX6_lays_77 rfl ?_
          refine v_l2i dX6_lays_79 ?_
          obtain ⟨M16, e17, h⟩ := Option.bind_eq_some_iff.mp h
          refine v_ist e17 dX6_lays_80 sh_50 ?_
          refine v_iinc (v := 1) (ls1 := [some (.ref 49), some (.int y1), none, some (.int (y3 + (1 : Int32))), some (.int y4), some (.long v10), none]) dX6_lays_81 rfl rfl (Nat.le_of_ble_eq_true rfl) rfl ?_
          replace h := Option.some.inj h; subst h
          refine V.sub (ls' := [some (.ref 49), some (.int y1), none, some (.int (y3 + (1 : Int32))), some (.int y4), none, none]) (And.intro rfl (And.intro rfl (And.intro rfl (And.intro rfl trivial)))) ?_
          exact hJ
set_option maxRecDepth 100000 in
set_option maxHeartbeats 4000000 in
theorem sX6_lays {g : Wo} {M : Mem} {x1 : Int32} {r : Int32 × Mem} (h : fX6_lays x1 M = some r) : Sp g kX6_lays 3 [.ref 49, .int x1] M (some (.int r.1)) r.2 := by
  rw [fX6_lays] at h
  refine Sp_intro (by decide) [some (.ref 49), some (.int x1), none, none, none, none, none] rfl (Nat.le_of_ble_eq_true rfl) ?_
  refine v_aload_n dX6_lays_0 rfl ?_
  refine v_iload_n dX6_lays_1 rfl ?_
  obtain ⟨v1, e2, h⟩ := Option.bind_eq_some_iff.mp h
  refine v_callV (as := [.int x1]) (st := []) (sX6_wrong e2) dX6_lays_2 mlX6_303 (CRn (by decide) (by decide)) sh_49 rfl rfl rfl (Nat.le_of_ble_eq_true rfl) ?_
  refine v_istore_n (ls1 := [some (.ref 49), some (.int x1), some (.int v1), none, none, none, none]) dX6_lays_5 (Nat.le_of_ble_eq_true rfl) rfl ?_
  refine v_iload_n dX6_lays_6 rfl ?_
  refine v_if_eq (tgt := 16) dX6_lays_7 rfl (fun c3 => ?_) (fun c3 => ?_)
  · replace h := (if_pos c3).symm.trans h
    refine v_iconst (v := 0) dX6_lays_16 rfl ?_
    refine v_istore_n (ls1 := [some (.ref 49), some (.int x1), some (.int v1), some (.int (0 : Int32)), none, none, none]) dX6_lays_17 (Nat.le_of_ble_eq_true rfl) rfl ?_
    refine v_iconst (v := 0) dX6_lays_18 rfl ?_
    refine v_istore (ls1 := [some (.ref 49), some (.int x1), some (.int v1), some (.int (0 : Int32)), some (.int (0 : Int32)), none, none]) dX6_lays_19 (Nat.le_of_ble_eq_true rfl) rfl ?_
    refine V.sub (ls' := [some (.ref 49), some (.int x1), none, some (.int (0 : Int32)), some (.int (0 : Int32)), none, none]) (And.intro rfl (And.intro rfl (And.intro rfl (And.intro rfl trivial)))) ?_
    refine tX6_lays_21 (fun u18 M19 h => ?_) FU _ _ _ h
    refine v_iload_n dX6_lays_90 rfl ?_
    replace h := Option.some.inj h; subst h
    exact v_iret rfl dX6_lays_91
  · replace h := (if_neg c3).symm.trans h
    refine v_aload_n dX6_lays_10 rfl ?_
    refine v_iload_n dX6_lays_11 rfl ?_
    obtain ⟨w20, e21, h⟩ := Option.bind_eq_some_iff.mp h
    refine v_callV (as := [.int v1]) (st := []) (sX6_finds e21) dX6_lays_12 mlX6_69 (CRn (by decide) (by decide)) sh_49 rfl rfl rfl (Nat.le_of_ble_eq_true rfl) ?_
    replace h := Option.some.inj h; subst h
    exact v_iret rfl dX6_lays_15
/-! ===== BentPlainModel.wrongBook(II)I ===== -/
def fX6_wrongBook (x1 : Int32) (x2 : Int32) (M : Mem) : Option Int32 := ((fX6_wrong x1 M).bind fun v1 => (if v1 = 0 then ((fX6_isWalker x2 M).bind fun v4 => (if v4 = 0 then some (-1000000001 : Int32) else some (0 : Int32))) else some v1))
set_option maxRecDepth 100000 in
set_option maxHeartbeats 4000000 in
theorem sX6_wrongBook {g : Wo} {M : Mem} {x1 : Int32} {x2 : Int32} {r : Int32} (h : fX6_wrongBook x1 x2 M = some r) : Sp g kX6_wrongBook 3 [.ref 49, .int x1, .int x2] M (some (.int r)) M := by
  rw [fX6_wrongBook] at h
  refine Sp_intro (by decide) [some (.ref 49), some (.int x1), some (.int x2), none] rfl (Nat.le_of_ble_eq_true rfl) ?_
  refine v_aload_n dX6_wrongBook_0 rfl ?_
  refine v_iload_n dX6_wrongBook_1 rfl ?_
  obtain ⟨v1, e2, h⟩ := Option.bind_eq_some_iff.mp h
  refine v_callV (as := [.int x1]) (st := []) (sX6_wrong e2) dX6_wrongBook_2 mlX6_303 (CRn (by decide) (by decide)) sh_49 rfl rfl rfl (Nat.le_of_ble_eq_true rfl) ?_
  refine v_istore_n (ls1 := [some (.ref 49), some (.int x1), some (.int x2), some (.int v1)]) dX6_wrongBook_5 (Nat.le_of_ble_eq_true rfl) rfl ?_
  refine v_iload_n dX6_wrongBook_6 rfl ?_
  refine v_if_eq (tgt := 14) dX6_wrongBook_7 rfl (fun c3 => ?_) (fun c3 => ?_)
  · replace h := (if_pos c3).symm.trans h
    refine v_aload_n dX6_wrongBook_14 rfl ?_
    refine v_iload_n dX6_wrongBook_15 rfl ?_
    obtain ⟨v4, e5, h⟩ := Option.bind_eq_some_iff.mp h
    refine v_callV (as := [.int x2]) (st := []) (sX6_isWalker e5) dX6_wrongBook_16 mlX6_124 (CRn (by decide) (by decide)) sh_49 rfl rfl rfl (Nat.le_of_ble_eq_true rfl) ?_
    refine v_if_eq (tgt := 26) dX6_wrongBook_19 rfl (fun c6 => ?_) (fun c6 => ?_)
    · replace h := (if_pos c6).symm.trans h
      refine v_ldc (v := -1000000001) dX6_wrongBook_26 w_809 ?_
      replace h := Option.some.inj h; subst h
      exact v_iret rfl dX6_wrongBook_28
    · replace h := (if_neg c6).symm.trans h
      refine v_iconst (v := 0) dX6_wrongBook_22 rfl ?_
      refine v_goto (tgt := 28) dX6_wrongBook_23 rfl ?_
      replace h := Option.some.inj h; subst h
      exact v_iret rfl dX6_wrongBook_28
  · replace h := (if_neg c3).symm.trans h
    refine v_iload_n dX6_wrongBook_10 rfl ?_
    refine v_goto (tgt := 28) dX6_wrongBook_11 rfl ?_
    replace h := Option.some.inj h; subst h
    exact v_iret rfl dX6_wrongBook_28
/-! ===== BentPlainModel.book(II)I ===== -/
def fX6_book_24 {ρ : Type} (kx : Mem → Option ρ) (y1 : Int32) (y2 : Int32) : Nat → Int32 → Mem → Option ρ
  | 0, _, _ => none
  | n + 1, y4, M => ((ldI M 58 4 y1).bind fun v6 => (if v6 ≤ y4 then (kx M) else ((fX6_partOf y2 (1 : Int32) M).bind fun v9 => ((stJ M 59 160 (((40 : Int32) * y1) + y4) ((v9).toInt64)).bind fun M11 => ((fX6_goes y2 M11).bind fun w13 => (fX6_book_24 kx y1 y2 n (y4 + (1 : Int32)) w13))))))
def fX6_book (x1 : Int32) (x2 : Int32) (M : Mem) : Option (Int32 × Mem) := ((fX6_wrongBook x1 x2 M).bind fun v1 => (if v1 = 0 then ((fX6_laysAside M).bind fun w4 => (fX6_book_24 (fun M15 => ((ldI M15 58 4 x1).bind fun v16 => ((fX6_takesBack v16 M15).bind fun w18 => some (w18.1, w18.2)))) x1 x2 FU (0 : Int32) w4)) else ((fX6_finds v1 M).bind fun w20 => some (w20.1, w20.2))))
set_option maxRecDepth 100000 in
set_option maxHeartbeats 4000000 in
theorem tX6_book_24 {g : Wo} {ρ : Type} {kx : Mem → Option ρ} {y1 : Int32} {y2 : Int32} {r : ρ} {rr : Option Value} {Mr : Mem} (hk : ∀ (Mx : Mem), kx Mx = some r → V g kX6_book (jm g 4 rr Mr) 65 [some (.ref 49), some (.int y1), none, none, none] [] Mx) : ∀ (n : Nat) (y4 : Int32) (M : Mem), fX6_book_24 kx y1 y2 n y4 M = some r → V g kX6_book (jm g 4 rr Mr) 24 [some (.ref 49), some (.int y1), some (.int y2), none, some (.int y4)] [] M := by
  intro n
  induction n with
  | zero =>
    intro y4 M h
    rw [fX6_book_24] at h
    cases h
  | succ n ih =>
    intro y4 M h
    rw [fX6_book_24] at h
    refine v_iload dX6_book_24 rfl ?_
    refine v_aload_n dX6_book_26 rfl ?_
    refine v_getr dX6_book_27 flX6_34 sh_49 rfl ?_
    refine v_iload_n dX6_book_30 rfl ?_
    obtain ⟨v6, e7, h⟩ := Option.bind_eq_some_iff.mp h
    refine v_ild e7 dX6_book_31 sh_58 ?_
    refine v_icmp_ge (tgt := 65) dX6_book_32 rfl (fun c8 => ?_) (fun c8 => ?_)
    · replace h := (if_pos c8).symm.trans h
      refine V.sub (ls' := [some (.ref 49), some (.int y1), none, none, none]) (And.intro rfl (And.intro rfl trivial)) ?_
      exact hk _ h
    · replace h := (if_neg c8).symm.trans h
      refine v_aload_n dX6_book_35 rfl ?_
      refine v_getr dX6_book_36 flX6_37 sh_49 rfl ?_
      refine v_bipush (v := 40) dX6_book_39 rfl ?_
      refine v_iload_n dX6_book_41 rfl ?_
      refine v_imul dX6_book_42 ?_
      refine v_iload dX6_book_43 rfl ?_
      refine v_iadd dX6_book_45 ?_
      refine v_aload_n dX6_book_46 rfl ?_
      refine v_iload_n dX6_book_47 rfl ?_
      refine v_iconst (v := 1) dX6_book_48 rfl ?_
      obtain ⟨v9, e10, h⟩ := Option.bind_eq_some_iff.mp h
      refine v_callV (as := [.int y2, .int (1 : Int32)]) (st := [.int (((40 : Int32) * y1) + y4), .ref 59]) (sX6_partOf e10) dX6_book_49 mlX6_64 (CRn (by decide) (by decide)) sh_49 rfl rfl rfl (Nat.le_of_ble_eq_true rfl) ?_
      refine v_i2l dX6_book_52 ?_
      obtain ⟨M11, e12, h⟩ := Option.bind_eq_some_iff.mp h
      refine v_lst e12 dX6_book_53 sh_59 ?_
      refine v_aload_n dX6_book_54 rfl ?_
      refine v_iload_n dX6_book_55 rfl ?_
      obtain ⟨w13, e14, h⟩ := Option.bind_eq_some_iff.mp h
      refine v_callV (as := [.int y2]) (st := []) (sX6_goes e14) dX6_book_56 mlX6_134 (CRn (by decide) (by decide)) sh_49 rfl rfl rfl (Nat.le_of_ble_eq_true rfl) ?_
      refine v_iinc (v := 1) (ls1 := [some (.ref 49), some (.int y1), some (.int y2), none, some (.int (y4 + (1 : Int32)))]) dX6_book_59 rfl rfl (Nat.le_of_ble_eq_true rfl) rfl ?_
      refine v_goto (tgt := 24) dX6_book_62 rfl ?_
      refine V.sub (ls' := [some (.ref 49), some (.int y1), some (.int y2), none, some (.int (y4 + (1 : Int32)))]) (And.intro rfl (And.intro rfl (And.intro rfl (And.intro rfl trivial)))) ?_
      exact ih _ _ h
set_option maxRecDepth 100000 in
set_option maxHeartbeats 4000000 in
theorem sX6_book {g : Wo} {M : Mem} {x1 : Int32} {x2 : Int32} {r : Int32 × Mem} (h : fX6_book x1 x2 M = some r) : Sp g kX6_book 4 [.ref 49, .int x1, .int x2] M (some (.int r.1)) r.2 := by
  rw [fX6_book] at h
  refine Sp_intro (by decide) [some (.ref 49), some (.int x1), some (.int x2), none, none] rfl (Nat.le_of_ble_eq_true rfl) ?_
  refine v_aload_n dX6_book_0 rfl ?_
  refine v_iload_n dX6_book_1 rfl ?_
  refine v_iload_n dX6_book_2 rfl ?_
  obtain ⟨v1, e2, h⟩ := Option.bind_eq_some_iff.mp h
  refine v_callV (as := [.int x1, .int x2]) (st := []) (sX6_wrongBook e2) dX6_book_3 mlX6_310 (CRn (by decide) (by decide)) sh_49 rfl rfl rfl (Nat.le_of_ble_eq_true rfl) ?_
  refine v_istore_n (ls1 := [some (.ref 49), some (.int x1), some (.int x2), some (.int v1), none]) dX6_book_6 (Nat.le_of_ble_eq_true rfl) rfl ?_
  refine v_iload_n dX6_book_7 rfl ?_
  refine v_if_eq (tgt := 17) dX6_book_8 rfl (fun c3 => ?_) (fun c3 => ?_)
  · replace h := (if_pos c3).symm.trans h
    refine v_aload_n dX6_book_17 rfl ?_
    obtain ⟨w4, e5, h⟩ := Option.bind_eq_some_iff.mp h
    refine v_callV (as := []) (st := []) (sX6_laysAside e5) dX6_book_18 mlX6_146 (CRn (by decide) (by decide)) sh_49 rfl rfl rfl (Nat.le_of_ble_eq_true rfl) ?_
    refine v_iconst (v := 0) dX6_book_21 rfl ?_
    refine v_istore (ls1 := [some (.ref 49), some (.int x1), some (.int x2), some (.int v1), some (.int (0 : Int32))]) dX6_book_22 (Nat.le_of_ble_eq_true rfl) rfl ?_
    refine V.sub (ls' := [some (.ref 49), some (.int x1), some (.int x2), none, some (.int (0 : Int32))]) (And.intro rfl (And.intro rfl (And.intro rfl (And.intro rfl trivial)))) ?_
    refine tX6_book_24 (fun M15 h => ?_) FU _ _ h
    refine v_aload_n dX6_book_65 rfl ?_
    refine v_aload_n dX6_book_66 rfl ?_
    refine v_getr dX6_book_67 flX6_34 sh_49 rfl ?_
    refine v_iload_n dX6_book_70 rfl ?_
    obtain ⟨v16, e17, h⟩ := Option.bind_eq_some_iff.mp h
    refine v_ild e17 dX6_book_71 sh_58 ?_
    obtain ⟨w18, e19, h⟩ := Option.bind_eq_some_iff.mp h
    refine v_callV (as := [.int v16]) (st := []) (sX6_takesBack e19) dX6_book_72 mlX6_149 (CRn (by decide) (by decide)) sh_49 rfl rfl rfl (Nat.le_of_ble_eq_true rfl) ?_
    replace h := Option.some.inj h; subst h
    exact v_iret rfl dX6_book_75
  · replace h := (if_neg c3).symm.trans h
    refine v_aload_n dX6_book_11 rfl ?_
    refine v_iload_n dX6_book_12 rfl ?_
    obtain ⟨w20, e21, h⟩ := Option.bind_eq_some_iff.mp h
    refine v_callV (as := [.int v1]) (st := []) (sX6_finds e21) dX6_book_13 mlX6_69 (CRn (by decide) (by decide)) sh_49 rfl rfl rfl (Nat.le_of_ble_eq_true rfl) ?_
    replace h := Option.some.inj h; subst h
    exact v_iret rfl dX6_book_16
/-! ===== BentPlainModel.isSo(II)I ===== -/
def fX6_isSo_5 {ρ : Type} (kx : Int32 → Mem → Option ρ) (y1 : Int32) (y2 : Int32) : Nat → Int32 → Int32 → Mem → Option ρ
  | 0, _, _, _ => none
  | n + 1, y3, y4, M => ((ldI M 58 4 y1).bind fun v1 => (if v1 ≤ y4 then (kx y3 M) else (if y3 = 0 then (kx y3 M) else ((ldJ M 59 160 (((40 : Int32) * y1) + y4)).bind fun v5 => ((fX6_partOf y2 (1 : Int32) M).bind fun v7 => ((fX6_goes y2 M).bind fun w10 => (fX6_isSo_5 kx y1 y2 n (if (lg_cmp v5 ((v7).toInt64)) = 0 then (1 : Int32) else (0 : Int32)) (y4 + (1 : Int32)) w10)))))))
def fX6_isSo (x1 : Int32) (x2 : Int32) (M : Mem) : Option (Int32 × Mem) := (fX6_isSo_5 (fun u12 M13 => (if u12 = 0 then some ((0 : Int32), M13) else some ((1 : Int32), M13))) x1 x2 FU (1 : Int32) (0 : Int32) M)
set_option maxRecDepth 100000 in
set_option maxHeartbeats 4000000 in
theorem tX6_isSo_5 {g : Wo} {ρ : Type} {kx : Int32 → Mem → Option ρ} {y1 : Int32} {y2 : Int32} {r : ρ} {rr : Option Value} {Mr : Mem} (hk : ∀ (z3 : Int32) (Mx : Mem), kx z3 Mx = some r → V g kX6_isSo (jm g 4 rr Mr) 60 [none, none, none, some (.int z3), none] [] Mx) : ∀ (n : Nat) (y3 : Int32) (y4 : Int32) (M : Mem), fX6_isSo_5 kx y1 y2 n y3 y4 M = some r → V g kX6_isSo (jm g 4 rr Mr) 5 [some (.ref 49), some (.int y1), some (.int y2), some (.int y3), some (.int y4)] [] M := by
  intro n
  induction n with
  | zero =>
    intro y3 y4 M h
    rw [fX6_isSo_5] at h
    cases h
  | succ n ih =>
    intro y3 y4 M h
    rw [fX6_isSo_5] at h
    refine v_iload dX6_isSo_5 rfl ?_
    refine v_aload_n dX6_isSo_7 rfl ?_
    refine v_getr dX6_isSo_8 flX6_34 sh_49 rfl ?_
    refine v_iload_n dX6_isSo_11 rfl ?_
    obtain ⟨v1, e2, h⟩ := Option.bind_eq_some_iff.mp h
    refine v_ild e2 dX6_isSo_12 sh_58 ?_
    refine v_icmp_ge (tgt := 60) dX6_isSo_13 rfl (fun c3 => ?_) (fun c3 => ?_)
    · replace h := (if_pos c3).symm.trans h
      refine V.sub (ls' := [none, none, none, some (.int y3), none]) (And.intro rfl trivial) ?_
      exact hk _ _ h
    · replace h := (if_neg c3).symm.trans h
      refine v_iload_n dX6_isSo_16 rfl ?_
      refine v_if_eq (tgt := 60) dX6_isSo_17 rfl (fun c4 => ?_) (fun c4 => ?_)
      · replace h := (if_pos c4).symm.trans h
        refine V.sub (ls' := [none, none, none, some (.int y3), none]) (And.intro rfl trivial) ?_
        exact hk _ _ h
      · replace h := (if_neg c4).symm.trans h
        refine v_aload_n dX6_isSo_20 rfl ?_
        refine v_getr dX6_isSo_21 flX6_37 sh_49 rfl ?_
        refine v_bipush (v := 40) dX6_isSo_24 rfl ?_
        refine v_iload_n dX6_isSo_26 rfl ?_
        refine v_imul dX6_isSo_27 ?_
        refine v_iload dX6_isSo_28 rfl ?_
        refine v_iadd dX6_isSo_30 ?_
        obtain ⟨v5, e6, h⟩ := Option.bind_eq_some_iff.mp h
        refine v_lld e6 dX6_isSo_31 sh_59 ?_
        refine v_aload_n dX6_isSo_32 rfl ?_
        refine v_iload_n dX6_isSo_33 rfl ?_
        refine v_iconst (v := 1) dX6_isSo_34 rfl ?_
        obtain ⟨v7, e8, h⟩ := Option.bind_eq_some_iff.mp h
        refine v_callV (as := [.int y2, .int (1 : Int32)]) (st := [.long v5]) (sX6_partOf e8) dX6_isSo_35 mlX6_64 (CRn (by decide) (by decide)) sh_49 rfl rfl rfl (Nat.le_of_ble_eq_true rfl) ?_
        refine v_i2l dX6_isSo_38 ?_
        refine v_lcmp dX6_isSo_39 ?_
        have hJ : V g kX6_isSo (jm g 4 rr Mr) 48 [some (.ref 49), some (.int y1), some (.int y2), none, some (.int y4)] [.int (if (lg_cmp v5 ((v7).toInt64)) = 0 then (1 : Int32) else (0 : Int32))] M := by
          refine v_istore_n (ls1 := [some (.ref 49), some (.int y1), some (.int y2), some (.int (if (lg_cmp v5 ((v7).toInt64)) = 0 then (1 : Int32) else (0 : Int32))), some (.int y4)]) dX6_isSo_48 (Nat.le_of_ble_eq_true rfl) rfl ?_
          refine v_aload_n dX6_isSo_49 rfl ?_
          refine v_iload_n dX6_isSo_50 rfl ?_
          obtain ⟨w10, e11, h⟩ := Option.bind_eq_some_iff.mp h
          refine v_callV (as := [.int y2]) (st := []) (sX6_goes e11) dX6_isSo_51 mlX6_134 (CRn (by decide) (by decide)) sh_49 rfl rfl rfl (Nat.le_of_ble_eq_true rfl) ?_
          refine v_iinc (v := 1) (ls1 := [some (.ref 49), some (.int y1), some (.int y2), some (.int (if (lg_cmp v5 ((v7).toInt64)) = 0 then (1 : Int32) else (0 : Int32))), some (.int (y4 + (1 : Int32)))]) dX6_isSo_54 rfl rfl (Nat.le_of_ble_eq_true rfl) rfl ?_
          refine v_goto (tgt := 5) dX6_isSo_57 rfl ?_
          refine V.sub (ls' := [some (.ref 49), some (.int y1), some (.int y2), some (.int (if (lg_cmp v5 ((v7).toInt64)) = 0 then (1 : Int32) else (0 : Int32))), some (.int (y4 + (1 : Int32)))]) (And.intro rfl (And.intro rfl (And.intro rfl (And.intro rfl (And.intro rfl trivial))))) ?_
          exact ih _ _ _ h
        refine v_if_ne (tgt := 47) dX6_isSo_40 rfl (fun c9 => ?_) (fun c9 => ?_)
        · refine v_iconst (v := 0) dX6_isSo_47 rfl ?_
          refine V.sub (ls' := [some (.ref 49), some (.int y1), some (.int y2), none, some (.int y4)]) (And.intro rfl (And.intro rfl (And.intro rfl (And.intro rfl trivial)))) ?_
          first | (simp only [if_neg c9] at hJ; exact hJ) | exact hJ | (simp only [if_neg c9] at hJ ⊢; exact hJ)
        · refine v_iconst (v := 1) dX6_isSo_43 rfl ?_
          refine v_goto (tgt := 48) dX6_isSo_44 rfl ?_
          refine V.sub (ls' := [some (.ref 49), some (.int y1), some (.int y2), none, some (.int y4)]) (And.intro rfl (And.intro rfl (And.intro rfl (And.intro rfl trivial)))) ?_
          first | (simp only [if_pos c9] at hJ; exact hJ) | exact hJ | (simp only [if_pos c9] at hJ ⊢; exact hJ)
set_option maxRecDepth 100000 in
set_option maxHeartbeats 4000000 in
theorem sX6_isSo {g : Wo} {M : Mem} {x1 : Int32} {x2 : Int32} {r : Int32 × Mem} (h : fX6_isSo x1 x2 M = some r) : Sp g kX6_isSo 4 [.ref 49, .int x1, .int x2] M (some (.int r.1)) r.2 := by
  rw [fX6_isSo] at h
  refine Sp_intro (by decide) [some (.ref 49), some (.int x1), some (.int x2), none, none] rfl (Nat.le_of_ble_eq_true rfl) ?_
  refine v_iconst (v := 1) dX6_isSo_0 rfl ?_
  refine v_istore_n (ls1 := [some (.ref 49), some (.int x1), some (.int x2), some (.int (1 : Int32)), none]) dX6_isSo_1 (Nat.le_of_ble_eq_true rfl) rfl ?_
  refine v_iconst (v := 0) dX6_isSo_2 rfl ?_
  refine v_istore (ls1 := [some (.ref 49), some (.int x1), some (.int x2), some (.int (1 : Int32)), some (.int (0 : Int32))]) dX6_isSo_3 (Nat.le_of_ble_eq_true rfl) rfl ?_
  refine V.sub (ls' := [some (.ref 49), some (.int x1), some (.int x2), some (.int (1 : Int32)), some (.int (0 : Int32))]) (And.intro rfl (And.intro rfl (And.intro rfl (And.intro rfl (And.intro rfl trivial))))) ?_
  refine tX6_isSo_5 (fun u12 M13 h => ?_) FU _ _ _ h
  refine v_iload_n dX6_isSo_60 rfl ?_
  refine v_if_eq (tgt := 68) dX6_isSo_61 rfl (fun c14 => ?_) (fun c14 => ?_)
  · replace h := (if_pos c14).symm.trans h
    refine v_iconst (v := 0) dX6_isSo_68 rfl ?_
    replace h := Option.some.inj h; subst h
    exact v_iret rfl dX6_isSo_69
  · replace h := (if_neg c14).symm.trans h
    refine v_iconst (v := 1) dX6_isSo_64 rfl ?_
    refine v_goto (tgt := 69) dX6_isSo_65 rfl ?_
    replace h := Option.some.inj h; subst h
    exact v_iret rfl dX6_isSo_69
