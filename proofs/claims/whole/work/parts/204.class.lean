/-! ===== BentPlain.closes(II)I ===== -/
def fX5_closes_31 (kx : Option (Int32 × Mem)) (y3 : Int32) (M : Mem) : Nat → Int32 → Int32 → Option (Int32 × Mem)
  | 0, _, _ => none
  | n + 1, y4, y5 => (if (64 : Int32) < y5 then kx else ((fX0_goOn y4 M).bind fun v3 => (if v3 = y3 then some (y5, M) else (fX5_closes_31 kx y3 M n v3 (y5 + (1 : Int32))))))
def fX5_closes (x1 : Int32) (x2 : Int32) (M : Mem) : Option (Int32 × Mem) := (if (fX0_hasWay x1 x2 M) = 0 then ((fX5_tell (-1000000001 : Int32) M).bind fun w8 => some (w8.1, w8.2)) else (fX5_closes_31 (((fX5_tell (-1000000004 : Int32) M).bind fun w6 => some (w6.1, w6.2))) (fX5_wayOf x1 x2) M FU (fX5_wayOf x1 x2) (1 : Int32)))
set_option maxRecDepth 100000 in
set_option maxHeartbeats 4000000 in
theorem tX5_closes_31 {g : Wo} {kx : Option (Int32 × Mem)} {y3 : Int32} {M : Mem} {r : Int32 × Mem} (hk : kx = some r → V g kX5_closes (jm g 3 (some (.int r.1)) r.2) 64 [some (.ref 0), none, none, none, none, none] [] M) : ∀ (n : Nat) (y4 : Int32) (y5 : Int32), fX5_closes_31 kx y3 M n y4 y5 = some r → V g kX5_closes (jm g 3 (some (.int r.1)) r.2) 31 [some (.ref 0), none, none, some (.int y3), some (.int y4), some (.int y5)] [] M := by
  intro n
  induction n with
  | zero =>
    intro y4 y5 h
    rw [fX5_closes_31] at h
    cases h
  | succ n ih =>
    intro y4 y5 h
    rw [fX5_closes_31] at h
    refine v_iload dX5_closes_31 rfl ?_
    refine v_bipush (v := 64) dX5_closes_33 rfl ?_
    refine v_icmp_gt (tgt := 64) dX5_closes_35 rfl (fun c2 => ?_) (fun c2 => ?_)
    · replace h := (if_pos c2).symm.trans h
      refine V.sub (ls' := [some (.ref 0), none, none, none, none, none]) (And.intro rfl trivial) ?_
      exact hk h
    · replace h := (if_neg c2).symm.trans h
      refine v_aload_n dX5_closes_38 rfl ?_
      refine v_getr dX5_closes_39 flX5_12 sh_0 rfl ?_
      refine v_iload dX5_closes_42 rfl ?_
      obtain ⟨v3, e4, h⟩ := Option.bind_eq_some_iff.mp h
      refine v_callV (as := [.int y4]) (st := []) (sX0_goOn e4) dX5_closes_44 mlX5_178 (CRn (by decide) (by decide)) sh_1 rfl rfl rfl (Nat.le_of_ble_eq_true rfl) ?_
      refine v_istore (ls1 := [some (.ref 0), none, none, some (.int y3), some (.int v3), some (.int y5)]) dX5_closes_47 (Nat.le_of_ble_eq_true rfl) rfl ?_
      refine v_iload dX5_closes_49 rfl ?_
      refine v_iload_n dX5_closes_51 rfl ?_
      refine v_icmp_ne (tgt := 58) dX5_closes_52 rfl (fun c5 => ?_) (fun c5 => ?_)
      · replace h := (if_neg c5).symm.trans h
        refine v_iinc (v := 1) (ls1 := [some (.ref 0), none, none, some (.int y3), some (.int v3), some (.int (y5 + (1 : Int32)))]) dX5_closes_58 rfl rfl (Nat.le_of_ble_eq_true rfl) rfl ?_
        refine v_goto (tgt := 31) dX5_closes_61 rfl ?_
        refine V.sub (ls' := [some (.ref 0), none, none, some (.int y3), some (.int v3), some (.int (y5 + (1 : Int32)))]) (And.intro rfl (And.intro rfl (And.intro rfl (And.intro rfl trivial)))) ?_
        exact ih _ _ h
      · replace h := (if_pos c5).symm.trans h
        refine v_iload dX5_closes_55 rfl ?_
        replace h := Option.some.inj h; subst h
        exact v_iret rfl dX5_closes_57
set_option maxRecDepth 100000 in
set_option maxHeartbeats 4000000 in
theorem sX5_closes {g : Wo} {M : Mem} {x1 : Int32} {x2 : Int32} {r : Int32 × Mem} (h : fX5_closes x1 x2 M = some r) : Sp g kX5_closes 3 [.ref 0, .int x1, .int x2] M (some (.int r.1)) r.2 := by
  rw [fX5_closes] at h
  refine Sp_intro (by decide) [some (.ref 0), some (.int x1), some (.int x2), none, none, none] rfl (Nat.le_of_ble_eq_true rfl) ?_
  refine v_aload_n dX5_closes_0 rfl ?_
  refine v_getr dX5_closes_1 flX5_12 sh_0 rfl ?_
  refine v_iload_n dX5_closes_4 rfl ?_
  refine v_iload_n dX5_closes_5 rfl ?_
  refine v_callV (as := [.int x1, .int x2]) (st := []) (sX0_hasWay rfl) dX5_closes_6 mlX5_92 (CRn (by decide) (by decide)) sh_1 rfl rfl rfl (Nat.le_of_ble_eq_true rfl) ?_
  refine v_if_ne (tgt := 19) dX5_closes_9 rfl (fun c1 => ?_) (fun c1 => ?_)
  · replace h := (if_neg c1).symm.trans h
    refine v_iload_n dX5_closes_19 rfl ?_
    refine v_iload_n dX5_closes_20 rfl ?_
    refine v_callS (as := [.int x1, .int x2]) (st := []) (sX5_wayOf rfl) dX5_closes_21 mlX5_96 (CRn (by decide) (by decide)) rfl rfl (Nat.le_of_ble_eq_true rfl) ?_
    refine v_istore_n (ls1 := [some (.ref 0), some (.int x1), some (.int x2), some (.int (fX5_wayOf x1 x2)), none, none]) dX5_closes_24 (Nat.le_of_ble_eq_true rfl) rfl ?_
    refine v_iload_n dX5_closes_25 rfl ?_
    refine v_istore (ls1 := [some (.ref 0), some (.int x1), some (.int x2), some (.int (fX5_wayOf x1 x2)), some (.int (fX5_wayOf x1 x2)), none]) dX5_closes_26 (Nat.le_of_ble_eq_true rfl) rfl ?_
    refine v_iconst (v := 1) dX5_closes_28 rfl ?_
    refine v_istore (ls1 := [some (.ref 0), some (.int x1), some (.int x2), some (.int (fX5_wayOf x1 x2)), some (.int (fX5_wayOf x1 x2)), some (.int (1 : Int32))]) dX5_closes_29 (Nat.le_of_ble_eq_true rfl) rfl ?_
    refine V.sub (ls' := [some (.ref 0), none, none, some (.int (fX5_wayOf x1 x2)), some (.int (fX5_wayOf x1 x2)), some (.int (1 : Int32))]) (And.intro rfl (And.intro rfl (And.intro rfl (And.intro rfl trivial)))) ?_
    refine tX5_closes_31 (fun h => ?_) FU _ _ h
    refine v_aload_n dX5_closes_64 rfl ?_
    refine v_ldc (v := -1000000004) dX5_closes_65 w_264 ?_
    obtain ⟨w6, e7, h⟩ := Option.bind_eq_some_iff.mp h
    refine v_callV (as := [.int (-1000000004 : Int32)]) (st := []) (sX5_tell e7) dX5_closes_67 mlX5_64 (CRn (by decide) (by decide)) sh_0 rfl rfl rfl (Nat.le_of_ble_eq_true rfl) ?_
    replace h := Option.some.inj h; subst h
    exact v_iret rfl dX5_closes_70
  · replace h := (if_pos c1).symm.trans h
    refine v_aload_n dX5_closes_12 rfl ?_
    refine v_ldc (v := -1000000001) dX5_closes_13 w_175 ?_
    obtain ⟨w8, e9, h⟩ := Option.bind_eq_some_iff.mp h
    refine v_callV (as := [.int (-1000000001 : Int32)]) (st := []) (sX5_tell e9) dX5_closes_15 mlX5_64 (CRn (by decide) (by decide)) sh_0 rfl rfl rfl (Nat.le_of_ble_eq_true rfl) ?_
    replace h := Option.some.inj h; subst h
    exact v_iret rfl dX5_closes_18
/-! ===== BentPlain.bumps(II)I ===== -/
def fX5_bumps_28 (kx : Option (Int32 × Mem)) (M : Mem) : Nat → Int32 → Int32 → Option (Int32 × Mem)
  | 0, _, _ => none
  | n + 1, y3, y4 => (if (64 : Int32) < y4 then kx else ((fX0_goOn y3 M).bind fun v3 => (if v3 = (-1 : Int32) then some (y4, M) else (fX5_bumps_28 kx M n v3 (y4 + (1 : Int32))))))
def fX5_bumps (x1 : Int32) (x2 : Int32) (M : Mem) : Option (Int32 × Mem) := (if (fX0_hasWay x1 x2 M) = 0 then ((fX5_tell (-1000000001 : Int32) M).bind fun w8 => some (w8.1, w8.2)) else (fX5_bumps_28 (((fX5_tell (-1000000004 : Int32) M).bind fun w6 => some (w6.1, w6.2))) M FU (fX5_wayOf x1 x2) (0 : Int32)))
set_option maxRecDepth 100000 in
set_option maxHeartbeats 4000000 in
theorem tX5_bumps_28 {g : Wo} {kx : Option (Int32 × Mem)} {M : Mem} {r : Int32 × Mem} (hk : kx = some r → V g kX5_bumps (jm g 3 (some (.int r.1)) r.2) 58 [some (.ref 0), none, none, none, none] [] M) : ∀ (n : Nat) (y3 : Int32) (y4 : Int32), fX5_bumps_28 kx M n y3 y4 = some r → V g kX5_bumps (jm g 3 (some (.int r.1)) r.2) 28 [some (.ref 0), none, none, some (.int y3), some (.int y4)] [] M := by
  intro n
  induction n with
  | zero =>
    intro y3 y4 h
    rw [fX5_bumps_28] at h
    cases h
  | succ n ih =>
    intro y3 y4 h
    rw [fX5_bumps_28] at h
    refine v_iload dX5_bumps_28 rfl ?_
    refine v_bipush (v := 64) dX5_bumps_30 rfl ?_
    refine v_icmp_gt (tgt := 58) dX5_bumps_32 rfl (fun c2 => ?_) (fun c2 => ?_)
    · replace h := (if_pos c2).symm.trans h
      refine V.sub (ls' := [some (.ref 0), none, none, none, none]) (And.intro rfl trivial) ?_
      exact hk h
    · replace h := (if_neg c2).symm.trans h
      refine v_aload_n dX5_bumps_35 rfl ?_
      refine v_getr dX5_bumps_36 flX5_12 sh_0 rfl ?_
      refine v_iload_n dX5_bumps_39 rfl ?_
      obtain ⟨v3, e4, h⟩ := Option.bind_eq_some_iff.mp h
      refine v_callV (as := [.int y3]) (st := []) (sX0_goOn e4) dX5_bumps_40 mlX5_178 (CRn (by decide) (by decide)) sh_1 rfl rfl rfl (Nat.le_of_ble_eq_true rfl) ?_
      refine v_istore_n (ls1 := [some (.ref 0), none, none, some (.int v3), some (.int y4)]) dX5_bumps_43 (Nat.le_of_ble_eq_true rfl) rfl ?_
      refine v_iload_n dX5_bumps_44 rfl ?_
      refine v_iconst (v := -1) dX5_bumps_45 rfl ?_
      refine v_icmp_ne (tgt := 52) dX5_bumps_46 rfl (fun c5 => ?_) (fun c5 => ?_)
      · replace h := (if_neg c5).symm.trans h
        refine v_iinc (v := 1) (ls1 := [some (.ref 0), none, none, some (.int v3), some (.int (y4 + (1 : Int32)))]) dX5_bumps_52 rfl rfl (Nat.le_of_ble_eq_true rfl) rfl ?_
        refine v_goto (tgt := 28) dX5_bumps_55 rfl ?_
        refine V.sub (ls' := [some (.ref 0), none, none, some (.int v3), some (.int (y4 + (1 : Int32)))]) (And.intro rfl (And.intro rfl (And.intro rfl trivial))) ?_
        exact ih _ _ h
      · replace h := (if_pos c5).symm.trans h
        refine v_iload dX5_bumps_49 rfl ?_
        replace h := Option.some.inj h; subst h
        exact v_iret rfl dX5_bumps_51
set_option maxRecDepth 100000 in
set_option maxHeartbeats 4000000 in
theorem sX5_bumps {g : Wo} {M : Mem} {x1 : Int32} {x2 : Int32} {r : Int32 × Mem} (h : fX5_bumps x1 x2 M = some r) : Sp g kX5_bumps 3 [.ref 0, .int x1, .int x2] M (some (.int r.1)) r.2 := by
  rw [fX5_bumps] at h
  refine Sp_intro (by decide) [some (.ref 0), some (.int x1), some (.int x2), none, none] rfl (Nat.le_of_ble_eq_true rfl) ?_
  refine v_aload_n dX5_bumps_0 rfl ?_
  refine v_getr dX5_bumps_1 flX5_12 sh_0 rfl ?_
  refine v_iload_n dX5_bumps_4 rfl ?_
  refine v_iload_n dX5_bumps_5 rfl ?_
  refine v_callV (as := [.int x1, .int x2]) (st := []) (sX0_hasWay rfl) dX5_bumps_6 mlX5_92 (CRn (by decide) (by decide)) sh_1 rfl rfl rfl (Nat.le_of_ble_eq_true rfl) ?_
  refine v_if_ne (tgt := 19) dX5_bumps_9 rfl (fun c1 => ?_) (fun c1 => ?_)
  · replace h := (if_neg c1).symm.trans h
    refine v_iload_n dX5_bumps_19 rfl ?_
    refine v_iload_n dX5_bumps_20 rfl ?_
    refine v_callS (as := [.int x1, .int x2]) (st := []) (sX5_wayOf rfl) dX5_bumps_21 mlX5_96 (CRn (by decide) (by decide)) rfl rfl (Nat.le_of_ble_eq_true rfl) ?_
    refine v_istore_n (ls1 := [some (.ref 0), some (.int x1), some (.int x2), some (.int (fX5_wayOf x1 x2)), none]) dX5_bumps_24 (Nat.le_of_ble_eq_true rfl) rfl ?_
    refine v_iconst (v := 0) dX5_bumps_25 rfl ?_
    refine v_istore (ls1 := [some (.ref 0), some (.int x1), some (.int x2), some (.int (fX5_wayOf x1 x2)), some (.int (0 : Int32))]) dX5_bumps_26 (Nat.le_of_ble_eq_true rfl) rfl ?_
    refine V.sub (ls' := [some (.ref 0), none, none, some (.int (fX5_wayOf x1 x2)), some (.int (0 : Int32))]) (And.intro rfl (And.intro rfl (And.intro rfl trivial))) ?_
    refine tX5_bumps_28 (fun h => ?_) FU _ _ h
    refine v_aload_n dX5_bumps_58 rfl ?_
    refine v_ldc (v := -1000000004) dX5_bumps_59 w_264 ?_
    obtain ⟨w6, e7, h⟩ := Option.bind_eq_some_iff.mp h
    refine v_callV (as := [.int (-1000000004 : Int32)]) (st := []) (sX5_tell e7) dX5_bumps_61 mlX5_64 (CRn (by decide) (by decide)) sh_0 rfl rfl rfl (Nat.le_of_ble_eq_true rfl) ?_
    replace h := Option.some.inj h; subst h
    exact v_iret rfl dX5_bumps_64
  · replace h := (if_pos c1).symm.trans h
    refine v_aload_n dX5_bumps_12 rfl ?_
    refine v_ldc (v := -1000000001) dX5_bumps_13 w_175 ?_
    obtain ⟨w8, e9, h⟩ := Option.bind_eq_some_iff.mp h
    refine v_callV (as := [.int (-1000000001 : Int32)]) (st := []) (sX5_tell e9) dX5_bumps_15 mlX5_64 (CRn (by decide) (by decide)) sh_0 rfl rfl rfl (Nat.le_of_ble_eq_true rfl) ?_
    replace h := Option.some.inj h; subst h
    exact v_iret rfl dX5_bumps_18
/-! ===== BentPlain$Ground.goOnOften(II)I ===== -/
def fX0_goOnOften_5 {ρ : Type} (kx : Int32 → Option ρ) (y2 : Int32) (M : Mem) : Nat → Int32 → Int32 → Option ρ
  | 0, _, _ => none
  | n + 1, y3, y4 => (if y2 ≤ y4 then (kx y3) else ((fX0_goOn y3 M).bind fun v2 => (fX0_goOnOften_5 kx y2 M n v2 (y4 + (1 : Int32)))))
def fX0_goOnOften (x1 : Int32) (x2 : Int32) (M : Mem) : Option Int32 := (fX0_goOnOften_5 (fun u4 => some u4) x2 M FU x1 (0 : Int32))
set_option maxRecDepth 100000 in
set_option maxHeartbeats 4000000 in
theorem tX0_goOnOften_5 {g : Wo} {ρ : Type} {kx : Int32 → Option ρ} {y2 : Int32} {M : Mem} {r : ρ} {rr : Option Value} {Mr : Mem} (hk : ∀ (z3 : Int32), kx z3 = some r → V g kX0_goOnOften (jm g 3 rr Mr) 23 [none, none, none, some (.int z3), none] [] M) : ∀ (n : Nat) (y3 : Int32) (y4 : Int32), fX0_goOnOften_5 kx y2 M n y3 y4 = some r → V g kX0_goOnOften (jm g 3 rr Mr) 5 [some (.ref 1), none, some (.int y2), some (.int y3), some (.int y4)] [] M := by
  intro n
  induction n with
  | zero =>
    intro y3 y4 h
    rw [fX0_goOnOften_5] at h
    cases h
  | succ n ih =>
    intro y3 y4 h
    rw [fX0_goOnOften_5] at h
    refine v_iload dX0_goOnOften_5 rfl ?_
    refine v_iload_n dX0_goOnOften_7 rfl ?_
    refine v_icmp_ge (tgt := 23) dX0_goOnOften_8 rfl (fun c1 => ?_) (fun c1 => ?_)
    · replace h := (if_pos c1).symm.trans h
      refine V.sub (ls' := [none, none, none, some (.int y3), none]) (And.intro rfl trivial) ?_
      exact hk _ h
    · replace h := (if_neg c1).symm.trans h
      refine v_aload_n dX0_goOnOften_11 rfl ?_
      refine v_iload_n dX0_goOnOften_12 rfl ?_
      obtain ⟨v2, e3, h⟩ := Option.bind_eq_some_iff.mp h
      refine v_callV (as := [.int y3]) (st := []) (sX0_goOn e3) dX0_goOnOften_13 mlX0_77 (CRn (by decide) (by decide)) sh_1 rfl rfl rfl (Nat.le_of_ble_eq_true rfl) ?_
      refine v_istore_n (ls1 := [some (.ref 1), none, some (.int y2), some (.int v2), some (.int y4)]) dX0_goOnOften_16 (Nat.le_of_ble_eq_true rfl) rfl ?_
      refine v_iinc (v := 1) (ls1 := [some (.ref 1), none, some (.int y2), some (.int v2), some (.int (y4 + (1 : Int32)))]) dX0_goOnOften_17 rfl rfl (Nat.le_of_ble_eq_true rfl) rfl ?_
      refine v_goto (tgt := 5) dX0_goOnOften_20 rfl ?_
      refine V.sub (ls' := [some (.ref 1), none, some (.int y2), some (.int v2), some (.int (y4 + (1 : Int32)))]) (And.intro rfl (And.intro rfl (And.intro rfl (And.intro rfl trivial)))) ?_
      exact ih _ _ h
set_option maxRecDepth 100000 in
set_option maxHeartbeats 4000000 in
theorem sX0_goOnOften {g : Wo} {M : Mem} {x1 : Int32} {x2 : Int32} {r : Int32} (h : fX0_goOnOften x1 x2 M = some r) : Sp g kX0_goOnOften 3 [.ref 1, .int x1, .int x2] M (some (.int r)) M := by
  rw [fX0_goOnOften] at h
  refine Sp_intro (by decide) [some (.ref 1), some (.int x1), some (.int x2), none, none] rfl (Nat.le_of_ble_eq_true rfl) ?_
  refine v_iload_n dX0_goOnOften_0 rfl ?_
  refine v_istore_n (ls1 := [some (.ref 1), some (.int x1), some (.int x2), some (.int x1), none]) dX0_goOnOften_1 (Nat.le_of_ble_eq_true rfl) rfl ?_
  refine v_iconst (v := 0) dX0_goOnOften_2 rfl ?_
  refine v_istore (ls1 := [some (.ref 1), some (.int x1), some (.int x2), some (.int x1), some (.int (0 : Int32))]) dX0_goOnOften_3 (Nat.le_of_ble_eq_true rfl) rfl ?_
  refine V.sub (ls' := [some (.ref 1), none, some (.int x2), some (.int x1), some (.int (0 : Int32))]) (And.intro rfl (And.intro rfl (And.intro rfl (And.intro rfl trivial)))) ?_
  refine tX0_goOnOften_5 (fun u4 h => ?_) FU _ _ h
  refine v_iload_n dX0_goOnOften_23 rfl ?_
  replace h := Option.some.inj h; subst h
  exact v_iret rfl dX0_goOnOften_24
/-! ===== BentPlain.square(III)I ===== -/
def fX5_square_44 (kx : Option (Int32 × Mem)) (y3 : Int32) (y4 : Int32) (M : Mem) : Nat → Int32 → Int32 → Option (Int32 × Mem)
  | 0, _, _ => none
  | n + 1, y5, y6 => (if (64 : Int32) < y6 then kx else ((fX0_goOnOften y5 y3 M).bind fun v9 => (if v9 = (-1 : Int32) then ((fX5_tell (-1000000004 : Int32) M).bind fun w13 => some (w13.1, w13.2)) else (if (fX5_turned v9 (1 : Int32)) = y4 then some (y6, M) else (fX5_square_44 kx y3 y4 M n (fX5_turned v9 (1 : Int32)) (y6 + (1 : Int32)))))))
def fX5_square (x1 : Int32) (x2 : Int32) (x3 : Int32) (M : Mem) : Option (Int32 × Mem) := (if (fX0_hasWay x1 x2 M) = 0 then ((fX5_tell (-1000000001 : Int32) M).bind fun w2 => some (w2.1, w2.2)) else (if x3 < (1 : Int32) then ((fX5_tell (-1000000001 : Int32) M).bind fun w5 => some (w5.1, w5.2)) else (if x3 ≤ (9 : Int32) then (fX5_square_44 (((fX5_tell (-1000000004 : Int32) M).bind fun w15 => some (w15.1, w15.2))) x3 (fX5_wayOf x1 x2) M FU (fX5_wayOf x1 x2) (1 : Int32)) else ((fX5_tell (-1000000001 : Int32) M).bind fun w17 => some (w17.1, w17.2)))))
set_option maxRecDepth 100000 in
set_option maxHeartbeats 4000000 in
theorem tX5_square_44 {g : Wo} {kx : Option (Int32 × Mem)} {y3 : Int32} {y4 : Int32} {M : Mem} {r : Int32 × Mem} (hk : kx = some r → V g kX5_square (jm g 4 (some (.int r.1)) r.2) 100 [some (.ref 0), none, none, none, none, none, none] [] M) : ∀ (n : Nat) (y5 : Int32) (y6 : Int32), fX5_square_44 kx y3 y4 M n y5 y6 = some r → V g kX5_square (jm g 4 (some (.int r.1)) r.2) 44 [some (.ref 0), none, none, some (.int y3), some (.int y4), some (.int y5), some (.int y6)] [] M := by
  intro n
  induction n with
  | zero =>
    intro y5 y6 h
    rw [fX5_square_44] at h
    cases h
  | succ n ih =>
    intro y5 y6 h
    rw [fX5_square_44] at h
    refine v_iload dX5_square_44 rfl ?_
    refine v_bipush (v := 64) dX5_square_46 rfl ?_
    refine v_icmp_gt (tgt := 100) dX5_square_48 rfl (fun c8 => ?_) (fun c8 => ?_)
    · replace h := (if_pos c8).symm.trans h
      refine V.sub (ls' := [some (.ref 0), none, none, none, none, none, none]) (And.intro rfl trivial) ?_
      exact hk h
    · replace h := (if_neg c8).symm.trans h
      refine v_aload_n dX5_square_51 rfl ?_
      refine v_getr dX5_square_52 flX5_12 sh_0 rfl ?_
      refine v_iload dX5_square_55 rfl ?_
      refine v_iload_n dX5_square_57 rfl ?_
      obtain ⟨v9, e10, h⟩ := Option.bind_eq_some_iff.mp h
      refine v_callV (as := [.int y5, .int y3]) (st := []) (sX0_goOnOften e10) dX5_square_58 mlX5_181 (CRn (by decide) (by decide)) sh_1 rfl rfl rfl (Nat.le_of_ble_eq_true rfl) ?_
      refine v_istore (ls1 := [some (.ref 0), none, none, some (.int y3), some (.int y4), some (.int v9), some (.int y6)]) dX5_square_61 (Nat.le_of_ble_eq_true rfl) rfl ?_
      refine v_iload dX5_square_63 rfl ?_
      refine v_iconst (v := -1) dX5_square_65 rfl ?_
      refine v_icmp_ne (tgt := 76) dX5_square_66 rfl (fun c11 => ?_) (fun c11 => ?_)
      · replace h := (if_neg c11).symm.trans h
        refine v_iload dX5_square_76 rfl ?_
        refine v_iconst (v := 1) dX5_square_78 rfl ?_
        refine v_callS (as := [.int v9, .int (1 : Int32)]) (st := []) (sX5_turned rfl) dX5_square_79 mlX5_184 (CRn (by decide) (by decide)) rfl rfl (Nat.le_of_ble_eq_true rfl) ?_
        refine v_istore (ls1 := [some (.ref 0), none, none, some (.int y3), some (.int y4), some (.int (fX5_turned v9 (1 : Int32))), some (.int y6)]) dX5_square_82 (Nat.le_of_ble_eq_true rfl) rfl ?_
        refine v_iload dX5_square_84 rfl ?_
        refine v_iload dX5_square_86 rfl ?_
        refine v_icmp_ne (tgt := 94) dX5_square_88 rfl (fun c12 => ?_) (fun c12 => ?_)
        · replace h := (if_neg c12).symm.trans h
          refine v_iinc (v := 1) (ls1 := [some (.ref 0), none, none, some (.int y3), some (.int y4), some (.int (fX5_turned v9 (1 : Int32))), some (.int (y6 + (1 : Int32)))]) dX5_square_94 rfl rfl (Nat.le_of_ble_eq_true rfl) rfl ?_
          refine v_goto (tgt := 44) dX5_square_97 rfl ?_
          refine V.sub (ls' := [some (.ref 0), none, none, some (.int y3), some (.int y4), some (.int (fX5_turned v9 (1 : Int32))), some (.int (y6 + (1 : Int32)))]) (And.intro rfl (And.intro rfl (And.intro rfl (And.intro rfl (And.intro rfl trivial))))) ?_
          exact ih _ _ h
        · replace h := (if_pos c12).symm.trans h
          refine v_iload dX5_square_91 rfl ?_
          replace h := Option.some.inj h; subst h
          exact v_iret rfl dX5_square_93
      · replace h := (if_pos c11).symm.trans h
        refine v_aload_n dX5_square_69 rfl ?_
        refine v_ldc (v := -1000000004) dX5_square_70 w_264 ?_
        obtain ⟨w13, e14, h⟩ := Option.bind_eq_some_iff.mp h
        refine v_callV (as := [.int (-1000000004 : Int32)]) (st := []) (sX5_tell e14) dX5_square_72 mlX5_64 (CRn (by decide) (by decide)) sh_0 rfl rfl rfl (Nat.le_of_ble_eq_true rfl) ?_
        replace h := Option.some.inj h; subst h
        exact v_iret rfl dX5_square_75
set_option maxRecDepth 100000 in
set_option maxHeartbeats 4000000 in
theorem sX5_square {g : Wo} {M : Mem} {x1 : Int32} {x2 : Int32} {x3 : Int32} {r : Int32 × Mem} (h : fX5_square x1 x2 x3 M = some r) : Sp g kX5_square 4 [.ref 0, .int x1, .int x2, .int x3] M (some (.int r.1)) r.2 := by
  rw [fX5_square] at h
  refine Sp_intro (by decide) [some (.ref 0), some (.int x1), some (.int x2), some (.int x3), none, none, none] rfl (Nat.le_of_ble_eq_true rfl) ?_
  refine v_aload_n dX5_square_0 rfl ?_
  refine v_getr dX5_square_1 flX5_12 sh_0 rfl ?_
  refine v_iload_n dX5_square_4 rfl ?_
  refine v_iload_n dX5_square_5 rfl ?_
  refine v_callV (as := [.int x1, .int x2]) (st := []) (sX0_hasWay rfl) dX5_square_6 mlX5_92 (CRn (by decide) (by decide)) sh_1 rfl rfl rfl (Nat.le_of_ble_eq_true rfl) ?_
  refine v_if_eq (tgt := 23) dX5_square_9 rfl (fun c1 => ?_) (fun c1 => ?_)
  · replace h := (if_pos c1).symm.trans h
    refine v_aload_n dX5_square_23 rfl ?_
    refine v_ldc (v := -1000000001) dX5_square_24 w_175 ?_
    obtain ⟨w2, e3, h⟩ := Option.bind_eq_some_iff.mp h
    refine v_callV (as := [.int (-1000000001 : Int32)]) (st := []) (sX5_tell e3) dX5_square_26 mlX5_64 (CRn (by decide) (by decide)) sh_0 rfl rfl rfl (Nat.le_of_ble_eq_true rfl) ?_
    replace h := Option.some.inj h; subst h
    exact v_iret rfl dX5_square_29
  · replace h := (if_neg c1).symm.trans h
    refine v_iload_n dX5_square_12 rfl ?_
    refine v_iconst (v := 1) dX5_square_13 rfl ?_
    refine v_icmp_lt (tgt := 23) dX5_square_14 rfl (fun c4 => ?_) (fun c4 => ?_)
    · replace h := (if_pos c4).symm.trans h
      refine v_aload_n dX5_square_23 rfl ?_
      refine v_ldc (v := -1000000001) dX5_square_24 w_175 ?_
      obtain ⟨w5, e6, h⟩ := Option.bind_eq_some_iff.mp h
      refine v_callV (as := [.int (-1000000001 : Int32)]) (st := []) (sX5_tell e6) dX5_square_26 mlX5_64 (CRn (by decide) (by decide)) sh_0 rfl rfl rfl (Nat.le_of_ble_eq_true rfl) ?_
      replace h := Option.some.inj h; subst h
      exact v_iret rfl dX5_square_29
    · replace h := (if_neg c4).symm.trans h
      refine v_iload_n dX5_square_17 rfl ?_
      refine v_bipush (v := 9) dX5_square_18 rfl ?_
      refine v_icmp_le (tgt := 30) dX5_square_20 rfl (fun c7 => ?_) (fun c7 => ?_)
      · replace h := (if_pos c7).symm.trans h
        refine v_iload_n dX5_square_30 rfl ?_
        refine v_iload_n dX5_square_31 rfl ?_
        refine v_callS (as := [.int x1, .int x2]) (st := []) (sX5_wayOf rfl) dX5_square_32 mlX5_96 (CRn (by decide) (by decide)) rfl rfl (Nat.le_of_ble_eq_true rfl) ?_
        refine v_istore (ls1 := [some (.ref 0), some (.int x1), some (.int x2), some (.int x3), some (.int (fX5_wayOf x1 x2)), none, none]) dX5_square_35 (Nat.le_of_ble_eq_true rfl) rfl ?_
        refine v_iload dX5_square_37 rfl ?_
        refine v_istore (ls1 := [some (.ref 0), some (.int x1), some (.int x2), some (.int x3), some (.int (fX5_wayOf x1 x2)), some (.int (fX5_wayOf x1 x2)), none]) dX5_square_39 (Nat.le_of_ble_eq_true rfl) rfl ?_
        refine v_iconst (v := 1) dX5_square_41 rfl ?_
        refine v_istore (ls1 := [some (.ref 0), some (.int x1), some (.int x2), some (.int x3), some (.int (fX5_wayOf x1 x2)), some (.int (fX5_wayOf x1 x2)), some (.int (1 : Int32))]) dX5_square_42 (Nat.le_of_ble_eq_true rfl) rfl ?_
        refine V.sub (ls' := [some (.ref 0), none, none, some (.int x3), some (.int (fX5_wayOf x1 x2)), some (.int (fX5_wayOf x1 x2)), some (.int (1 : Int32))]) (And.intro rfl (And.intro rfl (And.intro rfl (And.intro rfl (And.intro rfl trivial))))) ?_
        refine tX5_square_44 (fun h => ?_) FU _ _ h
        refine v_aload_n dX5_square_100 rfl ?_
        refine v_ldc (v := -1000000004) dX5_square_101 w_264 ?_
        obtain ⟨w15, e16, h⟩ := Option.bind_eq_some_iff.mp h
        refine v_callV (as := [.int (-1000000004 : Int32)]) (st := []) (sX5_tell e16) dX5_square_103 mlX5_64 (CRn (by decide) (by decide)) sh_0 rfl rfl rfl (Nat.le_of_ble_eq_true rfl) ?_
        replace h := Option.some.inj h; subst h
        exact v_iret rfl dX5_square_106
      · replace h := (if_neg c7).symm.trans h
        refine v_aload_n dX5_square_23 rfl ?_
        refine v_ldc (v := -1000000001) dX5_square_24 w_175 ?_
        obtain ⟨w17, e18, h⟩ := Option.bind_eq_some_iff.mp h
        refine v_callV (as := [.int (-1000000001 : Int32)]) (st := []) (sX5_tell e18) dX5_square_26 mlX5_64 (CRn (by decide) (by decide)) sh_0 rfl rfl rfl (Nat.le_of_ble_eq_true rfl) ?_
        replace h := Option.some.inj h; subst h
        exact v_iret rfl dX5_square_29
/-! ===== BentPlain.dine(IIII)I ===== -/
def fX5_dine_50 (kx : Option (Int32 × Mem)) (M : Mem) : Nat → Int32 → Int32 → Int32 → Option (Int32 × Mem)
  | 0, _, _, _ => none
  | n + 1, y5, y6, y7 => (if (64 : Int32) < y7 then kx else (if (fX5_fieldOf y5) = (fX5_fieldOf y6) then some (y7, M) else ((fX0_goOn y5 M).bind fun v7 => ((fX0_goOn y6 M).bind fun v9 => (if v7 = (-1 : Int32) then ((fX5_tell (-1000000004 : Int32) M).bind fun w12 => some (w12.1, w12.2)) else (if v9 = (-1 : Int32) then ((fX5_tell (-1000000004 : Int32) M).bind fun w15 => some (w15.1, w15.2)) else (fX5_dine_50 kx M n v7 v9 (y7 + (1 : Int32)))))))))
def fX5_dine (x1 : Int32) (x2 : Int32) (x3 : Int32) (x4 : Int32) (M : Mem) : Option (Int32 × Mem) := (if (fX0_hasWay x1 x2 M) = 0 then ((fX5_tell (-1000000001 : Int32) M).bind fun w2 => some (w2.1, w2.2)) else (if (fX0_hasWay x3 x4 M) = 0 then ((fX5_tell (-1000000001 : Int32) M).bind fun w19 => some (w19.1, w19.2)) else (fX5_dine_50 (((fX5_tell (-1000000004 : Int32) M).bind fun w17 => some (w17.1, w17.2))) M FU (fX5_wayOf x1 x2) (fX5_wayOf x3 x4) (0 : Int32))))
set_option maxRecDepth 100000 in
set_option maxHeartbeats 4000000 in
theorem tX5_dine_50 {g : Wo} {kx : Option (Int32 × Mem)} {M : Mem} {r : Int32 × Mem} (hk : kx = some r → V g kX5_dine (jm g 3 (some (.int r.1)) r.2) 120 [some (.ref 0), none, none, none, none, none, none, none] [] M) : ∀ (n : Nat) (y5 : Int32) (y6 : Int32) (y7 : Int32), fX5_dine_50 kx M n y5 y6 y7 = some r → V g kX5_dine (jm g 3 (some (.int r.1)) r.2) 50 [some (.ref 0), none, none, none, none, some (.int y5), some (.int y6), some (.int y7)] [] M := by
  intro n
  induction n with
  | zero =>
    intro y5 y6 y7 h
    rw [fX5_dine_50] at h
    cases h
  | succ n ih =>
    intro y5 y6 y7 h
    rw [fX5_dine_50] at h
    refine v_iload dX5_dine_50 rfl ?_
    refine v_bipush (v := 64) dX5_dine_52 rfl ?_
    refine v_icmp_gt (tgt := 120) dX5_dine_54 rfl (fun c5 => ?_) (fun c5 => ?_)
    · replace h := (if_pos c5).symm.trans h
      refine V.sub (ls' := [some (.ref 0), none, none, none, none, none, none, none]) (And.intro rfl trivial) ?_
      exact hk h
    · replace h := (if_neg c5).symm.trans h
      refine v_iload dX5_dine_57 rfl ?_
      refine v_callS (as := [.int y5]) (st := []) (sX5_fieldOf rfl) dX5_dine_59 mlX5_139 (CRn (by decide) (by decide)) rfl rfl (Nat.le_of_ble_eq_true rfl) ?_
      refine v_iload dX5_dine_62 rfl ?_
      refine v_callS (as := [.int y6]) (st := [.int (fX5_fieldOf y5)]) (sX5_fieldOf rfl) dX5_dine_64 mlX5_139 (CRn (by decide) (by decide)) rfl rfl (Nat.le_of_ble_eq_true rfl) ?_
      refine v_icmp_ne (tgt := 73) dX5_dine_67 rfl (fun c6 => ?_) (fun c6 => ?_)
      · replace h := (if_neg c6).symm.trans h
        refine v_aload_n dX5_dine_73 rfl ?_
        refine v_getr dX5_dine_74 flX5_12 sh_0 rfl ?_
        refine v_iload dX5_dine_77 rfl ?_
        obtain ⟨v7, e8, h⟩ := Option.bind_eq_some_iff.mp h
        refine v_callV (as := [.int y5]) (st := []) (sX0_goOn e8) dX5_dine_79 mlX5_178 (CRn (by decide) (by decide)) sh_1 rfl rfl rfl (Nat.le_of_ble_eq_true rfl) ?_
        refine v_istore (ls1 := [some (.ref 0), none, none, none, none, some (.int v7), some (.int y6), some (.int y7)]) dX5_dine_82 (Nat.le_of_ble_eq_true rfl) rfl ?_
        refine v_aload_n dX5_dine_84 rfl ?_
        refine v_getr dX5_dine_85 flX5_12 sh_0 rfl ?_
        refine v_iload dX5_dine_88 rfl ?_
        obtain ⟨v9, e10, h⟩ := Option.bind_eq_some_iff.mp h
        refine v_callV (as := [.int y6]) (st := []) (sX0_goOn e10) dX5_dine_90 mlX5_178 (CRn (by decide) (by decide)) sh_1 rfl rfl rfl (Nat.le_of_ble_eq_true rfl) ?_
        refine v_istore (ls1 := [some (.ref 0), none, none, none, none, some (.int v7), some (.int v9), some (.int y7)]) dX5_dine_93 (Nat.le_of_ble_eq_true rfl) rfl ?_
        refine v_iload dX5_dine_95 rfl ?_
        refine v_iconst (v := -1) dX5_dine_97 rfl ?_
        refine v_icmp_eq (tgt := 107) dX5_dine_98 rfl (fun c11 => ?_) (fun c11 => ?_)
        · replace h := (if_pos c11).symm.trans h
          refine v_aload_n dX5_dine_107 rfl ?_
          refine v_ldc (v := -1000000004) dX5_dine_108 w_264 ?_
          obtain ⟨w12, e13, h⟩ := Option.bind_eq_some_iff.mp h
          refine v_callV (as := [.int (-1000000004 : Int32)]) (st := []) (sX5_tell e13) dX5_dine_110 mlX5_64 (CRn (by decide) (by decide)) sh_0 rfl rfl rfl (Nat.le_of_ble_eq_true rfl) ?_
          replace h := Option.some.inj h; subst h
          exact v_iret rfl dX5_dine_113
        · replace h := (if_neg c11).symm.trans h
          refine v_iload dX5_dine_101 rfl ?_
          refine v_iconst (v := -1) dX5_dine_103 rfl ?_
          refine v_icmp_ne (tgt := 114) dX5_dine_104 rfl (fun c14 => ?_) (fun c14 => ?_)
          · replace h := (if_neg c14).symm.trans h
            refine v_iinc (v := 1) (ls1 := [some (.ref 0), none, none, none, none, some (.int v7), some (.int v9), some (.int (y7 + (1 : Int32)))]) dX5_dine_114 rfl rfl (Nat.le_of_ble_eq_true rfl) rfl ?_
            refine v_goto (tgt := 50) dX5_dine_117 rfl ?_
            refine V.sub (ls' := [some (.ref 0), none, none, none, none, some (.int v7), some (.int v9), some (.int (y7 + (1 : Int32)))]) (And.intro rfl (And.intro rfl (And.intro rfl (And.intro rfl trivial)))) ?_
            exact ih _ _ _ h
          · replace h := (if_pos c14).symm.trans h
            refine v_aload_n dX5_dine_107 rfl ?_
            refine v_ldc (v := -1000000004) dX5_dine_108 w_264 ?_
            obtain ⟨w15, e16, h⟩ := Option.bind_eq_some_iff.mp h
            refine v_callV (as := [.int (-1000000004 : Int32)]) (st := []) (sX5_tell e16) dX5_dine_110 mlX5_64 (CRn (by decide) (by decide)) sh_0 rfl rfl rfl (Nat.le_of_ble_eq_true rfl) ?_
            replace h := Option.some.inj h; subst h
            exact v_iret rfl dX5_dine_113
      · replace h := (if_pos c6).symm.trans h
        refine v_iload dX5_dine_70 rfl ?_
        replace h := Option.some.inj h; subst h
        exact v_iret rfl dX5_dine_72
set_option maxRecDepth 100000 in
set_option maxHeartbeats 4000000 in
theorem sX5_dine {g : Wo} {M : Mem} {x1 : Int32} {x2 : Int32} {x3 : Int32} {x4 : Int32} {r : Int32 × Mem} (h : fX5_dine x1 x2 x3 x4 M = some r) : Sp g kX5_dine 3 [.ref 0, .int x1, .int x2, .int x3, .int x4] M (some (.int r.1)) r.2 := by
  rw [fX5_dine] at h
  refine Sp_intro (by decide) [some (.ref 0), some (.int x1), some (.int x2), some (.int x3), some (.int x4), none, none, none] rfl (Nat.le_of_ble_eq_true rfl) ?_
  refine v_aload_n dX5_dine_0 rfl ?_
  refine v_getr dX5_dine_1 flX5_12 sh_0 rfl ?_
  refine v_iload_n dX5_dine_4 rfl ?_
  refine v_iload_n dX5_dine_5 rfl ?_
  refine v_callV (as := [.int x1, .int x2]) (st := []) (sX0_hasWay rfl) dX5_dine_6 mlX5_92 (CRn (by decide) (by decide)) sh_1 rfl rfl rfl (Nat.le_of_ble_eq_true rfl) ?_
  refine v_if_eq (tgt := 25) dX5_dine_9 rfl (fun c1 => ?_) (fun c1 => ?_)
  · replace h := (if_pos c1).symm.trans h
    refine v_aload_n dX5_dine_25 rfl ?_
    refine v_ldc (v := -1000000001) dX5_dine_26 w_175 ?_
    obtain ⟨w2, e3, h⟩ := Option.bind_eq_some_iff.mp h
    refine v_callV (as := [.int (-1000000001 : Int32)]) (st := []) (sX5_tell e3) dX5_dine_28 mlX5_64 (CRn (by decide) (by decide)) sh_0 rfl rfl rfl (Nat.le_of_ble_eq_true rfl) ?_
    replace h := Option.some.inj h; subst h
    exact v_iret rfl dX5_dine_31
  · replace h := (if_neg c1).symm.trans h
    refine v_aload_n dX5_dine_12 rfl ?_
    refine v_getr dX5_dine_13 flX5_12 sh_0 rfl ?_
    refine v_iload_n dX5_dine_16 rfl ?_
    refine v_iload dX5_dine_17 rfl ?_
    refine v_callV (as := [.int x3, .int x4]) (st := []) (sX0_hasWay rfl) dX5_dine_19 mlX5_92 (CRn (by decide) (by decide)) sh_1 rfl rfl rfl (Nat.le_of_ble_eq_true rfl) ?_
    refine v_if_ne (tgt := 32) dX5_dine_22 rfl (fun c4 => ?_) (fun c4 => ?_)
    · replace h := (if_neg c4).symm.trans h
      refine v_iload_n dX5_dine_32 rfl ?_
      refine v_iload_n dX5_dine_33 rfl ?_
      refine v_callS (as := [.int x1, .int x2]) (st := []) (sX5_wayOf rfl) dX5_dine_34 mlX5_96 (CRn (by decide) (by decide)) rfl rfl (Nat.le_of_ble_eq_true rfl) ?_
      refine v_istore (ls1 := [some (.ref 0), some (.int x1), some (.int x2), some (.int x3), some (.int x4), some (.int (fX5_wayOf x1 x2)), none, none]) dX5_dine_37 (Nat.le_of_ble_eq_true rfl) rfl ?_
      refine v_iload_n dX5_dine_39 rfl ?_
      refine v_iload dX5_dine_40 rfl ?_
      refine v_callS (as := [.int x3, .int x4]) (st := []) (sX5_wayOf rfl) dX5_dine_42 mlX5_96 (CRn (by decide) (by decide)) rfl rfl (Nat.le_of_ble_eq_true rfl) ?_
      refine v_istore (ls1 := [some (.ref 0), some (.int x1), some (.int x2), some (.int x3), some (.int x4), some (.int (fX5_wayOf x1 x2)), some (.int (fX5_wayOf x3 x4)), none]) dX5_dine_45 (Nat.le_of_ble_eq_true rfl) rfl ?_
      refine v_iconst (v := 0) dX5_dine_47 rfl ?_
      refine v_istore (ls1 := [some (.ref 0), some (.int x1), some (.int x2), some (.int x3), some (.int x4), some (.int (fX5_wayOf x1 x2)), some (.int (fX5_wayOf x3 x4)), some (.int (0 : Int32))]) dX5_dine_48 (Nat.le_of_ble_eq_true rfl) rfl ?_
      refine V.sub (ls' := [some (.ref 0), none, none, none, none, some (.int (fX5_wayOf x1 x2)), some (.int (fX5_wayOf x3 x4)), some (.int (0 : Int32))]) (And.intro rfl (And.intro rfl (And.intro rfl (And.intro rfl trivial)))) ?_
      refine tX5_dine_50 (fun h => ?_) FU _ _ _ h
      refine v_aload_n dX5_dine_120 rfl ?_
      refine v_ldc (v := -1000000004) dX5_dine_121 w_264 ?_
      obtain ⟨w17, e18, h⟩ := Option.bind_eq_some_iff.mp h
      refine v_callV (as := [.int (-1000000004 : Int32)]) (st := []) (sX5_tell e18) dX5_dine_123 mlX5_64 (CRn (by decide) (by decide)) sh_0 rfl rfl rfl (Nat.le_of_ble_eq_true rfl) ?_
      replace h := Option.some.inj h; subst h
      exact v_iret rfl dX5_dine_126
    · replace h := (if_pos c4).symm.trans h
      refine v_aload_n dX5_dine_25 rfl ?_
      refine v_ldc (v := -1000000001) dX5_dine_26 w_175 ?_
      obtain ⟨w19, e20, h⟩ := Option.bind_eq_some_iff.mp h
      refine v_callV (as := [.int (-1000000001 : Int32)]) (st := []) (sX5_tell e20) dX5_dine_28 mlX5_64 (CRn (by decide) (by decide)) sh_0 rfl rfl rfl (Nat.le_of_ble_eq_true rfl) ?_
      replace h := Option.some.inj h; subst h
      exact v_iret rfl dX5_dine_31
/-! ===== BentPlain$Ground.seenFrom(I)I ===== -/
def fX0_seenFrom_7 {ρ : Type} (kx : Int32 → Option ρ) (M : Mem) : Nat → Int32 → Int32 → Int32 → Option ρ
  | 0, _, _, _ => none
  | n + 1, y2, y3, y4 => (if (64 : Int32) ≤ y4 then (kx y2) else (if y3 = (-1 : Int32) then (kx y2) else ((fX0_goOn y3 M).bind fun v3 => (fX0_seenFrom_7 kx M n (y2 ||| ((1 : Int32) <<< ((fX5_fieldOf y3) &&& 31))) v3 (y4 + (1 : Int32))))))
def fX0_seenFrom (x1 : Int32) (M : Mem) : Option Int32 := (fX0_seenFrom_7 (fun u5 => some u5) M FU (0 : Int32) x1 (0 : Int32))
set_option maxRecDepth 100000 in
set_option maxHeartbeats 4000000 in
theorem tX0_seenFrom_7 {g : Wo} {ρ : Type} {kx : Int32 → Option ρ} {M : Mem} {r : ρ} {rr : Option Value} {Mr : Mem} (hk : ∀ (z2 : Int32), kx z2 = some r → V g kX0_seenFrom (jm g 3 rr Mr) 40 [none, none, some (.int z2), none, none] [] M) : ∀ (n : Nat) (y2 : Int32) (y3 : Int32) (y4 : Int32), fX0_seenFrom_7 kx M n y2 y3 y4 = some r → V g kX0_seenFrom (jm g 3 rr Mr) 7 [some (.ref 1), none, some (.int y2), some (.int y3), some (.int y4)] [] M := by
  intro n
  induction n with
  | zero =>
    intro y2 y3 y4 h
    rw [fX0_seenFrom_7] at h
    cases h
  | succ n ih =>
    intro y2 y3 y4 h
    rw [fX0_seenFrom_7] at h
    refine v_iload dX0_seenFrom_7 rfl ?_
    refine v_bipush (v := 64) dX0_seenFrom_9 rfl ?_
    refine v_icmp_ge (tgt := 40) dX0_seenFrom_11 rfl (fun c1 => ?_) (fun c1 => ?_)
    · replace h := (if_pos c1).symm.trans h
      refine V.sub (ls' := [none, none, some (.int y2), none, none]) (And.intro rfl trivial) ?_
      exact hk _ h
    · replace h := (if_neg c1).symm.trans h
      refine v_iload_n dX0_seenFrom_14 rfl ?_
      refine v_iconst (v := -1) dX0_seenFrom_15 rfl ?_
      refine v_icmp_eq (tgt := 40) dX0_seenFrom_16 rfl (fun c2 => ?_) (fun c2 => ?_)
      · replace h := (if_pos c2).symm.trans h
        refine V.sub (ls' := [none, none, some (.int y2), none, none]) (And.intro rfl trivial) ?_
        exact hk _ h
      · replace h := (if_neg c2).symm.trans h
        refine v_iload_n dX0_seenFrom_19 rfl ?_
        refine v_iconst (v := 1) dX0_seenFrom_20 rfl ?_
        refine v_iload_n dX0_seenFrom_21 rfl ?_
        refine v_callN (as := [.int y3]) (st := [.int (1 : Int32), .int y2]) (sX5_fieldOf rfl) dX0_seenFrom_22 mlX0_68 (CRn (by decide) (by decide)) rfl rfl (Nat.le_of_ble_eq_true rfl) ?_
        refine v_ishl dX0_seenFrom_25 ?_
        refine v_ior dX0_seenFrom_26 ?_
        refine v_istore_n (ls1 := [some (.ref 1), none, some (.int (y2 ||| ((1 : Int32) <<< ((fX5_fieldOf y3) &&& 31)))), some (.int y3), some (.int y4)]) dX0_seenFrom_27 (Nat.le_of_ble_eq_true rfl) rfl ?_
        refine v_aload_n dX0_seenFrom_28 rfl ?_
        refine v_iload_n dX0_seenFrom_29 rfl ?_
        obtain ⟨v3, e4, h⟩ := Option.bind_eq_some_iff.mp h
        refine v_callV (as := [.int y3]) (st := []) (sX0_goOn e4) dX0_seenFrom_30 mlX0_77 (CRn (by decide) (by decide)) sh_1 rfl rfl rfl (Nat.le_of_ble_eq_true rfl) ?_
        refine v_istore_n (ls1 := [some (.ref 1), none, some (.int (y2 ||| ((1 : Int32) <<< ((fX5_fieldOf y3) &&& 31)))), some (.int v3), some (.int y4)]) dX0_seenFrom_33 (Nat.le_of_ble_eq_true rfl) rfl ?_
        refine v_iinc (v := 1) (ls1 := [some (.ref 1), none, some (.int (y2 ||| ((1 : Int32) <<< ((fX5_fieldOf y3) &&& 31)))), some (.int v3), some (.int (y4 + (1 : Int32)))]) dX0_seenFrom_34 rfl rfl (Nat.le_of_ble_eq_true rfl) rfl ?_
        refine v_goto (tgt := 7) dX0_seenFrom_37 rfl ?_
        refine V.sub (ls' := [some (.ref 1), none, some (.int (y2 ||| ((1 : Int32) <<< ((fX5_fieldOf y3) &&& 31)))), some (.int v3), some (.int (y4 + (1 : Int32)))]) (And.intro rfl (And.intro rfl (And.intro rfl (And.intro rfl trivial)))) ?_
        exact ih _ _ _ h
set_option maxRecDepth 100000 in
set_option maxHeartbeats 4000000 in
theorem sX0_seenFrom {g : Wo} {M : Mem} {x1 : Int32} {r : Int32} (h : fX0_seenFrom x1 M = some r) : Sp g kX0_seenFrom 3 [.ref 1, .int x1] M (some (.int r)) M := by
  rw [fX0_seenFrom] at h
  refine Sp_intro (by decide) [some (.ref 1), some (.int x1), none, none, none] rfl (Nat.le_of_ble_eq_true rfl) ?_
  refine v_iconst (v := 0) dX0_seenFrom_0 rfl ?_
  refine v_istore_n (ls1 := [some (.ref 1), some (.int x1), some (.int (0 : Int32)), none, none]) dX0_seenFrom_1 (Nat.le_of_ble_eq_true rfl) rfl ?_
  refine v_iload_n dX0_seenFrom_2 rfl ?_
  refine v_istore_n (ls1 := [some (.ref 1), some (.int x1), some (.int (0 : Int32)), some (.int x1), none]) dX0_seenFrom_3 (Nat.le_of_ble_eq_true rfl) rfl ?_
  refine v_iconst (v := 0) dX0_seenFrom_4 rfl ?_
  refine v_istore (ls1 := [some (.ref 1), some (.int x1), some (.int (0 : Int32)), some (.int x1), some (.int (0 : Int32))]) dX0_seenFrom_5 (Nat.le_of_ble_eq_true rfl) rfl ?_
  refine V.sub (ls' := [some (.ref 1), none, some (.int (0 : Int32)), some (.int x1), some (.int (0 : Int32))]) (And.intro rfl (And.intro rfl (And.intro rfl (And.intro rfl trivial)))) ?_
  refine tX0_seenFrom_7 (fun u5 h => ?_) FU _ _ _ h
  refine v_iload_n dX0_seenFrom_40 rfl ?_
  replace h := Option.some.inj h; subst h
  exact v_iret rfl dX0_seenFrom_41
/-! ===== BentPlain.sees(II)I ===== -/
def fX5_sees (x1 : Int32) (x2 : Int32) (M : Mem) : Option (Int32 × Mem) := (if (fX0_hasWay x1 x2 M) = 0 then ((fX5_tell (-1000000001 : Int32) M).bind fun w4 => some (w4.1, w4.2)) else ((fX0_seenFrom (fX5_wayOf x1 x2) M).bind fun v2 => some (v2, M)))
set_option maxRecDepth 100000 in
set_option maxHeartbeats 4000000 in
theorem sX5_sees {g : Wo} {M : Mem} {x1 : Int32} {x2 : Int32} {r : Int32 × Mem} (h : fX5_sees x1 x2 M = some r) : Sp g kX5_sees 4 [.ref 0, .int x1, .int x2] M (some (.int r.1)) r.2 := by
  rw [fX5_sees] at h
  refine Sp_intro (by decide) [some (.ref 0), some (.int x1), some (.int x2)] rfl (Nat.le_of_ble_eq_true rfl) ?_
  refine v_aload_n dX5_sees_0 rfl ?_
  refine v_getr dX5_sees_1 flX5_12 sh_0 rfl ?_
  refine v_iload_n dX5_sees_4 rfl ?_
  refine v_iload_n dX5_sees_5 rfl ?_
  refine v_callV (as := [.int x1, .int x2]) (st := []) (sX0_hasWay rfl) dX5_sees_6 mlX5_92 (CRn (by decide) (by decide)) sh_1 rfl rfl rfl (Nat.le_of_ble_eq_true rfl) ?_
  refine v_if_ne (tgt := 19) dX5_sees_9 rfl (fun c1 => ?_) (fun c1 => ?_)
  · replace h := (if_neg c1).symm.trans h
    refine v_aload_n dX5_sees_19 rfl ?_
    refine v_getr dX5_sees_20 flX5_12 sh_0 rfl ?_
    refine v_iload_n dX5_sees_23 rfl ?_
    refine v_iload_n dX5_sees_24 rfl ?_
    refine v_callS (as := [.int x1, .int x2]) (st := [.ref 1]) (sX5_wayOf rfl) dX5_sees_25 mlX5_96 (CRn (by decide) (by decide)) rfl rfl (Nat.le_of_ble_eq_true rfl) ?_
    obtain ⟨v2, e3, h⟩ := Option.bind_eq_some_iff.mp h
    refine v_callV (as := [.int (fX5_wayOf x1 x2)]) (st := []) (sX0_seenFrom e3) dX5_sees_28 mlX5_187 (CRn (by decide) (by decide)) sh_1 rfl rfl rfl (Nat.le_of_ble_eq_true rfl) ?_
    replace h := Option.some.inj h; subst h
    exact v_iret rfl dX5_sees_31
  · replace h := (if_pos c1).symm.trans h
    refine v_aload_n dX5_sees_12 rfl ?_
    refine v_ldc (v := -1000000001) dX5_sees_13 w_175 ?_
    obtain ⟨w4, e5, h⟩ := Option.bind_eq_some_iff.mp h
    refine v_callV (as := [.int (-1000000001 : Int32)]) (st := []) (sX5_tell e5) dX5_sees_15 mlX5_64 (CRn (by decide) (by decide)) sh_0 rfl rfl rfl (Nat.le_of_ble_eq_true rfl) ?_
    replace h := Option.some.inj h; subst h
    exact v_iret rfl dX5_sees_18
/-! ===== BentPlain.twice(I)I ===== -/
def fX5_twice_25 {ρ : Type} (kx : Int32 → Option ρ) (y1 : Int32) (M : Mem) : Nat → Int32 → Int32 → Int32 → Option ρ
  | 0, _, _, _ => none
  | n + 1, y2, y3, y4 => (if (4 : Int32) ≤ y4 then (kx y3) else ((fX0_seenFrom (fX5_wayOf y1 y4) M).bind fun v3 => (fX5_twice_25 kx y1 M n (y2 ||| v3) (y3 ||| (y2 &&& v3)) (y4 + (1 : Int32)))))
def fX5_twice (x1 : Int32) (M : Mem) : Option (Int32 × Mem) := (if (fX0_hasField x1 M) = 0 then ((fX5_tell (-1000000001 : Int32) M).bind fun w6 => some (w6.1, w6.2)) else (fX5_twice_25 (fun u5 => some ((fJ6_bitCount_0f7a4 (u5 &&& (((1 : Int32) <<< (x1 &&& 31)) ^^^ (-1 : Int32)))), M)) x1 M FU (0 : Int32) (0 : Int32) (0 : Int32)))
set_option maxRecDepth 100000 in
set_option maxHeartbeats 4000000 in
theorem tX5_twice_25 {g : Wo} {ρ : Type} {kx : Int32 → Option ρ} {y1 : Int32} {M : Mem} {r : ρ} {rr : Option Value} {Mr : Mem} (hk : ∀ (z3 : Int32), kx z3 = some r → V g kX5_twice (jm g 4 rr Mr) 64 [none, some (.int y1), none, some (.int z3), none, none] [] M) : ∀ (n : Nat) (y2 : Int32) (y3 : Int32) (y4 : Int32), fX5_twice_25 kx y1 M n y2 y3 y4 = some r → V g kX5_twice (jm g 4 rr Mr) 25 [some (.ref 0), some (.int y1), some (.int y2), some (.int y3), some (.int y4), none] [] M := by
  intro n
  induction n with
  | zero =>
    intro y2 y3 y4 h
    rw [fX5_twice_25] at h
    cases h
  | succ n ih =>
    intro y2 y3 y4 h
    rw [fX5_twice_25] at h
    refine v_iload dX5_twice_25 rfl ?_
    refine v_iconst (v := 4) dX5_twice_27 rfl ?_
    refine v_icmp_ge (tgt := 64) dX5_twice_28 rfl (fun c2 => ?_) (fun c2 => ?_)
    · replace h := (if_pos c2).symm.trans h
      refine V.sub (ls' := [none, some (.int y1), none, some (.int y3), none, none]) (And.intro rfl (And.intro rfl trivial)) ?_
      exact hk _ h
    · replace h := (if_neg c2).symm.trans h
      refine v_aload_n dX5_twice_31 rfl ?_
      refine v_getr dX5_twice_32 flX5_12 sh_0 rfl ?_
      refine v_iload_n dX5_twice_35 rfl ?_
      refine v_iload dX5_twice_36 rfl ?_
      refine v_callS (as := [.int y1, .int y4]) (st := [.ref 1]) (sX5_wayOf rfl) dX5_twice_38 mlX5_96 (CRn (by decide) (by decide)) rfl rfl (Nat.le_of_ble_eq_true rfl) ?_
      obtain ⟨v3, e4, h⟩ := Option.bind_eq_some_iff.mp h
      refine v_callV (as := [.int (fX5_wayOf y1 y4)]) (st := []) (sX0_seenFrom e4) dX5_twice_41 mlX5_187 (CRn (by decide) (by decide)) sh_1 rfl rfl rfl (Nat.le_of_ble_eq_true rfl) ?_
      refine v_istore (ls1 := [some (.ref 0), some (.int y1), some (.int y2), some (.int y3), some (.int y4), some (.int v3)]) dX5_twice_44 (Nat.le_of_ble_eq_true rfl) rfl ?_
      refine v_iload_n dX5_twice_46 rfl ?_
      refine v_iload_n dX5_twice_47 rfl ?_
      refine v_iload dX5_twice_48 rfl ?_
      refine v_iand dX5_twice_50 ?_
      refine v_ior dX5_twice_51 ?_
      refine v_istore_n (ls1 := [some (.ref 0), some (.int y1), some (.int y2), some (.int (y3 ||| (y2 &&& v3))), some (.int y4), some (.int v3)]) dX5_twice_52 (Nat.le_of_ble_eq_true rfl) rfl ?_
      refine v_iload_n dX5_twice_53 rfl ?_
      refine v_iload dX5_twice_54 rfl ?_
      refine v_ior dX5_twice_56 ?_
      refine v_istore_n (ls1 := [some (.ref 0), some (.int y1), some (.int (y2 ||| v3)), some (.int (y3 ||| (y2 &&& v3))), some (.int y4), some (.int v3)]) dX5_twice_57 (Nat.le_of_ble_eq_true rfl) rfl ?_
      refine v_iinc (v := 1) (ls1 := [some (.ref 0), some (.int y1), some (.int (y2 ||| v3)), some (.int (y3 ||| (y2 &&& v3))), some (.int (y4 + (1 : Int32))), some (.int v3)]) dX5_twice_58 rfl rfl (Nat.le_of_ble_eq_true rfl) rfl ?_
      refine v_goto (tgt := 25) dX5_twice_61 rfl ?_
      refine V.sub (ls' := [some (.ref 0), some (.int y1), some (.int (y2 ||| v3)), some (.int (y3 ||| (y2 &&& v3))), some (.int (y4 + (1 : Int32))), none]) (And.intro rfl (And.intro rfl (And.intro rfl (And.intro rfl (And.intro rfl trivial))))) ?_
      exact ih _ _ _ h
set_option maxRecDepth 100000 in
set_option maxHeartbeats 4000000 in
theorem sX5_twice {g : Wo} {M : Mem} {x1 : Int32} {r : Int32 × Mem} (h : fX5_twice x1 M = some r) : Sp g kX5_twice 4 [.ref 0, .int x1] M (some (.int r.1)) r.2 := by
  rw [fX5_twice] at h
  refine Sp_intro (by decide) [some (.ref 0), some (.int x1), none, none, none, none] rfl (Nat.le_of_ble_eq_true rfl) ?_
  refine v_aload_n dX5_twice_0 rfl ?_
  refine v_getr dX5_twice_1 flX5_12 sh_0 rfl ?_
  refine v_iload_n dX5_twice_4 rfl ?_
  refine v_callV (as := [.int x1]) (st := []) (sX0_hasField rfl) dX5_twice_5 mlX5_76 (CRn (by decide) (by decide)) sh_1 rfl rfl rfl (Nat.le_of_ble_eq_true rfl) ?_
  refine v_if_ne (tgt := 18) dX5_twice_8 rfl (fun c1 => ?_) (fun c1 => ?_)
  · replace h := (if_neg c1).symm.trans h
    refine v_iconst (v := 0) dX5_twice_18 rfl ?_
    refine v_istore_n (ls1 := [some (.ref 0), some (.int x1), some (.int (0 : Int32)), none, none, none]) dX5_twice_19 (Nat.le_of_ble_eq_true rfl) rfl ?_
    refine v_iconst (v := 0) dX5_twice_20 rfl ?_
    refine v_istore_n (ls1 := [some (.ref 0), some (.int x1), some (.int (0 : Int32)), some (.int (0 : Int32)), none, none]) dX5_twice_21 (Nat.le_of_ble_eq_true rfl) rfl ?_
    refine v_iconst (v := 0) dX5_twice_22 rfl ?_
    refine v_istore (ls1 := [some (.ref 0), some (.int x1), some (.int (0 : Int32)), some (.int (0 : Int32)), some (.int (0 : Int32)), none]) dX5_twice_23 (Nat.le_of_ble_eq_true rfl) rfl ?_
    refine V.sub (ls' := [some (.ref 0), some (.int x1), some (.int (0 : Int32)), some (.int (0 : Int32)), some (.int (0 : Int32)), none]) (And.intro rfl (And.intro rfl (And.intro rfl (And.intro rfl (And.intro rfl trivial))))) ?_
    refine tX5_twice_25 (fun u5 h => ?_) FU _ _ _ h
    refine v_iload_n dX5_twice_64 rfl ?_
    refine v_iconst (v := 1) dX5_twice_65 rfl ?_
    refine v_iload_n dX5_twice_66 rfl ?_
    refine v_ishl dX5_twice_67 ?_
    refine v_iconst (v := -1) dX5_twice_68 rfl ?_
    refine v_ixor dX5_twice_69 ?_
    refine v_iand dX5_twice_70 ?_
    refine v_callS (as := [.int (u5 &&& (((1 : Int32) <<< (x1 &&& 31)) ^^^ (-1 : Int32)))]) (st := []) (sJ6_bitCount_0f7a4 rfl) dX5_twice_71 mlX5_190 (CRn (by decide) (by decide)) rfl rfl (Nat.le_of_ble_eq_true rfl) ?_
    replace h := Option.some.inj h; subst h
    exact v_iret rfl dX5_twice_74
  · replace h := (if_pos c1).symm.trans h
    refine v_aload_n dX5_twice_11 rfl ?_
    refine v_ldc (v := -1000000001) dX5_twice_12 w_175 ?_
    obtain ⟨w6, e7, h⟩ := Option.bind_eq_some_iff.mp h
    refine v_callV (as := [.int (-1000000001 : Int32)]) (st := []) (sX5_tell e7) dX5_twice_14 mlX5_64 (CRn (by decide) (by decide)) sh_0 rfl rfl rfl (Nat.le_of_ble_eq_true rfl) ?_
    replace h := Option.some.inj h; subst h
    exact v_iret rfl dX5_twice_17
