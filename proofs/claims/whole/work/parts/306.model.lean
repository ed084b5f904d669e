/-! ===== BentPlainModel.smooth(II)I ===== -/
def fX6_smooth_25 {ρ : Type} (kx : Mem → Option ρ) (y1 : Int32) (y2 : Int32) : Nat → Int32 → Mem → Option ρ
  | 0, _, _ => none
  | n + 1, y3, M => ((ldI M 50 112 (0 : Int32)).bind fun v9 => (if v9 ≤ y3 then (kx M) else ((stI M 55 64 y3 (if y3 = y1 then (0 : Int32) else (1000000 : Int32))).bind fun M13 => (fX6_smooth_25 kx y1 y2 n (y3 + (1 : Int32)) M13))))
def fX6_smooth_69 {ρ : Type} (kx : Mem → Option ρ) (y2 : Int32) (y3 : Int32) : Nat → Int32 → Mem → Option ρ
  | 0, _, _ => none
  | n + 1, y4, M => ((ldI M 50 112 (0 : Int32)).bind fun v17 => (if ((4 : Int32) * v17) ≤ y4 then (kx M) else ((ldI M 50 112 ((18 : Int32) + y4)).bind fun v20 => ((if v20 = 0 then some (y4 / (4 : Int32)) else ((ldI M 50 112 ((18 : Int32) + y4)).bind fun v26 => some ((v26 - (1 : Int32)) / (4 : Int32)))).bind fun t24 => ((ldI M 55 64 (y4 / (4 : Int32))).bind fun v28 => ((ldI M 50 112 ((2 : Int32) + t24)).bind fun v30 => ((ldI M 50 112 ((18 : Int32) + y4)).bind fun v32 => ((if v32 ≤ 0 then ((ldI M 55 64 t24).bind fun v38 => some v38) else ((ldI M 55 64 t24).bind fun v40 => (if v40 ≤ (v28 + v30) then ((ldI M 55 64 t24).bind fun v43 => some v43) else some (v28 + v30)))).bind fun t36 => ((stI M 55 64 t24 t36).bind fun M45 => (fX6_smooth_69 kx y2 y3 n (y4 + (1 : Int32)) M45))))))))))
def fX6_smooth_60 {ρ : Type} (kx : Mem → Option ρ) (y2 : Int32) : Nat → Int32 → Mem → Option ρ
  | 0, _, _ => none
  | n + 1, y3, M => (if (16 : Int32) ≤ y3 then (kx M) else (fX6_smooth_69 (fun M47 => (fX6_smooth_60 kx y2 n (y3 + (1 : Int32)) M47)) y2 y3 FU (0 : Int32) M))
def fX6_smooth (x1 : Int32) (x2 : Int32) (M : Mem) : Option (Int32 × Mem) := ((fX6_isField x1 M).bind fun v1 => (if v1 = 0 then ((fX6_finds (-1000000001 : Int32) M).bind fun w4 => some (w4.1, w4.2)) else ((fX6_isField x2 M).bind fun v6 => (if v6 = 0 then ((fX6_finds (-1000000001 : Int32) M).bind fun w53 => some (w53.1, w53.2)) else (fX6_smooth_25 (fun M15 => (fX6_smooth_60 (fun M48 => ((ldI M48 55 64 x2).bind fun v49 => ((fX6_orNone v49 (999999 : Int32) M48).bind fun w51 => some (w51.1, w51.2)))) x2 FU (0 : Int32) M15)) x1 x2 FU (0 : Int32) M)))))
set_option maxRecDepth 100000 in
set_option maxHeartbeats 4000000 in
theorem tX6_smooth_25 {g : Wo} {ρ : Type} {kx : Mem → Option ρ} {y1 : Int32} {y2 : Int32} {r : ρ} {rr : Option Value} {Mr : Mem} (hk : ∀ (Mx : Mem), kx Mx = some r → V g kX6_smooth (jm g 2 rr Mr) 58 [some (.ref 49), none, some (.int y2), none, none, none, none] [] Mx) : ∀ (n : Nat) (y3 : Int32) (M : Mem), fX6_smooth_25 kx y1 y2 n y3 M = some r → V g kX6_smooth (jm g 2 rr Mr) 25 [some (.ref 49), some (.int y1), some (.int y2), some (.int y3), none, none, none] [] M := by
  intro n
  induction n with
  | zero =>
    intro y3 M h
    rw [fX6_smooth_25] at h
    cases h
  | succ n ih =>
    intro y3 M h
    rw [fX6_smooth_25] at h
    refine v_iload_n dX6_smooth_25 rfl ?_
    refine v_aload_n dX6_smooth_26 rfl ?_
    refine v_getr dX6_smooth_27 flX6_7 sh_49 rfl ?_
    refine v_iconst (v := 0) dX6_smooth_30 rfl ?_
    obtain ⟨v9, e10, h⟩ := Option.bind_eq_some_iff.mp h
    refine v_ild e10 dX6_smooth_31 sh_50 ?_
    refine v_icmp_ge (tgt := 58) dX6_smooth_32 rfl (fun c11 => ?_) (fun c11 => ?_)
    · replace h := (if_pos c11).symm.trans h
      refine V.sub (ls' := [some (.ref 49), none, some (.int y2), none, none, none, none]) (And.intro rfl (And.intro rfl trivial)) ?_
      exact hk _ h
    · replace h := (if_neg c11).symm.trans h
      refine v_aload_n dX6_smooth_35 rfl ?_
      refine v_getr dX6_smooth_36 flX6_25 sh_49 rfl ?_
      refine v_iload_n dX6_smooth_39 rfl ?_
      refine v_iload_n dX6_smooth_40 rfl ?_
      refine v_iload_n dX6_smooth_41 rfl ?_
      have hJ : V g kX6_smooth (jm g 2 rr Mr) 51 [some (.ref 49), some (.int y1), some (.int y2), some (.int y3), none, none, none] [.int (if y3 = y1 then (0 : Int32) else (1000000 : Int32)), .int y3, .ref 55] M := by
        obtain ⟨M13, e14, h⟩ := Option.bind_eq_some_iff.mp h
        refine v_ist e14 dX6_smooth_51 sh_55 ?_
        refine v_iinc (v := 1) (ls1 := [some (.ref 49), some (.int y1), some (.int y2), some (.int (y3 + (1 : Int32))), none, none, none]) dX6_smooth_52 rfl rfl (Nat.le_of_ble_eq_true rfl) rfl ?_
        refine v_goto (tgt := 25) dX6_smooth_55 rfl ?_
        refine V.sub (ls' := [some (.ref 49), some (.int y1), some (.int y2), some (.int (y3 + (1 : Int32))), none, none, none]) (And.intro rfl (And.intro rfl (And.intro rfl (And.intro rfl trivial)))) ?_
        exact ih _ _ h
      refine v_icmp_ne (tgt := 49) dX6_smooth_42 rfl (fun c12 => ?_) (fun c12 => ?_)
      · refine v_ldc (v := 1000000) dX6_smooth_49 w_1066 ?_
        refine V.sub (ls' := [some (.ref 49), some (.int y1), some (.int y2), some (.int y3), none, none, none]) (And.intro rfl (And.intro rfl (And.intro rfl (And.intro rfl trivial)))) ?_
        first | (simp only [if_neg c12] at hJ; exact hJ) | exact hJ | (simp only [if_neg c12] at hJ ⊢; exact hJ)
      · refine v_iconst (v := 0) dX6_smooth_45 rfl ?_
        refine v_goto (tgt := 51) dX6_smooth_46 rfl ?_
        refine V.sub (ls' := [some (.ref 49), some (.int y1), some (.int y2), some (.int y3), none, none, none]) (And.intro rfl (And.intro rfl (And.intro rfl (And.intro rfl trivial)))) ?_
        first | (simp only [if_pos c12] at hJ; exact hJ) | exact hJ | (simp only [if_pos c12] at hJ ⊢; exact hJ)
set_option maxRecDepth 100000 in
set_option maxHeartbeats 4000000 in
theorem tX6_smooth_69 {g : Wo} {ρ : Type} {kx : Mem → Option ρ} {y2 : Int32} {y3 : Int32} {r : ρ} {rr : Option Value} {Mr : Mem} (hk : ∀ (Mx : Mem), kx Mx = some r → V g kX6_smooth (jm g 2 rr Mr) 189 [some (.ref 49), none, some (.int y2), some (.int y3), none, none, none] [] Mx) : ∀ (n : Nat) (y4 : Int32) (M : Mem), fX6_smooth_69 kx y2 y3 n y4 M = some r → V g kX6_smooth (jm g 2 rr Mr) 69 [some (.ref 49), none, some (.int y2), some (.int y3), some (.int y4), none, none] [] M := by
  intro n
  induction n with
  | zero =>
    intro y4 M h
    rw [fX6_smooth_69] at h
    cases h
  | succ n ih =>
    intro y4 M h
    rw [fX6_smooth_69] at h
    refine v_iload dX6_smooth_69 rfl ?_
    refine v_iconst (v := 4) dX6_smooth_71 rfl ?_
    refine v_aload_n dX6_smooth_72 rfl ?_
    refine v_getr dX6_smooth_73 flX6_7 sh_49 rfl ?_
    refine v_iconst (v := 0) dX6_smooth_76 rfl ?_
    obtain ⟨v17, e18, h⟩ := Option.bind_eq_some_iff.mp h
    refine v_ild e18 dX6_smooth_77 sh_50 ?_
    refine v_imul dX6_smooth_78 ?_
    refine v_icmp_ge (tgt := 189) dX6_smooth_79 rfl (fun c19 => ?_) (fun c19 => ?_)
    · replace h := (if_pos c19).symm.trans h
      refine V.sub (ls' := [some (.ref 49), none, some (.int y2), some (.int y3), none, none, none]) (And.intro rfl (And.intro rfl (And.intro rfl trivial))) ?_
      exact hk _ h
    · replace h := (if_neg c19).symm.trans h
      refine v_aload_n dX6_smooth_82 rfl ?_
      refine v_getr dX6_smooth_83 flX6_7 sh_49 rfl ?_
      refine v_bipush (v := 18) dX6_smooth_86 rfl ?_
      refine v_iload dX6_smooth_88 rfl ?_
      refine v_iadd dX6_smooth_90 ?_
      obtain ⟨v20, e21, h⟩ := Option.bind_eq_some_iff.mp h
      refine v_ild e21 dX6_smooth_91 sh_50 ?_
      obtain ⟨t24, e25, h⟩ := Option.bind_eq_some_iff.mp h
      have hJ : V g kX6_smooth (jm g 2 rr Mr) 116 [some (.ref 49), none, some (.int y2), some (.int y3), some (.int y4), none, none] [.int t24] M := by
        refine v_istore (ls1 := [some (.ref 49), none, some (.int y2), some (.int y3), some (.int y4), some (.int t24), none]) dX6_smooth_116 (Nat.le_of_ble_eq_true rfl) rfl ?_
        refine v_aload_n dX6_smooth_118 rfl ?_
        refine v_getr dX6_smooth_119 flX6_25 sh_49 rfl ?_
        refine v_iload dX6_smooth_122 rfl ?_
        refine v_iconst (v := 4) dX6_smooth_124 rfl ?_
        refine v_idiv dX6_smooth_125 (by decide) ?_
        obtain ⟨v28, e29, h⟩ := Option.bind_eq_some_iff.mp h
        refine v_ild e29 dX6_smooth_126 sh_55 ?_
        refine v_aload_n dX6_smooth_127 rfl ?_
        refine v_getr dX6_smooth_128 flX6_7 sh_49 rfl ?_
        refine v_iconst (v := 2) dX6_smooth_131 rfl ?_
        refine v_iload dX6_smooth_132 rfl ?_
        refine v_iadd dX6_smooth_134 ?_
        obtain ⟨v30, e31, h⟩ := Option.bind_eq_some_iff.mp h
        refine v_ild e31 dX6_smooth_135 sh_50 ?_
        refine v_iadd dX6_smooth_136 ?_
        refine v_istore (ls1 := [some (.ref 49), none, some (.int y2), some (.int y3), some (.int y4), some (.int t24), some (.int (v28 + v30))]) dX6_smooth_137 (Nat.le_of_ble_eq_true rfl) rfl ?_
        refine v_aload_n dX6_smooth_139 rfl ?_
        refine v_getr dX6_smooth_140 flX6_25 sh_49 rfl ?_
        refine v_iload dX6_smooth_143 rfl ?_
        refine v_aload_n dX6_smooth_145 rfl ?_
        refine v_getr dX6_smooth_146 flX6_7 sh_49 rfl ?_
        refine v_bipush (v := 18) dX6_smooth_149 rfl ?_
        refine v_iload dX6_smooth_151 rfl ?_
        refine v_iadd dX6_smooth_153 ?_
        obtain ⟨v32, e33, h⟩ := Option.bind_eq_some_iff.mp h
        refine v_ild e33 dX6_smooth_154 sh_50 ?_
        obtain ⟨t36, e37, h⟩ := Option.bind_eq_some_iff.mp h
        have hJ : V g kX6_smooth (jm g 2 rr Mr) 182 [some (.ref 49), none, some (.int y2), some (.int y3), some (.int y4), none, none] [.int t36, .int t24, .ref 55] M := by
          obtain ⟨M45, e46, h⟩ := Option.bind_eq_some_iff.mp h
          refine v_ist e46 dX6_smooth_182 sh_55 ?_
          refine v_iinc (v := 1) (ls1 := [some (.ref 49), none, some (.int y2), some (.int y3), some (.int (y4 + (1 : Int32))), none, none]) dX6_smooth_183 rfl rfl (Nat.le_of_ble_eq_true rfl) rfl ?_
          refine v_goto (tgt := 69) dX6_smooth_186 rfl ?_
          refine V.sub (ls' := [some (.ref 49), none, some (.int y2), some (.int y3), some (.int (y4 + (1 : Int32))), none, none]) (And.intro rfl (And.intro rfl (And.intro rfl (And.intro rfl trivial)))) ?_
          exact ih _ _ h
        clear h
        have h := e37
        clear e37
        refine v_if_le (tgt := 175) dX6_smooth_155 rfl (fun c35 => ?_) (fun c35 => ?_)
        · replace h := (if_pos c35).symm.trans h
          refine v_aload_n dX6_smooth_175 rfl ?_
          refine v_getr dX6_smooth_176 flX6_25 sh_49 rfl ?_
          refine v_iload dX6_smooth_179 rfl ?_
          obtain ⟨v38, e39, h⟩ := Option.bind_eq_some_iff.mp h
          refine v_ild e39 dX6_smooth_181 sh_55 ?_
          replace h := Option.some.inj h; subst h
          refine V.sub (ls' := [some (.ref 49), none, some (.int y2), some (.int y3), some (.int y4), none, none]) (And.intro rfl (And.intro rfl (And.intro rfl (And.intro rfl trivial)))) ?_
          exact hJ
        · replace h := (if_neg c35).symm.trans h
          refine v_iload dX6_smooth_158 rfl ?_
          refine v_aload_n dX6_smooth_160 rfl ?_
          refine v_getr dX6_smooth_161 flX6_25 sh_49 rfl ?_
          refine v_iload dX6_smooth_164 rfl ?_
          obtain ⟨v40, e41, h⟩ := Option.bind_eq_some_iff.mp h
          refine v_ild e41 dX6_smooth_166 sh_55 ?_
          refine v_icmp_ge (tgt := 175) dX6_smooth_167 rfl (fun c42 => ?_) (fun c42 => ?_)
          · replace h := (if_pos c42).symm.trans h
            refine v_aload_n dX6_smooth_175 rfl ?_
            refine v_getr dX6_smooth_176 flX6_25 sh_49 rfl ?_
            refine v_iload dX6_smooth_179 rfl ?_
            obtain ⟨v43, e44, h⟩ := Option.bind_eq_some_iff.mp h
            refine v_ild e44 dX6_smooth_181 sh_55 ?_
            replace h := Option.some.inj h; subst h
            refine V.sub (ls' := [some (.ref 49), none, some (.int y2), some (.int y3), some (.int y4), none, none]) (And.intro rfl (And.intro rfl (And.intro rfl (And.intro rfl trivial)))) ?_
            exact hJ
          · replace h := (if_neg c42).symm.trans h
            refine v_iload dX6_smooth_170 rfl ?_
            refine v_goto (tgt := 182) dX6_smooth_172 rfl ?_
            replace h := Option.some.inj h; subst h
            refine V.sub (ls' := [some (.ref 49), none, some (.int y2), some (.int y3), some (.int y4), none, none]) (And.intro rfl (And.intro rfl (And.intro rfl (And.intro rfl trivial)))) ?_
            exact hJ
      clear h
      have h := e25
      clear e25
      refine v_if_ne (tgt := 102) dX6_smooth_92 rfl (fun c23 => ?_) (fun c23 => ?_)
      · replace h := (if_neg c23).symm.trans h
        refine v_aload_n dX6_smooth_102 rfl ?_
        refine v_getr dX6_smooth_103 flX6_7 sh_49 rfl ?_
        refine v_bipush (v := 18) dX6_smooth_106 rfl ?_
        refine v_iload dX6_smooth_108 rfl ?_
        refine v_iadd dX6_smooth_110 ?_
        obtain ⟨v26, e27, h⟩ := Option.bind_eq_some_iff.mp h
        refine v_ild e27 dX6_smooth_111 sh_50 ?_
        refine v_iconst (v := 1) dX6_smooth_112 rfl ?_
        refine v_isub dX6_smooth_113 ?_
        refine v_iconst (v := 4) dX6_smooth_114 rfl ?_
        refine v_idiv dX6_smooth_115 (by decide) ?_
        replace h := Option.some.inj h; subst h
        refine V.sub (ls' := [some (.ref 49), none, some (.int y2), some (.int y3), some (.int y4), none, none]) (And.intro rfl (And.intro rfl (And.intro rfl (And.intro rfl trivial)))) ?_
        exact hJ
      · replace h := (if_pos c23).symm.trans h
        refine v_iload dX6_smooth_95 rfl ?_
        refine v_iconst (v := 4) dX6_smooth_97 rfl ?_
        refine v_idiv dX6_smooth_98 (by decide) ?_
        refine v_goto (tgt := 116) dX6_smooth_99 rfl ?_
        replace h := Option.some.inj h; subst h
        refine V.sub (ls' := [some (.ref 49), none, some (.int y2), some (.int y3), some (.int y4), none, none]) (And.intro rfl (And.intro rfl (And.intro rfl (And.intro rfl trivial)))) ?_
        exact hJ
set_option maxRecDepth 100000 in
set_option maxHeartbeats 4000000 in
theorem tX6_smooth_60 {g : Wo} {ρ : Type} {kx : Mem → Option ρ} {y2 : Int32} {r : ρ} {rr : Option Value} {Mr : Mem} (hk : ∀ (Mx : Mem), kx Mx = some r → V g kX6_smooth (jm g 2 rr Mr) 195 [some (.ref 49), none, some (.int y2), none, none, none, none] [] Mx) : ∀ (n : Nat) (y3 : Int32) (M : Mem), fX6_smooth_60 kx y2 n y3 M = some r → V g kX6_smooth (jm g 2 rr Mr) 60 [some (.ref 49), none, some (.int y2), some (.int y3), none, none, none] [] M := by
  intro n
  induction n with
  | zero =>
    intro y3 M h
    rw [fX6_smooth_60] at h
    cases h
  | succ n ih =>
    intro y3 M h
    rw [fX6_smooth_60] at h
    refine v_iload_n dX6_smooth_60 rfl ?_
    refine v_bipush (v := 16) dX6_smooth_61 rfl ?_
    refine v_icmp_ge (tgt := 195) dX6_smooth_63 rfl (fun c16 => ?_) (fun c16 => ?_)
    · replace h := (if_pos c16).symm.trans h
      refine V.sub (ls' := [some (.ref 49), none, some (.int y2), none, none, none, none]) (And.intro rfl (And.intro rfl trivial)) ?_
      exact hk _ h
    · replace h := (if_neg c16).symm.trans h
      refine v_iconst (v := 0) dX6_smooth_66 rfl ?_
      refine v_istore (ls1 := [some (.ref 49), none, some (.int y2), some (.int y3), some (.int (0 : Int32)), none, none]) dX6_smooth_67 (Nat.le_of_ble_eq_true rfl) rfl ?_
      refine V.sub (ls' := [some (.ref 49), none, some (.int y2), some (.int y3), some (.int (0 : Int32)), none, none]) (And.intro rfl (And.intro rfl (And.intro rfl (And.intro rfl trivial)))) ?_
      refine tX6_smooth_69 (fun M47 h => ?_) FU _ _ h
      refine v_iinc (v := 1) (ls1 := [some (.ref 49), none, some (.int y2), some (.int (y3 + (1 : Int32))), none, none, none]) dX6_smooth_189 rfl rfl (Nat.le_of_ble_eq_true rfl) rfl ?_
      refine v_goto (tgt := 60) dX6_smooth_192 rfl ?_
      refine V.sub (ls' := [some (.ref 49), none, some (.int y2), some (.int (y3 + (1 : Int32))), none, none, none]) (And.intro rfl (And.intro rfl (And.intro rfl trivial))) ?_
      exact ih _ _ h
set_option maxRecDepth 100000 in
set_option maxHeartbeats 4000000 in
theorem sX6_smooth {g : Wo} {M : Mem} {x1 : Int32} {x2 : Int32} {r : Int32 × Mem} (h : fX6_smooth x1 x2 M = some r) : Sp g kX6_smooth 2 [.ref 49, .int x1, .int x2] M (some (.int r.1)) r.2 := by
  rw [fX6_smooth] at h
  refine Sp_intro (by decide) [some (.ref 49), some (.int x1), some (.int x2), none, none, none, none] rfl (Nat.le_of_ble_eq_true rfl) ?_
  refine v_aload_n dX6_smooth_0 rfl ?_
  refine v_iload_n dX6_smooth_1 rfl ?_
  obtain ⟨v1, e2, h⟩ := Option.bind_eq_some_iff.mp h
  refine v_callV (as := [.int x1]) (st := []) (sX6_isField e2) dX6_smooth_2 mlX6_53 (CRn (by decide) (by decide)) sh_49 rfl rfl rfl (Nat.le_of_ble_eq_true rfl) ?_
  refine v_if_eq (tgt := 16) dX6_smooth_5 rfl (fun c3 => ?_) (fun c3 => ?_)
  · replace h := (if_pos c3).symm.trans h
    refine v_aload_n dX6_smooth_16 rfl ?_
    refine v_ldc (v := -1000000001) dX6_smooth_17 w_809 ?_
    obtain ⟨w4, e5, h⟩ := Option.bind_eq_some_iff.mp h
    refine v_callV (as := [.int (-1000000001 : Int32)]) (st := []) (sX6_finds e5) dX6_smooth_19 mlX6_69 (CRn (by decide) (by decide)) sh_49 rfl rfl rfl (Nat.le_of_ble_eq_true rfl) ?_
    replace h := Option.some.inj h; subst h
    exact v_iret rfl dX6_smooth_22
  · replace h := (if_neg c3).symm.trans h
    refine v_aload_n dX6_smooth_8 rfl ?_
    refine v_iload_n dX6_smooth_9 rfl ?_
    obtain ⟨v6, e7, h⟩ := Option.bind_eq_some_iff.mp h
    refine v_callV (as := [.int x2]) (st := []) (sX6_isField e7) dX6_smooth_10 mlX6_53 (CRn (by decide) (by decide)) sh_49 rfl rfl rfl (Nat.le_of_ble_eq_true rfl) ?_
    refine v_if_ne (tgt := 23) dX6_smooth_13 rfl (fun c8 => ?_) (fun c8 => ?_)
    · replace h := (if_neg c8).symm.trans h
      refine v_iconst (v := 0) dX6_smooth_23 rfl ?_
      refine v_istore_n (ls1 := [some (.ref 49), some (.int x1), some (.int x2), some (.int (0 : Int32)), none, none, none]) dX6_smooth_24 (Nat.le_of_ble_eq_true rfl) rfl ?_
      refine V.sub (ls' := [some (.ref 49), some (.int x1), some (.int x2), some (.int (0 : Int32)), none, none, none]) (And.intro rfl (And.intro rfl (And.intro rfl (And.intro rfl trivial)))) ?_
      refine tX6_smooth_25 (fun M15 h => ?_) FU _ _ h
      refine v_iconst (v := 0) dX6_smooth_58 rfl ?_
      refine v_istore_n (ls1 := [some (.ref 49), none, some (.int x2), some (.int (0 : Int32)), none, none, none]) dX6_smooth_59 (Nat.le_of_ble_eq_true rfl) rfl ?_
      refine V.sub (ls' := [some (.ref 49), none, some (.int x2), some (.int (0 : Int32)), none, none, none]) (And.intro rfl (And.intro rfl (And.intro rfl trivial))) ?_
      refine tX6_smooth_60 (fun M48 h => ?_) FU _ _ h
      refine v_aload_n dX6_smooth_195 rfl ?_
      refine v_aload_n dX6_smooth_196 rfl ?_
      refine v_getr dX6_smooth_197 flX6_25 sh_49 rfl ?_
      refine v_iload_n dX6_smooth_200 rfl ?_
      obtain ⟨v49, e50, h⟩ := Option.bind_eq_some_iff.mp h
      refine v_ild e50 dX6_smooth_201 sh_55 ?_
      refine v_ldc (v := 999999) dX6_smooth_202 w_1067 ?_
      obtain ⟨w51, e52, h⟩ := Option.bind_eq_some_iff.mp h
      refine v_callV (as := [.int v49, .int (999999 : Int32)]) (st := []) (sX6_orNone e52) dX6_smooth_204 mlX6_152 (CRn (by decide) (by decide)) sh_49 rfl rfl rfl (Nat.le_of_ble_eq_true rfl) ?_
      replace h := Option.some.inj h; subst h
      exact v_iret rfl dX6_smooth_207
    · replace h := (if_pos c8).symm.trans h
      refine v_aload_n dX6_smooth_16 rfl ?_
      refine v_ldc (v := -1000000001) dX6_smooth_17 w_809 ?_
      obtain ⟨w53, e54, h⟩ := Option.bind_eq_some_iff.mp h
      refine v_callV (as := [.int (-1000000001 : Int32)]) (st := []) (sX6_finds e54) dX6_smooth_19 mlX6_69 (CRn (by decide) (by decide)) sh_49 rfl rfl rfl (Nat.le_of_ble_eq_true rfl) ?_
      replace h := Option.some.inj h; subst h
      exact v_iret rfl dX6_smooth_22
/-! ===== BentPlainModel.turns(III)I ===== -/
def fX6_turns_27 {ρ : Type} (kx : Mem → Option ρ) (y1 : Int32) (y2 : Int32) (y3 : Int32) : Nat → Int32 → Mem → Option ρ
  | 0, _, _ => none
  | n + 1, y4, M => ((ldI M 50 112 (0 : Int32)).bind fun v9 => (if ((4 : Int32) * v9) ≤ y4 then (kx M) else ((stI M 55 64 y4 (if y4 = (((4 : Int32) * y1) + y2) then (0 : Int32) else (1000000 : Int32))).bind fun M13 => (fX6_turns_27 kx y1 y2 y3 n (y4 + (1 : Int32)) M13))))
def fX6_turns_83 {ρ : Type} (kx : Mem → Option ρ) (y3 : Int32) (y4 : Int32) : Nat → Int32 → Mem → Option ρ
  | 0, _, _ => none
  | n + 1, y5, M => ((ldI M 50 112 (0 : Int32)).bind fun v17 => (if ((4 : Int32) * v17) ≤ y5 then (kx M) else ((fX6_onward y5 M).bind fun v20 => ((ldI M 55 64 y5).bind fun v22 => ((if v20 < 0 then some M else ((ldI M 55 64 v20).bind fun v28 => ((if v28 ≤ v22 then ((ldI M 55 64 v20).bind fun v34 => some v34) else some v22).bind fun t32 => ((stI M 55 64 v20 t32).bind fun M36 => some M36)))).bind fun t26 => ((ldI t26 55 64 (((y5 / (4 : Int32)) * (4 : Int32)) + ((y5 + (1 : Int32)) - (y5 + (1 : Int32)) / (4 : Int32) * (4 : Int32)))).bind fun v38 => ((if v38 ≤ (v22 + (1 : Int32)) then ((ldI t26 55 64 (((y5 / (4 : Int32)) * (4 : Int32)) + ((y5 + (1 : Int32)) - (y5 + (1 : Int32)) / (4 : Int32) * (4 : Int32)))).bind fun v44 => some v44) else some (v22 + (1 : Int32))).bind fun t42 => ((stI t26 55 64 (((y5 / (4 : Int32)) * (4 : Int32)) + ((y5 + (1 : Int32)) - (y5 + (1 : Int32)) / (4 : Int32) * (4 : Int32))) t42).bind fun M46 => ((ldI M46 55 64 (((y5 / (4 : Int32)) * (4 : Int32)) + ((y5 + (3 : Int32)) - (y5 + (3 : Int32)) / (4 : Int32) * (4 : Int32)))).bind fun v48 => ((if v48 ≤ (v22 + (1 : Int32)) then ((ldI M46 55 64 (((y5 / (4 : Int32)) * (4 : Int32)) + ((y5 + (3 : Int32)) - (y5 + (3 : Int32)) / (4 : Int32) * (4 : Int32)))).bind fun v54 => some v54) else some (v22 + (1 : Int32))).bind fun t52 => ((stI M46 55 64 (((y5 / (4 : Int32)) * (4 : Int32)) + ((y5 + (3 : Int32)) - (y5 + (3 : Int32)) / (4 : Int32) * (4 : Int32))) t52).bind fun M56 => (fX6_turns_83 kx y3 y4 n (y5 + (1 : Int32)) M56))))))))))))
def fX6_turns_72 {ρ : Type} (kx : Mem → Option ρ) (y3 : Int32) : Nat → Int32 → Mem → Option ρ
  | 0, _, _ => none
  | n + 1, y4, M => (if (128 : Int32) ≤ y4 then (kx M) else (fX6_turns_83 (fun M58 => (fX6_turns_72 kx y3 n (y4 + (1 : Int32)) M58)) y3 y4 FU (0 : Int32) M))
def fX6_turns_268 {ρ : Type} (kx : Int32 → Option ρ) (y3 : Int32) (M : Mem) : Nat → Int32 → Int32 → Option ρ
  | 0, _, _ => none
  | n + 1, y4, y5 => (if (4 : Int32) ≤ y5 then (kx y4) else ((ldI M 55 64 (((4 : Int32) * y3) + y5)).bind fun v61 => ((if y4 ≤ v61 then some y4 else ((ldI M 55 64 (((4 : Int32) * y3) + y5)).bind fun v67 => some v67)).bind fun t65 => (fX6_turns_268 kx y3 M n t65 (y5 + (1 : Int32))))))
def fX6_turns (x1 : Int32) (x2 : Int32) (x3 : Int32) (M : Mem) : Option (Int32 × Mem) := ((fX6_isWay x1 x2 M).bind fun v1 => (if v1 = 0 then ((fX6_finds (-1000000001 : Int32) M).bind fun w4 => some (w4.1, w4.2)) else ((fX6_isField x3 M).bind fun v6 => (if v6 = 0 then ((fX6_finds (-1000000001 : Int32) M).bind fun w72 => some (w72.1, w72.2)) else (fX6_turns_27 (fun M15 => (fX6_turns_72 (fun M59 => (fX6_turns_268 (fun u69 => ((fX6_orNone u69 (999999 : Int32) M59).bind fun w70 => some (w70.1, w70.2))) x3 M59 FU (1000000 : Int32) (0 : Int32))) x3 FU (0 : Int32) M15)) x1 x2 x3 FU (0 : Int32) M)))))
set_option maxRecDepth 100000 in
set_option maxHeartbeats 4000000 in
theorem tX6_turns_27 {g : Wo} {ρ : Type} {kx : Mem → Option ρ} {y1 : Int32} {y2 : Int32} {y3 : Int32} {r : ρ} {rr : Option Value} {Mr : Mem} (hk : ∀ (Mx : Mem), kx Mx = some r → V g kX6_turns (jm g 3 rr Mr) 69 [some (.ref 49), none, none, some (.int y3), none, none, none, none, none, none] [] Mx) : ∀ (n : Nat) (y4 : Int32) (M : Mem), fX6_turns_27 kx y1 y2 y3 n y4 M = some r → V g kX6_turns (jm g 3 rr Mr) 27 [some (.ref 49), some (.int y1), some (.int y2), some (.int y3), some (.int y4), none, none, none, none, none] [] M := by
  intro n
  induction n with
  | zero =>
    intro y4 M h
    rw [fX6_turns_27] at h
    cases h
  | succ n ih =>
    intro y4 M h
    rw [fX6_turns_27] at h
    refine v_iload dX6_turns_27 rfl ?_
    refine v_iconst (v := 4) dX6_turns_29 rfl ?_
    refine v_aload_n dX6_turns_30 rfl ?_
    refine v_getr dX6_turns_31 flX6_7 sh_49 rfl ?_
    refine v_iconst (v := 0) dX6_turns_34 rfl ?_
    obtain ⟨v9, e10, h⟩ := Option.bind_eq_some_iff.mp h
    refine v_ild e10 dX6_turns_35 sh_50 ?_
    refine v_imul dX6_turns_36 ?_
    refine v_icmp_ge (tgt := 69) dX6_turns_37 rfl (fun c11 => ?_) (fun c11 => ?_)
    · replace h := (if_pos c11).symm.trans h
      refine V.sub (ls' := [some (.ref 49), none, none, some (.int y3), none, none, none, none, none, none]) (And.intro rfl (And.intro rfl trivial)) ?_
      exact hk _ h
    · replace h := (if_neg c11).symm.trans h
      refine v_aload_n dX6_turns_40 rfl ?_
      refine v_getr dX6_turns_41 flX6_25 sh_49 rfl ?_
      refine v_iload dX6_turns_44 rfl ?_
      refine v_iload dX6_turns_46 rfl ?_
      refine v_iconst (v := 4) dX6_turns_48 rfl ?_
      refine v_iload_n dX6_turns_49 rfl ?_
      refine v_imul dX6_turns_50 ?_
      refine v_iload_n dX6_turns_51 rfl ?_
      refine v_iadd dX6_turns_52 ?_
      have hJ : V g kX6_turns (jm g 3 rr Mr) 62 [some (.ref 49), some (.int y1), some (.int y2), some (.int y3), some (.int y4), none, none, none, none, none] [.int (if y4 = (((4 : Int32) * y1) + y2) then (0 : Int32) else (1000000 : Int32)), .int y4, .ref 55] M := by
        obtain ⟨M13, e14, h⟩ := Option.bind_eq_some_iff.mp h
        refine v_ist e14 dX6_turns_62 sh_55 ?_
        refine v_iinc (v := 1) (ls1 := [some (.ref 49), some (.int y1), some (.int y2), some (.int y3), some (.int (y4 + (1 : Int32))), none, none, none, none, none]) dX6_turns_63 rfl rfl (Nat.le_of_ble_eq_true rfl) rfl ?_
        refine v_goto (tgt := 27) dX6_turns_66 rfl ?_
        refine V.sub (ls' := [some (.ref 49), some (.int y1), some (.int y2), some (.int y3), some (.int (y4 + (1 : Int32))), none, none, none, none, none]) (And.intro rfl (And.intro rfl (And.intro rfl (And.intro rfl (And.intro rfl trivial))))) ?_
        exact ih _ _ h
      refine v_icmp_ne (tgt := 60) dX6_turns_53 rfl (fun c12 => ?_) (fun c12 => ?_)
      · refine v_ldc (v := 1000000) dX6_turns_60 w_1066 ?_
        refine V.sub (ls' := [some (.ref 49), some (.int y1), some (.int y2), some (.int y3), some (.int y4), none, none, none, none, none]) (And.intro rfl (And.intro rfl (And.intro rfl (And.intro rfl (And.intro rfl trivial))))) ?_
        first | (simp only [if_neg c12] at hJ; exact hJ) | exact hJ | (simp only [if_neg c12] at hJ ⊢; exact hJ)
      · refine v_iconst (v := 0) dX6_turns_56 rfl ?_
        refine v_goto (tgt := 62) dX6_turns_57 rfl ?_
        refine V.sub (ls' := [some (.ref 49), some (.int y1), some (.int y2), some (.int y3), some (.int y4), none, none, none, none, none]) (And.intro rfl (And.intro rfl (And.intro rfl (And.intro rfl (And.intro rfl trivial))))) ?_
        first | (simp only [if_pos c12] at hJ; exact hJ) | exact hJ | (simp only [if_pos c12] at hJ ⊢; exact hJ)
set_option maxRecDepth 100000 in
set_option maxHeartbeats 4000000 in
theorem tX6_turns_83 {g : Wo} {ρ : Type} {kx : Mem → Option ρ} {y3 : Int32} {y4 : Int32} {r : ρ} {rr : Option Value} {Mr : Mem} (hk : ∀ (Mx : Mem), kx Mx = some r → V g kX6_turns (jm g 3 rr Mr) 255 [some (.ref 49), none, none, some (.int y3), some (.int y4), none, none, none, none, none] [] Mx) : ∀ (n : Nat) (y5 : Int32) (M : Mem), fX6_turns_83 kx y3 y4 n y5 M = some r → V g kX6_turns (jm g 3 rr Mr) 83 [some (.ref 49), none, none, some (.int y3), some (.int y4), some (.int y5), none, none, none, none] [] M := by
  intro n
  induction n with
  | zero =>
    intro y5 M h
    rw [fX6_turns_83] at h
    cases h
  | succ n ih =>
    intro y5 M h
    rw [fX6_turns_83] at h
    refine v_iload dX6_turns_83 rfl ?_
    refine v_iconst (v := 4) dX6_turns_85 rfl ?_
    refine v_aload_n dX6_turns_86 rfl ?_
    refine v_getr dX6_turns_87 flX6_7 sh_49 rfl ?_
    refine v_iconst (v := 0) dX6_turns_90 rfl ?_
    obtain ⟨v17, e18, h⟩ := Option.bind_eq_some_iff.mp h
    refine v_ild e18 dX6_turns_91 sh_50 ?_
    refine v_imul dX6_turns_92 ?_
    refine v_icmp_ge (tgt := 255) dX6_turns_93 rfl (fun c19 => ?_) (fun c19 => ?_)
    · replace h := (if_pos c19).symm.trans h
      refine V.sub (ls' := [some (.ref 49), none, none, some (.int y3), some (.int y4), none, none, none, none, none]) (And.intro rfl (And.intro rfl (And.intro rfl trivial))) ?_
      exact hk _ h
    · replace h := (if_neg c19).symm.trans h
      refine v_aload_n dX6_turns_96 rfl ?_
      refine v_iload dX6_turns_97 rfl ?_
      obtain ⟨v20, e21, h⟩ := Option.bind_eq_some_iff.mp h
      refine v_callV (as := [.int y5]) (st := []) (sX6_onward e21) dX6_turns_99 mlX6_112 (CRn (by decide) (by decide)) sh_49 rfl rfl rfl (Nat.le_of_ble_eq_true rfl) ?_
      refine v_istore (ls1 := [some (.ref 49), none, none, some (.int y3), some (.int y4), some (.int y5), some (.int v20), none, none, none]) dX6_turns_102 (Nat.le_of_ble_eq_true rfl) rfl ?_
      refine v_iload dX6_turns_104 rfl ?_
      refine v_iconst (v := 4) dX6_turns_106 rfl ?_
      refine v_idiv dX6_turns_107 (by decide) ?_
      refine v_iconst (v := 4) dX6_turns_108 rfl ?_
      refine v_imul dX6_turns_109 ?_
      refine v_iload dX6_turns_110 rfl ?_
      refine v_iconst (v := 1) dX6_turns_112 rfl ?_
      refine v_iadd dX6_turns_113 ?_
      refine v_iconst (v := 4) dX6_turns_114 rfl ?_
      refine v_irem dX6_turns_115 (by decide) ?_
      refine v_iadd dX6_turns_116 ?_
      refine v_istore (ls1 := [some (.ref 49), none, none, some (.int y3), some (.int y4), some (.int y5), some (.int v20), some (.int (((y5 / (4 : Int32)) * (4 : Int32)) + ((y5 + (1 : Int32)) - (y5 + (1 : Int32)) / (4 : Int32) * (4 : Int32)))), none, none]) dX6_turns_117 (Nat.le_of_ble_eq_true rfl) rfl ?_
      refine v_iload dX6_turns_119 rfl ?_
      refine v_iconst (v := 4) dX6_turns_121 rfl ?_
      refine v_idiv dX6_turns_122 (by decide) ?_
      refine v_iconst (v := 4) dX6_turns_123 rfl ?_
      refine v_imul dX6_turns_124 ?_
      refine v_iload dX6_turns_125 rfl ?_
      refine v_iconst (v := 3) dX6_turns_127 rfl ?_
      refine v_iadd dX6_turns_128 ?_
      refine v_iconst (v := 4) dX6_turns_129 rfl ?_
      refine v_irem dX6_turns_130 (by decide) ?_
      refine v_iadd dX6_turns_131 ?_
      refine v_istore (ls1 := [some (.ref 49), none, none, some (.int y3), some (.int y4), some (.int y5), some (.int v20), some (.int (((y5 / (4 : Int32)) * (4 : Int32)) + ((y5 + (1 : Int32)) - (y5 + (1 : Int32)) / (4 : Int32) * (4 : Int32)))), some (.int (((y5 / (4 : Int32)) * (4 : Int32)) + ((y5 + (3 : Int32)) - (y5 + (3 : Int32)) / (4 : Int32) * (4 : Int32)))), none]) dX6_turns_132 (Nat.le_of_ble_eq_true rfl) rfl ?_
      refine v_aload_n dX6_turns_134 rfl ?_
      refine v_getr dX6_turns_135 flX6_25 sh_49 rfl ?_
      refine v_iload dX6_turns_138 rfl ?_
      obtain ⟨v22, e23, h⟩ := Option.bind_eq_some_iff.mp h
      refine v_ild e23 dX6_turns_140 sh_55 ?_
      refine v_istore (ls1 := [some (.ref 49), none, none, some (.int y3), some (.int y4), some (.int y5), some (.int v20), some (.int (((y5 / (4 : Int32)) * (4 : Int32)) + ((y5 + (1 : Int32)) - (y5 + (1 : Int32)) / (4 : Int32) * (4 : Int32)))), some (.int (((y5 / (4 : Int32)) * (4 : Int32)) + ((y5 + (3 : Int32)) - (y5 + (3 : Int32)) / (4 : Int32) * (4 : Int32)))), some (.int v22)]) dX6_turns_141 (Nat.le_of_ble_eq_true rfl) rfl ?_
      refine v_iload dX6_turns_143 rfl ?_
      obtain ⟨t26, e27, h⟩ := Option.bind_eq_some_iff.mp h
      have hJ : V g kX6_turns (jm g 3 rr Mr) 179 [some (.ref 49), none, none, some (.int y3), some (.int y4), some (.int y5), none, some (.int (((y5 / (4 : Int32)) * (4 : Int32)) + ((y5 + (1 : Int32)) - (y5 + (1 : Int32)) / (4 : Int32) * (4 : Int32)))), some (.int (((y5 / (4 : Int32)) * (4 : Int32)) + ((y5 + (3 : Int32)) - (y5 + (3 : Int32)) / (4 : Int32) * (4 : Int32)))), some (.int v22)] [] t26 := by
        refine v_aload_n dX6_turns_179 rfl ?_
        refine v_getr dX6_turns_180 flX6_25 sh_49 rfl ?_
        refine v_iload dX6_turns_183 rfl ?_
        refine v_iload dX6_turns_185 rfl ?_
        refine v_iconst (v := 1) dX6_turns_187 rfl ?_
        refine v_iadd dX6_turns_188 ?_
        refine v_aload_n dX6_turns_189 rfl ?_
        refine v_getr dX6_turns_190 flX6_25 sh_49 rfl ?_
        refine v_iload dX6_turns_193 rfl ?_
        obtain ⟨v38, e39, h⟩ := Option.bind_eq_some_iff.mp h
        refine v_ild e39 dX6_turns_195 sh_55 ?_
        obtain ⟨t42, e43, h⟩ := Option.bind_eq_some_iff.mp h
        have hJ : V g kX6_turns (jm g 3 rr Mr) 213 [some (.ref 49), none, none, some (.int y3), some (.int y4), some (.int y5), none, none, some (.int (((y5 / (4 : Int32)) * (4 : Int32)) + ((y5 + (3 : Int32)) - (y5 + (3 : Int32)) / (4 : Int32) * (4 : Int32)))), some (.int v22)] [.int t42, .int (((y5 / (4 : Int32)) * (4 : Int32)) + ((y5 + (1 : Int32)) - (y5 + (1 : Int32)) / (4 : Int32) * (4 : Int32))), .ref 55] t26 := by
          obtain ⟨M46, e47, h⟩ := Option.bind_eq_some_iff.mp h
          refine v_ist e47 dX6_turns_213 sh_55 ?_
          refine v_aload_n dX6_turns_214 rfl ?_
          refine v_getr dX6_turns_215 flX6_25 sh_49 rfl ?_
          refine v_iload dX6_turns_218 rfl ?_
          refine v_iload dX6_turns_220 rfl ?_
          refine v_iconst (v := 1) dX6_turns_222 rfl ?_
          refine v_iadd dX6_turns_223 ?_
          refine v_aload_n dX6_turns_224 rfl ?_
          refine v_getr dX6_turns_225 flX6_25 sh_49 rfl ?_
          refine v_iload dX6_turns_228 rfl ?_
          obtain ⟨v48, e49, h⟩ := Option.bind_eq_some_iff.mp h
          refine v_ild e49 dX6_turns_230 sh_55 ?_
          obtain ⟨t52, e53, h⟩ := Option.bind_eq_some_iff.mp h
          have hJ : V g kX6_turns (jm g 3 rr Mr) 248 [some (.ref 49), none, none, some (.int y3), some (.int y4), some (.int y5), none, none, none, none] [.int t52, .int (((y5 / (4 : Int32)) * (4 : Int32)) + ((y5 + (3 : Int32)) - (y5 + (3 : Int32)) / (4 : Int32) * (4 : Int32))), .ref 55] M46 := by
            obtain ⟨M56, e57, h⟩ := Option.bind_eq_some_iff.mp h
            refine v_ist e57 dX6_turns_248 sh_55 ?_
            refine v_iinc (v := 1) (ls1 := [some (.ref 49), none, none, some (.int y3), some (.int y4), some (.int (y5 + (1 : Int32))), none, none, none, none]) dX6_turns_249 rfl rfl (Nat.le_of_ble_eq_true rfl) rfl ?_
            refine v_goto (tgt := 83) dX6_turns_252 rfl ?_
            refine V.sub (ls' := [some (.ref 49), none, none, some (.int y3), some (.int y4), some (.int (y5 + (1 : Int32))), none, none, none, none]) (And.intro rfl (And.intro rfl (And.intro rfl (And.intro rfl trivial)))) ?_
            exact ih _ _ h
          clear h
          have h := e53
          clear e53
          refine v_icmp_ge (tgt := 241) dX6_turns_231 rfl (fun c51 => ?_) (fun c51 => ?_)
          · replace h := (if_pos c51).symm.trans h
            refine v_aload_n dX6_turns_241 rfl ?_
            refine v_getr dX6_turns_242 flX6_25 sh_49 rfl ?_
            refine v_iload dX6_turns_245 rfl ?_
            obtain ⟨v54, e55, h⟩ := Option.bind_eq_some_iff.mp h
            refine v_ild e55 dX6_turns_247 sh_55 ?_
            replace h := Option.some.inj h; subst h
            refine V.sub (ls' := [some (.ref 49), none, none, some (.int y3), some (.int y4), some (.int y5), none, none, none, none]) (And.intro rfl (And.intro rfl (And.intro rfl (And.intro rfl trivial)))) ?_
            exact hJ
          · replace h := (if_neg c51).symm.trans h
            refine v_iload dX6_turns_234 rfl ?_
            refine v_iconst (v := 1) dX6_turns_236 rfl ?_
            refine v_iadd dX6_turns_237 ?_
            refine v_goto (tgt := 248) dX6_turns_238 rfl ?_
            replace h := Option.some.inj h; subst h
            refine V.sub (ls' := [some (.ref 49), none, none, some (.int y3), some (.int y4), some (.int y5), none, none, none, none]) (And.intro rfl (And.intro rfl (And.intro rfl (And.intro rfl trivial)))) ?_
            exact hJ
        clear h
        have h := e43
        clear e43
        refine v_icmp_ge (tgt := 206) dX6_turns_196 rfl (fun c41 => ?_) (fun c41 => ?_)
        · replace h := (if_pos c41).symm.trans h
          refine v_aload_n dX6_turns_206 rfl ?_
          refine v_getr dX6_turns_207 flX6_25 sh_49 rfl ?_
          refine v_iload dX6_turns_210 rfl ?_
          obtain ⟨v44, e45, h⟩ := Option.bind_eq_some_iff.mp h
          refine v_ild e45 dX6_turns_212 sh_55 ?_
          replace h := Option.some.inj h; subst h
          refine V.sub (ls' := [some (.ref 49), none, none, some (.int y3), some (.int y4), some (.int y5), none, none, some (.int (((y5 / (4 : Int32)) * (4 : Int32)) + ((y5 + (3 : Int32)) - (y5 + (3 : Int32)) / (4 : Int32) * (4 : Int32)))), some (.int v22)]) (And.intro rfl (And.intro rfl (And.intro rfl (And.intro rfl (And.intro rfl (And.intro rfl trivial)))))) ?_
          exact hJ
        · replace h := (if_neg c41).symm.trans h
          refine v_iload dX6_turns_199 rfl ?_
          refine v_iconst (v := 1) dX6_turns_201 rfl ?_
          refine v_iadd dX6_turns_202 ?_
          refine v_goto (tgt := 213) dX6_turns_203 rfl ?_
          replace h := Option.some.inj h; subst h
          refine V.sub (ls' := [some (.ref 49), none, none, some (.int y3), some (.int y4), some (.int y5), none, none, some (.int (((y5 / (4 : Int32)) * (4 : Int32)) + ((y5 + (3 : Int32)) - (y5 + (3 : Int32)) / (4 : Int32) * (4 : Int32)))), some (.int v22)]) (And.intro rfl (And.intro rfl (And.intro rfl (And.intro rfl (And.intro rfl (And.intro rfl trivial)))))) ?_
          exact hJ
      clear h
      have h := e27
      clear e27
      refine v_if_lt (tgt := 179) dX6_turns_145 rfl (fun c25 => ?_) (fun c25 => ?_)
      · replace h := (if_pos c25).symm.trans h
        replace h := Option.some.inj h; subst h
        refine V.sub (ls' := [some (.ref 49), none, none, some (.int y3), some (.int y4), some (.int y5), none, some (.int (((y5 / (4 : Int32)) * (4 : Int32)) + ((y5 + (1 : Int32)) - (y5 + (1 : Int32)) / (4 : Int32) * (4 : Int32)))), some (.int (((y5 / (4 : Int32)) * (4 : Int32)) + ((y5 + (3 : Int32)) - (y5 + (3 : Int32)) / (4 : Int32) * (4 : Int32)))), some (.int v22)]) (And.intro rfl (And.intro rfl (And.intro rfl (And.intro rfl (And.intro rfl (And.intro rfl (And.intro rfl trivial))))))) ?_
        exact hJ
      · replace h := (if_neg c25).symm.trans h
        refine v_aload_n dX6_turns_148 rfl ?_
        refine v_getr dX6_turns_149 flX6_25 sh_49 rfl ?_
        refine v_iload dX6_turns_152 rfl ?_
        refine v_iload dX6_turns_154 rfl ?_
        refine v_aload_n dX6_turns_156 rfl ?_
        refine v_getr dX6_turns_157 flX6_25 sh_49 rfl ?_
        refine v_iload dX6_turns_160 rfl ?_
        obtain ⟨v28, e29, h⟩ := Option.bind_eq_some_iff.mp h
        refine v_ild e29 dX6_turns_162 sh_55 ?_
        obtain ⟨t32, e33, h⟩ := Option.bind_eq_some_iff.mp h
        have hJ : V g kX6_turns (jm g 3 rr Mr) 178 [some (.ref 49), none, none, some (.int y3), some (.int y4), some (.int y5), none, some (.int (((y5 / (4 : Int32)) * (4 : Int32)) + ((y5 + (1 : Int32)) - (y5 + (1 : Int32)) / (4 : Int32) * (4 : Int32)))), some (.int (((y5 / (4 : Int32)) * (4 : Int32)) + ((y5 + (3 : Int32)) - (y5 + (3 : Int32)) / (4 : Int32) * (4 : Int32)))), some (.int v22)] [.int t32, .int v20, .ref 55] M := by
          obtain ⟨M36, e37, h⟩ := Option.bind_eq_some_iff.mp h
          refine v_ist e37 dX6_turns_178 sh_55 ?_
          replace h := Option.some.inj h; subst h
          refine V.sub (ls' := [some (.ref 49), none, none, some (.int y3), some (.int y4), some (.int y5), none, some (.int (((y5 / (4 : Int32)) * (4 : Int32)) + ((y5 + (1 : Int32)) - (y5 + (1 : Int32)) / (4 : Int32) * (4 : Int32)))), some (.int (((y5 / (4 : Int32)) * (4 : Int32)) + ((y5 + (3 : Int32)) - (y5 + (3 : Int32)) / (4 : Int32) * (4 : Int32)))), some (.int v22)]) (And.intro rfl (And.intro rfl (And.intro rfl (And.intro rfl (And.intro rfl (And.intro rfl (And.intro rfl trivial))))))) ?_
          exact hJ
        clear h
        have h := e33
        clear e33
        refine v_icmp_ge (tgt := 171) dX6_turns_163 rfl (fun c31 => ?_) (fun c31 => ?_)
        · replace h := (if_pos c31).symm.trans h
          refine v_aload_n dX6_turns_171 rfl ?_
          refine v_getr dX6_turns_172 flX6_25 sh_49 rfl ?_
          refine v_iload dX6_turns_175 rfl ?_
          obtain ⟨v34, e35, h⟩ := Option.bind_eq_some_iff.mp h
          refine v_ild e35 dX6_turns_177 sh_55 ?_
          replace h := Option.some.inj h; subst h
          refine V.sub (ls' := [some (.ref 49), none, none, some (.int y3), some (.int y4), some (.int y5), none, some (.int (((y5 / (4 : Int32)) * (4 : Int32)) + ((y5 + (1 : Int32)) - (y5 + (1 : Int32)) / (4 : Int32) * (4 : Int32)))), some (.int (((y5 / (4 : Int32)) * (4 : Int32)) + ((y5 + (3 : Int32)) - (y5 + (3 : Int32)) / (4 : Int32) * (4 : Int32)))), some (.int v22)]) (And.intro rfl (And.intro rfl (And.intro rfl (And.intro rfl (And.intro rfl (And.intro rfl (And.intro rfl trivial))))))) ?_
          exact hJ
        · replace h := (if_neg c31).symm.trans h
          refine v_iload dX6_turns_166 rfl ?_
          refine v_goto (tgt := 178) dX6_turns_168 rfl ?_
          replace h := Option.some.inj h; subst h
          refine V.sub (ls' := [some (.ref 49), none, none, some (.int y3), some (.int y4), some (.int y5), none, some (.int (((y5 / (4 : Int32)) * (4 : Int32)) + ((y5 + (1 : Int32)) - (y5 + (1 : Int32)) / (4 : Int32) * (4 : Int32)))), some (.int (((y5 / (4 : Int32)) * (4 : Int32)) + ((y5 + (3 : Int32)) - (y5 + (3 : Int32)) / (4 : Int32) * (4 : Int32)))), some (.int v22)]) (And.intro rfl (And.intro rfl (And.intro rfl (And.intro rfl (And.intro rfl (And.intro rfl (And.intro rfl trivial))))))) ?_
          exact hJ
set_option maxRecDepth 100000 in
set_option maxHeartbeats 4000000 in
theorem tX6_turns_72 {g : Wo} {ρ : Type} {kx : Mem → Option ρ} {y3 : Int32} {r : ρ} {rr : Option Value} {Mr : Mem} (hk : ∀ (Mx : Mem), kx Mx = some r → V g kX6_turns (jm g 3 rr Mr) 261 [some (.ref 49), none, none, some (.int y3), none, none, none, none, none, none] [] Mx) : ∀ (n : Nat) (y4 : Int32) (M : Mem), fX6_turns_72 kx y3 n y4 M = some r → V g kX6_turns (jm g 3 rr Mr) 72 [some (.ref 49), none, none, some (.int y3), some (.int y4), none, none, none, none, none] [] M := by
  intro n
  induction n with
  | zero =>
    intro y4 M h
    rw [fX6_turns_72] at h
    cases h
  | succ n ih =>
    intro y4 M h
    rw [fX6_turns_72] at h
    refine v_iload dX6_turns_72 rfl ?_
    refine v_sipush (v := 128) dX6_turns_74 rfl ?_
    refine v_icmp_ge (tgt := 261) dX6_turns_77 rfl (fun c16 => ?_) (fun c16 => ?_)
    · replace h := (if_pos c16).symm.trans h
      refine V.sub (ls' := [some (.ref 49), none, none, some (.int y3), none, none, none, none, none, none]) (And.intro rfl (And.intro rfl trivial)) ?_
      exact hk _ h
    · replace h := (if_neg c16).symm.trans h
      refine v_iconst (v := 0) dX6_turns_80 rfl ?_
      refine v_istore (ls1 := [some (.ref 49), none, none, some (.int y3), some (.int y4), some (.int (0 : Int32)), none, none, none, none]) dX6_turns_81 (Nat.le_of_ble_eq_true rfl) rfl ?_
      refine V.sub (ls' := [some (.ref 49), none, none, some (.int y3), some (.int y4), some (.int (0 : Int32)), none, none, none, none]) (And.intro rfl (And.intro rfl (And.intro rfl (And.intro rfl trivial)))) ?_
      refine tX6_turns_83 (fun M58 h => ?_) FU _ _ h
      refine v_iinc (v := 1) (ls1 := [some (.ref 49), none, none, some (.int y3), some (.int (y4 + (1 : Int32))), none, none, none, none, none]) dX6_turns_255 rfl rfl (Nat.le_of_ble_eq_true rfl) rfl ?_
      refine v_goto (tgt := 72) dX6_turns_258 rfl ?_
      refine V.sub (ls' := [some (.ref 49), none, none, some (.int y3), some (.int (y4 + (1 : Int32))), none, none, none, none, none]) (And.intro rfl (And.intro rfl (And.intro rfl trivial))) ?_
      exact ih _ _ h
set_option maxRecDepth 100000 in
set_option maxHeartbeats 4000000 in
theorem tX6_turns_268 {g : Wo} {ρ : Type} {kx : Int32 → Option ρ} {y3 : Int32} {M : Mem} {r : ρ} {rr : Option Value} {Mr : Mem} (hk : ∀ (z4 : Int32), kx z4 = some r → V g kX6_turns (jm g 3 rr Mr) 314 [some (.ref 49), none, none, none, some (.int z4), none, none, none, none, none] [] M) : ∀ (n : Nat) (y4 : Int32) (y5 : Int32), fX6_turns_268 kx y3 M n y4 y5 = some r → V g kX6_turns (jm g 3 rr Mr) 268 [some (.ref 49), none, none, some (.int y3), some (.int y4), some (.int y5), none, none, none, none] [] M := by
  intro n
  induction n with
  | zero =>
    intro y4 y5 h
    rw [fX6_turns_268] at h
    cases h
  | succ n ih =>
    intro y4 y5 h
    rw [fX6_turns_268] at h
    refine v_iload dX6_turns_268 rfl ?_
    refine v_iconst (v := 4) dX6_turns_270 rfl ?_
    refine v_icmp_ge (tgt := 314) dX6_turns_271 rfl (fun c60 => ?_) (fun c60 => ?_)
    · replace h := (if_pos c60).symm.trans h
      refine V.sub (ls' := [some (.ref 49), none, none, none, some (.int y4), none, none, none, none, none]) (And.intro rfl (And.intro rfl trivial)) ?_
      exact hk _ h
    · replace h := (if_neg c60).symm.trans h
      refine v_aload_n dX6_turns_274 rfl ?_
      refine v_getr dX6_turns_275 flX6_25 sh_49 rfl ?_
      refine v_iconst (v := 4) dX6_turns_278 rfl ?_
      refine v_iload_n dX6_turns_279 rfl ?_
      refine v_imul dX6_turns_280 ?_
      refine v_iload dX6_turns_281 rfl ?_
      refine v_iadd dX6_turns_283 ?_
      obtain ⟨v61, e62, h⟩ := Option.bind_eq_some_iff.mp h
      refine v_ild e62 dX6_turns_284 sh_55 ?_
      refine v_iload dX6_turns_285 rfl ?_
      obtain ⟨t65, e66, h⟩ := Option.bind_eq_some_iff.mp h
      have hJ : V g kX6_turns (jm g 3 rr Mr) 306 [some (.ref 49), none, none, some (.int y3), none, some (.int y5), none, none, none, none] [.int t65] M := by
        refine v_istore (ls1 := [some (.ref 49), none, none, some (.int y3), some (.int t65), some (.int y5), none, none, none, none]) dX6_turns_306 (Nat.le_of_ble_eq_true rfl) rfl ?_
        refine v_iinc (v := 1) (ls1 := [some (.ref 49), none, none, some (.int y3), some (.int t65), some (.int (y5 + (1 : Int32))), none, none, none, none]) dX6_turns_308 rfl rfl (Nat.le_of_ble_eq_true rfl) rfl ?_
        refine v_goto (tgt := 268) dX6_turns_311 rfl ?_
        refine V.sub (ls' := [some (.ref 49), none, none, some (.int y3), some (.int t65), some (.int (y5 + (1 : Int32))), none, none, none, none]) (And.intro rfl (And.intro rfl (And.intro rfl (And.intro rfl trivial)))) ?_
        exact ih _ _ h
      clear h
      have h := e66
      clear e66
      refine v_icmp_ge (tgt := 304) dX6_turns_287 rfl (fun c64 => ?_) (fun c64 => ?_)
      · replace h := (if_pos c64).symm.trans h
        refine v_iload dX6_turns_304 rfl ?_
        replace h := Option.some.inj h; subst h
        refine V.sub (ls' := [some (.ref 49), none, none, some (.int y3), none, some (.int y5), none, none, none, none]) (And.intro rfl (And.intro rfl (And.intro rfl trivial))) ?_
        exact hJ
      · replace h := (if_neg c64).symm.trans h
        refine v_aload_n dX6_turns_290 rfl ?_
        refine v_getr dX6_turns_291 flX6_25 sh_49 rfl ?_
        refine v_iconst (v := 4) dX6_turns_294 rfl ?_
        refine v_iload_n dX6_turns_295 rfl ?_
        refine v_imul dX6_turns_296 ?_
        refine v_iload dX6_turns_297 rfl ?_
        refine v_iadd dX6_turns_299 ?_
        obtain ⟨v67, e68, h⟩ := Option.bind_eq_some_iff.mp h
        refine v_ild e68 dX6_turns_300 sh_55 ?_
        refine v_goto (tgt := 306) dX6_turns_301 rfl ?_
        replace h := Option.some.inj h; subst h
        refine V.sub (ls' := [some (.ref 49), none, none, some (.int y3), none, some (.int y5), none, none, none, none]) (And.intro rfl (And.intro rfl (And.intro rfl trivial))) ?_
        exact hJ
set_option maxRecDepth 100000 in
set_option maxHeartbeats 4000000 in
theorem sX6_turns {g : Wo} {M : Mem} {x1 : Int32} {x2 : Int32} {x3 : Int32} {r : Int32 × Mem} (h : fX6_turns x1 x2 x3 M = some r) : Sp g kX6_turns 3 [.ref 49, .int x1, .int x2, .int x3] M (some (.int r.1)) r.2 := by
  rw [fX6_turns] at h
  refine Sp_intro (by decide) [some (.ref 49), some (.int x1), some (.int x2), some (.int x3), none, none, none, none, none, none] rfl (Nat.le_of_ble_eq_true rfl) ?_
  refine v_aload_n dX6_turns_0 rfl ?_
  refine v_iload_n dX6_turns_1 rfl ?_
  refine v_iload_n dX6_turns_2 rfl ?_
  obtain ⟨v1, e2, h⟩ := Option.bind_eq_some_iff.mp h
  refine v_callV (as := [.int x1, .int x2]) (st := []) (sX6_isWay e2) dX6_turns_3 mlX6_88 (CRn (by decide) (by decide)) sh_49 rfl rfl rfl (Nat.le_of_ble_eq_true rfl) ?_
  refine v_if_eq (tgt := 17) dX6_turns_6 rfl (fun c3 => ?_) (fun c3 => ?_)
  · replace h := (if_pos c3).symm.trans h
    refine v_aload_n dX6_turns_17 rfl ?_
    refine v_ldc (v := -1000000001) dX6_turns_18 w_809 ?_
    obtain ⟨w4, e5, h⟩ := Option.bind_eq_some_iff.mp h
    refine v_callV (as := [.int (-1000000001 : Int32)]) (st := []) (sX6_finds e5) dX6_turns_20 mlX6_69 (CRn (by decide) (by decide)) sh_49 rfl rfl rfl (Nat.le_of_ble_eq_true rfl) ?_
    replace h := Option.some.inj h; subst h
    exact v_iret rfl dX6_turns_23
  · replace h := (if_neg c3).symm.trans h
    refine v_aload_n dX6_turns_9 rfl ?_
    refine v_iload_n dX6_turns_10 rfl ?_
    obtain ⟨v6, e7, h⟩ := Option.bind_eq_some_iff.mp h
    refine v_callV (as := [.int x3]) (st := []) (sX6_isField e7) dX6_turns_11 mlX6_53 (CRn (by decide) (by decide)) sh_49 rfl rfl rfl (Nat.le_of_ble_eq_true rfl) ?_
    refine v_if_ne (tgt := 24) dX6_turns_14 rfl (fun c8 => ?_) (fun c8 => ?_)
    · replace h := (if_neg c8).symm.trans h
      refine v_iconst (v := 0) dX6_turns_24 rfl ?_
      refine v_istore (ls1 := [some (.ref 49), some (.int x1), some (.int x2), some (.int x3), some (.int (0 : Int32)), none, none, none, none, none]) dX6_turns_25 (Nat.le_of_ble_eq_true rfl) rfl ?_
      refine V.sub (ls' := [some (.ref 49), some (.int x1), some (.int x2), some (.int x3), some (.int (0 : Int32)), none, none, none, none, none]) (And.intro rfl (And.intro rfl (And.intro rfl (And.intro rfl (And.intro rfl trivial))))) ?_
      refine tX6_turns_27 (fun M15 h => ?_) FU _ _ h
      refine v_iconst (v := 0) dX6_turns_69 rfl ?_
      refine v_istore (ls1 := [some (.ref 49), none, none, some (.int x3), some (.int (0 : Int32)), none, none, none, none, none]) dX6_turns_70 (Nat.le_of_ble_eq_true rfl) rfl ?_
      refine V.sub (ls' := [some (.ref 49), none, none, some (.int x3), some (.int (0 : Int32)), none, none, none, none, none]) (And.intro rfl (And.intro rfl (And.intro rfl trivial))) ?_
      refine tX6_turns_72 (fun M59 h => ?_) FU _ _ h
      refine v_ldc (v := 1000000) dX6_turns_261 w_1066 ?_
      refine v_istore (ls1 := [some (.ref 49), none, none, some (.int x3), some (.int (1000000 : Int32)), none, none, none, none, none]) dX6_turns_263 (Nat.le_of_ble_eq_true rfl) rfl ?_
      refine v_iconst (v := 0) dX6_turns_265 rfl ?_
      refine v_istore (ls1 := [some (.ref 49), none, none, some (.int x3), some (.int (1000000 : Int32)), some (.int (0 : Int32)), none, none, none, none]) dX6_turns_266 (Nat.le_of_ble_eq_true rfl) rfl ?_
      refine V.sub (ls' := [some (.ref 49), none, none, some (.int x3), some (.int (1000000 : Int32)), some (.int (0 : Int32)), none, none, none, none]) (And.intro rfl (And.intro rfl (And.intro rfl (And.intro rfl trivial)))) ?_
      refine tX6_turns_268 (fun u69 h => ?_) FU _ _ h
      refine v_aload_n dX6_turns_314 rfl ?_
      refine v_iload dX6_turns_315 rfl ?_
      refine v_ldc (v := 999999) dX6_turns_317 w_1067 ?_
      obtain ⟨w70, e71, h⟩ := Option.bind_eq_some_iff.mp h
      refine v_callV (as := [.int u69, .int (999999 : Int32)]) (st := []) (sX6_orNone e71) dX6_turns_319 mlX6_152 (CRn (by decide) (by decide)) sh_49 rfl rfl rfl (Nat.le_of_ble_eq_true rfl) ?_
      replace h := Option.some.inj h; subst h
      exact v_iret rfl dX6_turns_322
    · replace h := (if_pos c8).symm.trans h
      refine v_aload_n dX6_turns_17 rfl ?_
      refine v_ldc (v := -1000000001) dX6_turns_18 w_809 ?_
      obtain ⟨w72, e73, h⟩ := Option.bind_eq_some_iff.mp h
      refine v_callV (as := [.int (-1000000001 : Int32)]) (st := []) (sX6_finds e73) dX6_turns_20 mlX6_69 (CRn (by decide) (by decide)) sh_49 rfl rfl rfl (Nat.le_of_ble_eq_true rfl) ?_
      replace h := Option.some.inj h; subst h
      exact v_iret rfl dX6_turns_23
