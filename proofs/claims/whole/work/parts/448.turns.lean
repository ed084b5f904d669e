/-! MATHS: fewest turns -/
def eT0 (G : Gd) (w : Nat) : List Ed := match on1 G w with
  | none => []
  | some v => [(w, v, 0)]
def eT (G : Gd) (w : Nat) : List Ed := eT0 G w ++ [(w, trn w 1, 1), (w, trn w 3, 1)]
theorem eT0_n {G : Gd} {w : Nat} (h : on1 G w = none) : eT0 G w = [] := by unfold eT0; rw [h]
theorem eT0_s {G : Gd} {w v : Nat} (h : on1 G w = some v) : eT0 G w = [(w, v, 0)] := by unfold eT0; rw [h]
theorem eT_f (G : Gd) (w : Nat) (d : Nat → Nat) : (eT G w).foldl rel d = rel (rel ((eT0 G w).foldl rel d) (w, trn w 1, 1)) (w, trn w 3, 1) := by
  unfold eT; rw [List.foldl_append]; rfl
theorem rel_from (d : Nat → Nat) (e : Ed) : rel d e e.1 = d e.1 := by
  unfold rel
  split
  · next h =>
    by_cases q : e.1 = e.2.1
    · rw [← q] at h; omega
    · exact va_up_ne _ _ q
  · rfl
theorem eT0_from (G : Gd) (w : Nat) (d : Nat → Nat) : (eT0 G w).foldl rel d w = d w := by
  cases h : on1 G w with
  | none => rw [eT0_n h]; rfl
  | some v => rw [eT0_s h]; exact rel_from d (w, v, 0)
theorem Bd_fol {d : Nat → Nat} (h : Bd d) (l : List Ed) : Bd (l.foldl rel d) := fun x => Nat.le_trans (fol_le l d x) (h x)
theorem c_t34 {ρ : Type} {kx : Int32 → Mem → Option ρ} {B : Nat} {G : Gd} {y4 : Int32} (hw : WG B G) (m : Nat) : ∀ (i n : Nat) (fl : Int32) (M : Mem) (d : Nat → Nat), RG 1 G M → RD 35 64 d M → Bd d → b01 fl → i + m = 4 * gF G → m < n → ∃ M' fl', fX0_spreadTurning_34 kx 35 y4 n fl (nI i) M = kx fl' M' ∧ RD 35 64 (rdw (eT G) m i d) M' ∧ One 35 M M' ∧ b01 fl' ∧ (fl' = 0 → fl = 0 ∧ rdw (eT G) m i d = d) := by
  have h16 := hw.1
  induction m with
  | zero =>
    intro i n fl M d hg hr hb hf e h
    obtain rfl : i = 4 * gF G := by omega
    obtain ⟨n, rfl⟩ : ∃ k, n = k + 1 := ⟨n - 1, by omega⟩
    exact ⟨M, fl, by rw [fX0_spreadTurning_34, c_ways hg, if_pos (Int32.le_refl _)], hr, One_rf _ _, hf, fun q => ⟨q, rfl⟩⟩
  | succ m ih =>
    intro i n fl M d hg hr hb hf e h
    obtain ⟨n, rfl⟩ : ∃ k, n = k + 1 := ⟨n - 1, by omega⟩
    have hl : i < 4 * gF G := by omega
    have ht1 := trn_lt (q := 1) hl
    have ht3 := trn_lt (q := 3) hl
    have hd0 := hb i
    -- going on
    have s1 : ∃ M1 x1, fX0_lower 35 (gl (on1 G i)) (nI (d i)) M = some (x1, M1) ∧ RD 35 64 ((eT0 G i).foldl rel d) M1 ∧ One 35 M M1 ∧ b01 x1 ∧ (x1 = 0 → (eT0 G i).foldl rel d = d) := by
      cases ho : on1 G i with
      | none =>
        rw [eT0_n ho]
        refine ⟨M, 0, ?_, hr, One_rf _ _, Or.inl rfl, fun _ => rfl⟩
        unfold fX0_lower
        rw [if_pos (show gl none < 0 by decide)]
      | some v =>
        have hv := (on1_lt hw ho).1
        obtain ⟨M1, p1, r1, o1⟩ := c_low (i := v) (s := d i) al_35 (by decide) (by omega) (by omega) hr hb
        have hx := b01_if (d i) (d v)
        rw [eT0_s ho]
        exact ⟨M1, _, p1, r1, o1, hx.1, fun q => if_neg (hx.2 q)⟩
    obtain ⟨M1, x1, p1, r1, o1, bx1, z1⟩ := s1
    have hb1 : Bd ((eT0 G i).foldl rel d) := Bd_fol hb _
    have f1 := eT0_from G i d
    have e1 : RD 35 64 (rel ((eT0 G i).foldl rel d) (i, trn i 1, 1)) = RD 35 64 (lowd ((eT0 G i).foldl rel d) (trn i 1) ((eT0 G i).foldl rel d i + 1)) := rfl
    obtain ⟨M2, p2, r2, o2⟩ := c_low (i := trn i 1) (s := (eT0 G i).foldl rel d i + 1) al_35 (by decide) (by omega) (by rw [f1]; omega) r1 hb1
    have hx2 := b01_if ((eT0 G i).foldl rel d i + 1) ((eT0 G i).foldl rel d (trn i 1))
    have hb2 : Bd (rel ((eT0 G i).foldl rel d) (i, trn i 1, 1)) := Bd_rel hb1 _
    have f2 : rel ((eT0 G i).foldl rel d) (i, trn i 1, 1) i = d i := (rel_from _ (i, trn i 1, 1)).trans f1
    obtain ⟨M3, p3, r3, o3⟩ := c_low (d := rel ((eT0 G i).foldl rel d) (i, trn i 1, 1)) (i := trn i 3) (s := rel ((eT0 G i).foldl rel d) (i, trn i 1, 1) i + 1) al_35 (by decide) (by omega) (by rw [f2]; omega) r2 hb2
    have hx3 := b01_if (rel ((eT0 G i).foldl rel d) (i, trn i 1, 1) i + 1) (rel ((eT0 G i).foldl rel d) (i, trn i 1, 1) (trn i 3))
    have hor1 := b01_or hf bx1
    have hor2 := b01_or hor1.1 hx2.1
    have hor3 := b01_or hor2.1 hx3.1
    have oo := One_tr (One_tr o1 o2) o3
    obtain ⟨M', fl', k1, k2, k3, k4, k5⟩ := ih (i + 1) n _ M3 (rel (rel ((eT0 G i).foldl rel d) (i, trn i 1, 1)) (i, trn i 3, 1)) (RG_one hw hg oo (by decide)) r3 (Bd_rel hb2 _) hor3.1 (by omega) (by omega)
    have er : rdw (eT G) (m + 1) i d = rdw (eT G) m (i + 1) (rel (rel ((eT0 G i).foldl rel d) (i, trn i 1, 1)) (i, trn i 3, 1)) := by
      show rdw (eT G) m (i + 1) ((eT G i).foldl rel d) = _
      rw [eT_f]
    rw [er]
    refine ⟨M', fl', ?_, k2, One_tr oo k3, k4, fun q => ?_⟩
    · rw [fX0_spreadTurning_34, c_ways hg, if_neg (nI_ge hl (by omega)), c_goOn hw hg hl, Option.bind_some, al_35, ldI_n (by omega) (by decide), Option.bind_some, hr i (by omega), p1, Option.bind_some]
      show (ldI M1 35 64 (nI i)).bind _ = _
      rw [ldI_n (by omega) (by decide), Option.bind_some, r1 i (by omega), nI_1, show (1 : Int32) = nI 1 from rfl, c_turned (by omega) (by decide), p2, Option.bind_some]
      show (ldI M2 35 64 (nI i)).bind _ = _
      have r2i : M2.1 35 i = nI (rel ((eT0 G i).foldl rel d) (i, trn i 1, 1) i) := r2 i (by omega)
      rw [ldI_n (by omega) (by decide), Option.bind_some, r2i, nI_add, show (3 : Int32) = nI 3 from rfl, c_turned (by omega) (by decide), p3, Option.bind_some, nI_add]
      exact k1
    · obtain ⟨q1, q2⟩ := k5 q
      obtain ⟨q3, q4⟩ := hor3.2 q1
      obtain ⟨q5, q6⟩ := hor2.2 q3
      obtain ⟨q7, q8⟩ := hor1.2 q5
      have w1 := z1 q8
      have w2 : rel ((eT0 G i).foldl rel d) (i, trn i 1, 1) = (eT0 G i).foldl rel d := if_neg (hx2.2 q6)
      have w3 : rel (rel ((eT0 G i).foldl rel d) (i, trn i 1, 1)) (i, trn i 3, 1) = rel ((eT0 G i).foldl rel d) (i, trn i 1, 1) := if_neg (hx3.2 q4)
      rw [w3, w2, w1] at q2 ⊢
      exact ⟨q7, q2⟩
theorem c_t18 {ρ : Type} {kx : Mem → Option ρ} {B : Nat} {G : Gd} (hw : WG B G) (m : Nat) : ∀ (r n : Nat) (fl : Int32) (M : Mem) (d : Nat → Nat), RG 1 G M → RD 35 64 d M → Bd d → b01 fl → (fl = 0 → rdw (eT G) (4 * gF G) 0 d = d) → r + m = 64 → m < n → ∃ M', fX0_spreadTurning_18 kx 35 n fl (nI r) M = kx M' ∧ RD 35 64 (itR (eT G) (4 * gF G) m d) M' ∧ One 35 M M' := by
  have h16 := hw.1
  induction m with
  | zero =>
    intro r n fl M d hg hr hb hf hz e h
    obtain rfl : r = 64 := by omega
    obtain ⟨n, rfl⟩ : ∃ k, n = k + 1 := ⟨n - 1, by omega⟩
    exact ⟨M, by rw [fX0_spreadTurning_18, if_pos (by decide)], hr, One_rf _ _⟩
  | succ m ih =>
    intro r n fl M d hg hr hb hf hz e h
    obtain ⟨n, rfl⟩ : ∃ k, n = k + 1 := ⟨n - 1, by omega⟩
    rw [fX0_spreadTurning_18, if_neg (show ¬ (64 : Int32) ≤ nI r from nI_ge (b := 64) (by omega) (by decide))]
    by_cases q : fl = 0
    · rw [if_pos q, itR_fix (hz q)]
      exact ⟨M, rfl, hr, One_rf _ _⟩
    · rw [if_neg q]
      obtain ⟨M1, f1, p1, r1, o1, b1', z1⟩ := c_t34 (kx := fun u22 M23 => (fX0_spreadTurning_18 kx 35 n u22 (nI r + (1 : Int32)) M23)) (y4 := nI r) hw (4 * gF G) 0 FU 0 M d hg hr hb (Or.inl rfl) (Nat.zero_add _) (by unfold FU; omega)
      obtain ⟨M', p2, r2, o2⟩ := ih (r + 1) n f1 M1 (rdw (eT G) (4 * gF G) 0 d) (RG_one hw hg o1 (by decide)) r1 (Bd_rdw hb _ _ _) b1' (fun w => by rw [(z1 w).2, (z1 w).2]) (by omega) (by omega)
      refine ⟨M', ?_, r2, One_tr o1 o2⟩
      refine Eq.trans p1 ?_
      rw [nI_1]; exact p2
theorem c_turning {B f : Nat} {G : Gd} {M : Mem} (hw : WG B G) (hg : RG 1 G M) (hf : f < 4 * gF G) : ∃ M', fX0_spreadTurning 35 (nI f) M = some M' ∧ RD 35 64 (itR (eT G) (4 * gF G) 64 (ini f)) M' ∧ One 35 M M' := by
  have h16 := hw.1
  obtain ⟨M1, M2, x, e1, e2, r2, o2⟩ := c_ini (f := f) al_35 (by decide) (by omega) M
  obtain ⟨M', p2, r3, o3⟩ := c_t18 (kx := fun M24 => some M24) hw 64 0 FU 1 M2 (ini f) (RG_one hw hg o2 (by decide)) r2 (Bd_ini f) (Or.inr rfl) (fun q => absurd q (by decide)) (by decide) (by decide)
  refine ⟨M', ?_, r3, One_tr o2 o3⟩
  unfold fX0_spreadTurning
  rw [e1, Option.bind_some, e2, Option.bind_some]; exact p2
/-! the model's -/
theorem m_tr3 {v : Nat} (hv : v < 64) : (nI v / (4 : Int32)) * (4 : Int32) + ((nI v + (3 : Int32)) - (nI v + (3 : Int32)) / (4 : Int32) * (4 : Int32)) = nI (trn v 3) := by
  have := m_onwardq 3 (by decide) hv
  rw [nI_pred] at this
  exact this
theorem m_lw {ρ : Type} {kk : Mem → Option ρ} {n i s : Nat} {d : Nat → Nat} {M : Mem} (hn : n ≤ 64) (hi : i < n) (hs : s < 2 ^ 30) (hr : RD 55 n d M) (hb : Bd d) : ∃ M', ((ldI M 55 64 (nI i)).bind fun v28 => ((if v28 ≤ nI s then ((ldI M 55 64 (nI i)).bind fun v34 => some v34) else some (nI s)).bind fun t32 => ((stI M 55 64 (nI i) t32).bind kk))) = kk M' ∧ RD 55 n (lowd d i s) M' ∧ One 55 M M' := by
  have hd := hb i
  have hle : nI (d i) ≤ nI s ↔ d i ≤ s := nI_leI (by omega) (by omega)
  rw [ldI_n (by omega) (by decide), Option.bind_some, Option.bind_some, hr i hi]
  unfold lowd
  by_cases q : d i ≤ s
  · rw [if_pos (hle.mpr q), Option.bind_some, stI_n (by omega) (by decide), Option.bind_some, if_neg (show ¬ s < d i by omega)]
    exact ⟨_, rfl, RD_same hr _ rfl, One_set _ _ _ _⟩
  · rw [if_neg (fun z => q (hle.mp z)), Option.bind_some, stI_n (by omega) (by decide), Option.bind_some, if_pos (show s < d i by omega)]
    exact ⟨_, rfl, RD_set hr, One_set _ _ _ _⟩
theorem m_t83 {ρ : Type} {kx : Mem → Option ρ} {B : Nat} {G : Gd} {y3 y4 : Int32} (hw : WG B G) (m : Nat) : ∀ (i n : Nat) (M : Mem) (d : Nat → Nat), RS 50 G M → RD 55 (4 * gF G) d M → Bd d → i + m = 4 * gF G → m < n → ∃ M', fX6_turns_83 kx y3 y4 n (nI i) M = kx M' ∧ RD 55 (4 * gF G) (rdw (eT G) m i d) M' ∧ One 55 M M' := by
  have h16 := hw.1
  have e4 : (4 : Int32) * nI (gF G) = nI (4 * gF G) := pk_mul 4 (gF G)
  induction m with
  | zero =>
    intro i n M d hs hr hb e h
    obtain rfl : i = 4 * gF G := by omega
    obtain ⟨n, rfl⟩ : ∃ k, n = k + 1 := ⟨n - 1, by omega⟩
    exact ⟨M, by rw [fX6_turns_83, ld50_0, Option.bind_some, hs.1, e4, if_pos (Int32.le_refl _)], hr, One_rf _ _⟩
  | succ m ih =>
    intro i n M d hs hr hb e h
    obtain ⟨n, rfl⟩ : ∃ k, n = k + 1 := ⟨n - 1, by omega⟩
    have hl : i < 4 * gF G := by omega
    have ht1 := trn_lt (q := 1) hl
    have ht3 := trn_lt (q := 3) hl
    have hd0 := hb i
    have s1 : ∃ M1, (if gl (on1 G i) < 0 then some M else ((ldI M 55 64 (gl (on1 G i))).bind fun v28 => ((if v28 ≤ nI (d i) then ((ldI M 55 64 (gl (on1 G i))).bind fun v34 => some v34) else some (nI (d i))).bind fun t32 => ((stI M 55 64 (gl (on1 G i)) t32).bind fun M36 => some M36)))) = some M1 ∧ RD 55 (4 * gF G) ((eT0 G i).foldl rel d) M1 ∧ One 55 M M1 := by
      cases ho : on1 G i with
      | none =>
        rw [eT0_n ho, if_pos (show gl none < 0 by decide)]
        exact ⟨M, rfl, hr, One_rf _ _⟩
      | some v =>
        have hv := (on1_lt hw ho).1
        obtain ⟨M1, p1, r1, o1⟩ := m_lw (kk := fun M36 => some M36) (s := d i) (by omega) hv (by omega) hr hb
        rw [eT0_s ho, show gl (some v) = nI v from rfl, if_neg (nI_pos (by omega))]
        exact ⟨M1, p1, r1, o1⟩
    obtain ⟨M1, p1, r1, o1⟩ := s1
    have hb1 : Bd ((eT0 G i).foldl rel d) := Bd_fol hb _
    have f1 := eT0_from G i d
    have f2 : rel ((eT0 G i).foldl rel d) (i, trn i 1, 1) i = d i := (rel_from _ (i, trn i 1, 1)).trans f1
    have hb2 : Bd (rel ((eT0 G i).foldl rel d) (i, trn i 1, 1)) := Bd_rel hb1 _
    have l1 : lowd ((eT0 G i).foldl rel d) (trn i 1) (d i + 1) = rel ((eT0 G i).foldl rel d) (i, trn i 1, 1) := by
      rw [rel_low]; show _ = lowd _ (trn i 1) ((eT0 G i).foldl rel d i + 1); rw [f1]
    have l2 : lowd (rel ((eT0 G i).foldl rel d) (i, trn i 1, 1)) (trn i 3) (d i + 1) = rel (rel ((eT0 G i).foldl rel d) (i, trn i 1, 1)) (i, trn i 3, 1) := by
      rw [rel_low (rel ((eT0 G i).foldl rel d) (i, trn i 1, 1))]; show _ = lowd _ (trn i 3) (rel ((eT0 G i).foldl rel d) (i, trn i 1, 1) i + 1); rw [f2]
    have er : rdw (eT G) (m + 1) i d = rdw (eT G) m (i + 1) (rel (rel ((eT0 G i).foldl rel d) (i, trn i 1, 1)) (i, trn i 3, 1)) := by
      show rdw (eT G) m (i + 1) ((eT G i).foldl rel d) = _
      rw [eT_f]
    rw [er, fX6_turns_83, ld50_0, Option.bind_some, hs.1, e4, if_neg (nI_ge hl (by omega)), m_onward hw hs (by omega), Option.bind_some, ldI_n (M := M) (c := 55) (k := i) (by omega) (by decide), Option.bind_some, hr i hl, p1, Option.bind_some, m_tr1 (by omega), m_tr3 (by omega), nI_1]
    obtain ⟨M2, p2, r2, o2⟩ := m_lw (kk := fun M46 => ((ldI M46 55 64 (nI (trn i 3))).bind fun v48 => ((if v48 ≤ (nI (d i + 1)) then ((ldI M46 55 64 (nI (trn i 3))).bind fun v54 => some v54) else some (nI (d i + 1))).bind fun t52 => ((stI M46 55 64 (nI (trn i 3)) t52).bind fun M56 => (fX6_turns_83 kx y3 y4 n (nI i + (1 : Int32)) M56))))) (s := d i + 1) (i := trn i 1) (by omega) ht1 (by omega) r1 hb1
    rw [l1] at r2
    obtain ⟨M3, p3, r3, o3⟩ := m_lw (kk := fun M56 => (fX6_turns_83 kx y3 y4 n (nI i + (1 : Int32)) M56)) (s := d i + 1) (i := trn i 3) (by omega) ht3 (by omega) r2 hb2
    rw [l2] at r3
    have oo := One_tr (One_tr o1 o2) o3
    obtain ⟨M', k1, k2, k3⟩ := ih (i + 1) n M3 _ (RS_cg hs (oo.1 50 (by decide))) r3 (Bd_rel hb2 _) (by omega) (by omega)
    refine ⟨M', ?_, k2, One_tr oo k3⟩
    refine Eq.trans p2 (Eq.trans p3 ?_)
    rw [nI_1]; exact k1
theorem m_t72 {ρ : Type} {kx : Mem → Option ρ} {B : Nat} {G : Gd} {y3 : Int32} (hw : WG B G) (m : Nat) : ∀ (r n : Nat) (M : Mem) (d : Nat → Nat), RS 50 G M → RD 55 (4 * gF G) d M → Bd d → r + m = 128 → m < n → ∃ M', fX6_turns_72 kx y3 n (nI r) M = kx M' ∧ RD 55 (4 * gF G) (itR (eT G) (4 * gF G) m d) M' ∧ One 55 M M' := by
  have h16 := hw.1
  induction m with
  | zero =>
    intro r n M d hs hr hb e h
    obtain rfl : r = 128 := by omega
    obtain ⟨n, rfl⟩ : ∃ k, n = k + 1 := ⟨n - 1, by omega⟩
    exact ⟨M, by rw [fX6_turns_72, if_pos (by decide)], hr, One_rf _ _⟩
  | succ m ih =>
    intro r n M d hs hr hb e h
    obtain ⟨n, rfl⟩ : ∃ k, n = k + 1 := ⟨n - 1, by omega⟩
    rw [fX6_turns_72, if_neg (show ¬ (128 : Int32) ≤ nI r from nI_ge (b := 128) (by omega) (by decide))]
    obtain ⟨M1, p1, r1, o1⟩ := m_t83 (kx := fun M58 => (fX6_turns_72 kx y3 n (nI r + (1 : Int32)) M58)) (y3 := y3) (y4 := nI r) hw (4 * gF G) 0 FU M d hs hr hb (Nat.zero_add _) (by unfold FU; omega)
    obtain ⟨M', p2, r2, o2⟩ := ih (r + 1) n M1 (rdw (eT G) (4 * gF G) 0 d) (RS_cg hs (o1.1 50 (by decide))) r1 (Bd_rdw hb _ _ _) (by omega) (by omega)
    refine ⟨M', ?_, r2, One_tr o1 o2⟩
    refine Eq.trans p1 ?_
    rw [nI_1]; exact p2
theorem m_t27 {ρ : Type} {kx : Mem → Option ρ} {B a b : Nat} {G : Gd} {y3 : Int32} (hw : WG B G) (hf : 4 * a + b < 4 * gF G) (m : Nat) : ∀ (i n : Nat) (M : Mem), RS 50 G M → i + m = 4 * gF G → m < n → ∃ M', fX6_turns_27 kx (nI a) (nI b) y3 n (nI i) M = kx M' ∧ One 55 M M' ∧ (∀ j, i ≤ j → j < 4 * gF G → M'.1 55 j = nI (ini (4 * a + b) j)) ∧ ∀ j, j < i → M'.1 55 j = M.1 55 j := by
  have h16 := hw.1
  have e4 : (4 : Int32) * nI (gF G) = nI (4 * gF G) := pk_mul 4 (gF G)
  induction m with
  | zero =>
    intro i n M hs e h
    obtain rfl : i = 4 * gF G := by omega
    obtain ⟨n, rfl⟩ : ∃ k, n = k + 1 := ⟨n - 1, by omega⟩
    exact ⟨M, by rw [fX6_turns_27, ld50_0, Option.bind_some, hs.1, e4, if_pos (Int32.le_refl _)], One_rf _ _, fun j q1 q2 => absurd q1 (by omega), fun j q => rfl⟩
  | succ m ih =>
    intro i n M hs e h
    obtain ⟨n, rfl⟩ : ∃ k, n = k + 1 := ⟨n - 1, by omega⟩
    have hv : (if nI i = nI (4 * a + b) then (0 : Int32) else 1000000) = nI (ini (4 * a + b) i) := by
      unfold ini va_up far0
      by_cases q : i = 4 * a + b
      · rw [if_pos (by rw [q]), if_pos q]; rfl
      · rw [if_neg (fun z => q ((nI_eq (by omega) (by omega)).mp z)), if_neg q]; rfl
    obtain ⟨M', e1, o1, a1, z1⟩ := ih (i + 1) n (setI M 55 i (nI (ini (4 * a + b) i))) (RS_cg hs (sI_c _ _ _ (by decide))) (by omega) (by omega)
    refine ⟨M', ?_, One_tr (One_set _ _ _ _) o1, fun j q1 q2 => ?_, fun j q => ?_⟩
    · rw [fX6_turns_27, ld50_0, Option.bind_some, hs.1, e4, if_neg (nI_ge (show i < 4 * gF G by omega) (by omega)), m_ix2, hv, stI_n (by omega) (by decide), Option.bind_some, nI_1, e1]
    · by_cases q : j = i
      · rw [q, z1 i (by omega), sI_s]
      · exact a1 j (by omega) q2
    · rw [z1 j (by omega), sI_j _ _ (by omega)]
def mnT (d : Nat → Nat) (g : Nat) : Nat → Nat → Nat → Nat
  | 0, _, b => b
  | m + 1, h, b => mnT d g m (h + 1) (if d (4 * g + h) < b then d (4 * g + h) else b)
theorem mnT_le {d : Nat → Nat} (hb : Bd d) (g m : Nat) : ∀ h b, b ≤ 1000000 → mnT d g m h b ≤ 1000000 := by
  induction m with
  | zero => intro h b q; exact q
  | succ m ih =>
    intro h b q
    refine ih (h + 1) _ ?_
    have := hb (4 * g + h)
    split <;> omega
theorem c_t53 {ρ : Type} {kx : Int32 → Option ρ} {g : Nat} {M : Mem} {d : Nat → Nat} (hg : g < 16) (hr : RD 35 64 d M) (hb : Bd d) (m : Nat) : ∀ (i n b : Nat), b ≤ 1000000 → i + m = 4 → m < n → fX5_turns_53 kx (nI g) M n (nI b) (nI i) = kx (nI (mnT d g m i b)) := by
  induction m with
  | zero =>
    intro i n b hq e h
    obtain rfl : i = 4 := by omega
    obtain ⟨n, rfl⟩ : ∃ k, n = k + 1 := ⟨n - 1, by omega⟩
    rw [fX5_turns_53, if_pos (by decide)]; rfl
  | succ m ih =>
    intro i n b hq e h
    obtain ⟨n, rfl⟩ : ∃ k, n = k + 1 := ⟨n - 1, by omega⟩
    have hd := hb (4 * g + i)
    have hlt : nI (d (4 * g + i)) < nI b ↔ d (4 * g + i) < b := nI_ltI (by omega) (by omega)
    rw [fX5_turns_53, if_neg (show ¬ (4 : Int32) ≤ nI i from nI_ge (b := 4) (by omega) (by decide)), c_wayOf, ldI_n (by omega) (by decide), Option.bind_some, hr _ (by omega), nI_1]
    unfold imn
    show _ = kx (nI (mnT d g m (i + 1) (if d (4 * g + i) < b then d (4 * g + i) else b)))
    by_cases q : d (4 * g + i) < b
    · rw [if_pos (hlt.mpr q), if_pos q]; exact ih (i + 1) n _ hd (by omega) (by omega)
    · rw [if_neg (fun z => q (hlt.mp z)), if_neg q]; exact ih (i + 1) n _ hq (by omega) (by omega)
theorem m_t268 {ρ : Type} {kx : Int32 → Option ρ} {g N : Nat} {M : Mem} {d : Nat → Nat} (hN : N ≤ 16) (hg : g < N) (hr : RD 55 (4 * N) d M) (hb : Bd d) (m : Nat) : ∀ (i n b : Nat), b ≤ 1000000 → i + m = 4 → m < n → fX6_turns_268 kx (nI g) M n (nI b) (nI i) = kx (nI (mnT d g m i b)) := by
  induction m with
  | zero =>
    intro i n b hq e h
    obtain rfl : i = 4 := by omega
    obtain ⟨n, rfl⟩ : ∃ k, n = k + 1 := ⟨n - 1, by omega⟩
    rw [fX6_turns_268, if_pos (by decide)]; rfl
  | succ m ih =>
    intro i n b hq e h
    obtain ⟨n, rfl⟩ : ∃ k, n = k + 1 := ⟨n - 1, by omega⟩
    have hd := hb (4 * g + i)
    have hle : nI b ≤ nI (d (4 * g + i)) ↔ b ≤ d (4 * g + i) := nI_leI (by omega) (by omega)
    rw [fX6_turns_268, if_neg (show ¬ (4 : Int32) ≤ nI i from nI_ge (b := 4) (by omega) (by decide)), m_ix2, ldI_n (by omega) (by decide), Option.bind_some, Option.bind_some, hr _ (by omega), nI_1]
    show _ = kx (nI (mnT d g m (i + 1) (if d (4 * g + i) < b then d (4 * g + i) else b)))
    by_cases q : d (4 * g + i) < b
    · rw [if_neg (fun z => by have := hle.mp z; omega), if_pos q, Option.bind_some]; exact ih (i + 1) n _ hd (by omega) (by omega)
    · rw [if_pos (hle.mpr (by omega)), if_neg q, Option.bind_some]; exact ih (i + 1) n _ hq (by omega) (by omega)
theorem eT_nodes {G : Gd} : ∀ e, inE (eT G) (4 * gF G) e → e.1 < 4 * gF G := by
  rintro e ⟨w, hw, he⟩
  have : e.1 = w := by
    unfold eT at he
    rcases List.mem_append.mp he with h | h
    · cases ho : on1 G w with
      | none => rw [eT0_n ho] at h; cases h
      | some v => rw [eT0_s ho] at h; rw [List.mem_singleton.mp h]
    · rcases List.mem_cons.mp h with h | h
      · rw [h]
      · rw [List.mem_singleton.mp h]
  omega
theorem ok_turns {t : Nat} {M : Mem} (ht : t < 512) (hI : Inv t M) (a1 : Int32) (a2 : Int32) (a3 : Int32) : ∃ v w, fX5_turns a1 a2 a3 M = some v ∧ fX6_turns a1 a2 a3 v.2 = some w ∧ v.1 = w.1 ∧ Inv (t + 1) w.2 := by
  refine ok_of hI (fun G hw hg => ?_)
  have h16 := hw.1
  by_cases h1 : okx (gF G) a1 = true ∧ okx 4 a2 = true
  · by_cases h3 : okx (gF G) a3 = true
    · obtain ⟨a, b, ha, hb, rfl, rfl⟩ := way_t h16 h1
      obtain ⟨g, hg3, rfl⟩ := okx_t (by omega) h3
      have hl : 4 * a + b < 4 * gF G := by omega
      have es : itR (eT G) (4 * gF G) 64 (ini (4 * a + b)) = itR (eT G) (4 * gF G) 128 (ini (4 * a + b)) := itR_same (n := 4 * gF G) eT_nodes (by omega) (by omega)
      obtain ⟨Ma, p1, r1, o1⟩ := c_turning hw hg hl
      have ga := RG_one hw hg o1 (by decide)
      have fa := FC_33 o1 (by decide) (by decide)
      have b8 : Ma.1 48 = M.1 48 := o1.1 48 (by decide)
      have hB := Bd_it (Bd_ini (4 * a + b)) (eT G) (4 * gF G) 64
      generalize itR (eT G) (4 * gF G) 64 (ini (4 * a + b)) = D at es r1 hB
      have hq := mnT_le hB g 4 0 1000000 (Nat.le_refl _)
      have hcl : fX5_turns (nI a) (nI b) (nI g) M = if mnT D g 4 0 1000000 = 1000000 then some (fnd 3, tellM 3 Ma) else some (nI (mnT D g 4 0 1000000), Ma) := by
        unfold fX5_turns
        rw [c_hasWay hw hg, if_neg (b1 h1), c_hasField hw hg, if_neg (b1 h3), c_wayOf, p1, Option.bind_some]
        refine Eq.trans (c_t53 (d := D) (show g < 16 by omega) r1 hB 4 0 FU 1000000 (Nat.le_refl _) (by decide) (by decide)) ?_
        rw [tb3]
        by_cases q : mnT D g 4 0 1000000 = 1000000
        · rw [if_pos q, if_pos (by rw [q]; rfl)]
        · rw [if_neg q, if_neg (show ¬ nI (mnT D g 4 0 1000000) = (1000000 : Int32) from fun w => q ((nI_eq (b := 1000000) (by omega) (by decide)).mp w))]
      have hml : ∀ M1, RS 50 G M1 → ∃ M', RS 50 G M' ∧ FM M1 M' ∧ M'.1 54 = M1.1 54 ∧ fX6_turns (nI a) (nI b) (nI g) M1 = if mnT D g 4 0 1000000 = 1000000 then some (fnd 3, findM 3 M') else some (nI (mnT D g 4 0 1000000), M') := by
        intro M1 hs
        obtain ⟨Mc, s1, oc, ac, _⟩ := m_t27 (kx := fun M15 => (fX6_turns_72 (fun M59 => (fX6_turns_268 (fun u69 => ((fX6_orNone u69 (999999 : Int32) M59).bind fun w70 => some (w70.1, w70.2))) (nI g) M59 FU (1000000 : Int32) (0 : Int32))) (nI g) FU (0 : Int32) M15)) (y3 := nI g) hw hl (4 * gF G) 0 FU M1 hs (Nat.zero_add _) (by unfold FU; omega)
        have sc : RS 50 G Mc := RS_cg hs (oc.1 50 (by decide))
        obtain ⟨Md, s2, rd, od⟩ := m_t72 (kx := fun M59 => (fX6_turns_268 (fun u69 => ((fX6_orNone u69 (999999 : Int32) M59).bind fun w70 => some (w70.1, w70.2))) (nI g) M59 FU (1000000 : Int32) (0 : Int32))) (y3 := nI g) hw 128 0 FU Mc (ini (4 * a + b)) sc (fun x hx => ac x (Nat.zero_le _) hx) (Bd_ini _) (by decide) (by decide)
        rw [← es] at rd
        have oo := One_tr oc od
        refine ⟨Md, RS_cg hs (oo.1 50 (by decide)), FM_one oo (by omega) (by omega), oo.1 54 (by decide), ?_⟩
        unfold fX6_turns
        rw [m_isWay hw hs, Option.bind_some, if_neg (b1 h1), m_isField hw hs, Option.bind_some, if_neg (b1 h3)]
        refine Eq.trans s1 (Eq.trans s2 ?_)
        refine Eq.trans (m_t268 (kx := fun u69 => ((fX6_orNone u69 (999999 : Int32) Md).bind fun w70 => some (w70.1, w70.2))) h16 hg3 rd hB 4 0 FU 1000000 (Nat.le_refl _) (by decide) (by decide)) ?_
        exact m_orN hq Md
      by_cases hz : mnT D g 4 0 1000000 = 1000000
      · rw [if_pos hz] at hcl
        refine ⟨fnd 3, G, some 3, WG_t hw, o7 (by decide), csp_fin' hw ga fa b8 hcl, fun M1 hs => ?_⟩
        obtain ⟨M', r', f', b', e'⟩ := hml M1 hs
        rw [if_pos hz] at e'
        exact msp_fin' r' f' b' e'
      · rw [if_neg hz] at hcl
        refine ⟨nI (mnT D g 4 0 1000000), G, none, WG_t hw, o0, ⟨Ma, hcl, ga, fa, b8⟩, fun M1 hs => ?_⟩
        obtain ⟨M', r', f', b', e'⟩ := hml M1 hs
        rw [if_neg hz] at e'
        exact ⟨M', e', r', f', b'⟩
    · refine ⟨fnd 0, G, some 0, WG_t hw, o7 (by decide), csp_fin hw hg ?_, fun M1 hs => msp_fin hs ?_⟩
      · unfold fX5_turns; rw [c_hasWay hw hg, if_neg (b1 h1), c_hasField hw hg, if_pos (b0 h3), tb0]
      · unfold fX6_turns; rw [m_isWay hw hs, Option.bind_some, if_neg (b1 h1), m_isField hw hs, Option.bind_some, if_pos (b0 h3), mb0]
  · refine ⟨fnd 0, G, some 0, WG_t hw, o7 (by decide), csp_fin hw hg ?_, fun M1 hs => msp_fin hs ?_⟩
    · unfold fX5_turns; rw [c_hasWay hw hg, if_pos (b0 h1), tb0]
    · unfold fX6_turns; rw [m_isWay hw hs, Option.bind_some, if_pos (b0 h1), mb0]
