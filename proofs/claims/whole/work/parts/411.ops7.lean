/-! MATHS: walkers walk -/
theorem gPut_put (G : Gd) (k : Nat) (a b : Wk) : gPut (gPut G k a) k b = gPut G k b := by
  have e : va_up (va_up (gK G) k a) k b = va_up (gK G) k b := by
    funext j; unfold va_up; by_cases q : j = k
    · rw [if_pos q, if_pos q]
    · rw [if_neg q, if_neg q, if_neg q]
  show gSetK G (gW G) (va_up (va_up (gK G) k a) k b) = gSetK G (gW G) (va_up (gK G) k b)
  rw [e]
theorem gPut_at (G : Gd) (k : Nat) (a : Wk) : gK (gPut G k a) k = a := if_pos rfl
theorem gPut_ne (G : Gd) {k j : Nat} (a : Wk) (h : j ≠ k) : gK (gPut G k a) j = gK G j := if_neg h
theorem WG_put {B : Nat} {G : Gd} (hw : WG B G) {k : Nat} {u : Wk} (hu : okw B G u) : WG B (gPut G k u) := WG_wk hw hw.2.1 (by omega) (Or.inr (Nat.le_refl _)) hu
theorem RG_put {B : Nat} {G : Gd} {M M' : Mem} {k : Nat} {u : Wk} (hw : WG B G) (hg : RG 1 G M) (hk : k < gW G) (ho : One (3 + k) M M') (hu : RW (3 + k) u M') : RG 1 (gPut G k u) M' := by
  have h6 := hw.2.1
  exact RG_wk hw hg (by omega) (by omega) (Or.inr (Nat.le_refl _)) _ (fun c q1 q2 q3 => ho.1 c q3) (by rw [ho.1 1 (by omega)]) (by rw [ho.1 1 (by omega)]; exact hg.2.1) hu
def mvn (G : Gd) : Nat → Wk → Wk
  | 0, u => u
  | m + 1, u => mvn G m (mv1 G u)
theorem mvn_put (G : Gd) (k : Nat) (a : Wk) (m : Nat) : ∀ u, mvn (gPut G k a) m u = mvn G m u := by
  induction m with
  | zero => intro u; rfl
  | succ m ih => intro u; exact ih (mv1 G u)
theorem mvn_s (G : Gd) (m : Nat) : ∀ u, mvn G (m + 1) u = mv1 G (mvn G m u) := by
  induction m with
  | zero => intro u; rfl
  | succ m ih => intro u; exact ih (mv1 G u)
theorem okw_mono {B B' : Nat} {G : Gd} {u : Wk} (h : okw B G u) (hb : B ≤ B') : okw B' G u := ⟨h.1, h.2.1, Nat.le_trans h.2.2.1 hb, Nat.le_trans h.2.2.2 hb⟩
theorem okw_mvn {B' : Nat} {G : Gd} (hw : WG B' G) (m : Nat) : ∀ {B : Nat} {u : Wk}, okw B G u → okw (B + 13 * m) G (mvn G m u) := by
  induction m with
  | zero => intro B u h; exact h
  | succ m ih => intro B u h; exact okw_mono (ih (okw_mv hw h)) (by omega)
theorem ok_step {t : Nat} {M : Mem} (ht : t < 512) (hI : Inv t M) (a1 : Int32) : ∃ v w, fX5_step a1 M = some v ∧ fX6_step a1 v.2 = some w ∧ v.1 = w.1 ∧ Inv (t + 1) w.2 := by
  refine ok_of hI (fun G hw hg => ?_)
  have h16 := hw.1
  have h6 := hw.2.1
  by_cases h1 : okx (gW G) a1 = true
  · obtain ⟨k, hk, rfl⟩ := okx_t (by omega) h1
    have hu : okw (1400 * t) G (gK G k) := hw.2.2.2.2 k hk
    have hm := okw_mv hw hu
    have hl : (mv1 G (gK G k)).2.1 < 4 * gF G := hm.2.1
    refine ⟨nI ((mv1 G (gK G k)).2.1 / 4), gPut G k (mv1 G (gK G k)), none, WG_put (WG_t hw) (okw_mono hm (by omega)), o0, ?_, fun M1 hs => ?_⟩
    · obtain ⟨M', e1, r1, o1⟩ := c_move (c := 3 + k) hw hg (show 1400 * t < 2 ^ 28 by omega) hu (show RW (3 + k) _ M from by have := hg.2.2.2.2 k hk; exact this)
      refine ⟨M', ?_, RG_put hw hg hk o1 r1, FC_one o1 (by omega) (by omega) (by omega), o1.1 48 (by omega)⟩
      unfold fX5_step
      rw [c_hasWalker hw hg, if_neg (b1 h1), ldW_n (by omega), Option.bind_some]
      show ((fX4_move (3 + k) M).bind fun w4 => some (fX5_fieldOf (w4.1 (3 + k) 1), w4)) = _
      rw [e1, Option.bind_some, r1.2.1, c_fieldOf (by omega)]
    · obtain ⟨M', e1, r1, o1⟩ := m_goes hw (show 1400 * t < 2 ^ 28 by omega) hs hk
      refine ⟨M', ?_, r1, FM_one o1 (by omega) (by omega), o1.1 54 (by omega)⟩
      have s2 := (r1.2.2.2.2 k hk).2.1
      rw [gPut_at] at s2
      unfold fX6_step
      rw [m_isWalker hw hs, Option.bind_some, if_neg (b1 h1), e1, Option.bind_some, m_part1 (by omega), s2]; rfl
  · refine ⟨fnd 0, G, some 0, WG_t hw, o7 (by decide), csp_fin hw hg ?_, fun M1 hs => msp_fin hs ?_⟩
    · unfold fX5_step; rw [c_hasWalker hw hg, if_pos (b0 h1), tb0]
    · unfold fX6_step; rw [m_isWalker hw hs, Option.bind_some, if_pos (b0 h1), mb0]
/-! a walker's double, and the array laid aside -/
theorem c_become {B : Nat} {G : Gd} {M : Mem} {k c : Nat} (hg : RG 1 G M) (hk : k < gW G) (h6 : gW G ≤ 6) (hc : 11 ≤ c) : ∃ M', fX4_become c (1 + 2 + k) M = some M' ∧ RW c (gK G k) M' ∧ One c M M' := by
  obtain ⟨c1, c2, c3, c4⟩ := hg.2.2.2.2 k hk
  unfold fX4_become
  refine ⟨_, rfl, ⟨?_, ?_, ?_, ?_⟩, One_tr (One_tr (One_tr (One_set _ _ _ _) (One_set _ _ _ _)) (One_set _ _ _ _)) (One_set _ _ _ _)⟩
  · rw [sI_j _ _ (by decide), sI_j _ _ (by decide), sI_j _ _ (by decide), sI_s]; exact c1
  · rw [sI_j _ _ (by decide), sI_j _ _ (by decide), sI_s, sI_c _ _ _ (by omega)]; exact c2
  · rw [sI_j _ _ (by decide), sI_s, sI_c _ _ _ (by omega), sI_c _ _ _ (by omega)]; exact c3
  · rw [sI_s, sI_c _ _ _ (by omega), sI_c _ _ _ (by omega), sI_c _ _ _ (by omega)]; exact c4
theorem RG_one {B : Nat} {G : Gd} {M M' : Mem} {c : Nat} (hw : WG B G) (hg : RG 1 G M) (ho : One c M M') (hc : 11 ≤ c) : RG 1 G M' := RG_cg hw hg (fun a q1 q2 => ho.1 a (by omega))
theorem m_aside {ρ : Type} {kx : Mem → Option ρ} (m : Nat) : ∀ (i n : Nat) (M : Mem), i + m = 112 → m < n → ∃ M', fX6_laysAside_2 kx n (nI i) M = kx M' ∧ One 53 M M' ∧ (∀ j, i ≤ j → j < 112 → M'.1 53 j = M.1 50 j) ∧ ∀ j, j < i → M'.1 53 j = M.1 53 j := by
  induction m with
  | zero =>
    intro i n M e h
    obtain rfl : i = 112 := by omega
    obtain ⟨n, rfl⟩ : ∃ k, n = k + 1 := ⟨n - 1, by omega⟩
    exact ⟨M, by rw [fX6_laysAside_2, if_pos (by decide)], One_rf _ _, fun j q1 q2 => absurd q1 (by omega), fun j q => rfl⟩
  | succ m ih =>
    intro i n M e h
    obtain ⟨n, rfl⟩ : ∃ k, n = k + 1 := ⟨n - 1, by omega⟩
    obtain ⟨M', e1, o1, a1, z1⟩ := ih (i + 1) n (setI M 53 i (M.1 50 i)) (by omega) (by omega)
    refine ⟨M', ?_, One_tr (One_set _ _ _ _) o1, fun j q1 q2 => ?_, fun j q => ?_⟩
    · rw [fX6_laysAside_2, if_neg (show ¬ (112 : Int32) ≤ nI i from nI_ge (b := 112) (by omega) (by decide)), ldI_n (by omega) (by decide), Option.bind_some, stI_n (by omega) (by decide), Option.bind_some, nI_1, e1]
    · by_cases q : j = i
      · rw [q, z1 i (by omega), sI_s]
      · rw [a1 j (by omega) q2, sI_c _ _ _ (by decide)]
    · rw [z1 j (by omega), sI_j _ _ (by omega)]
theorem m_back {ρ : Type} {kx : Mem → Option ρ} {y : Int32} (m : Nat) : ∀ (i n : Nat) (M : Mem), i + m = 112 → m < n → ∃ M', fX6_takesBack_2 kx y n (nI i) M = kx M' ∧ One 50 M M' ∧ (∀ j, i ≤ j → j < 112 → M'.1 50 j = M.1 53 j) ∧ ∀ j, j < i → M'.1 50 j = M.1 50 j := by
  induction m with
  | zero =>
    intro i n M e h
    obtain rfl : i = 112 := by omega
    obtain ⟨n, rfl⟩ : ∃ k, n = k + 1 := ⟨n - 1, by omega⟩
    exact ⟨M, by rw [fX6_takesBack_2, if_pos (by decide)], One_rf _ _, fun j q1 q2 => absurd q1 (by omega), fun j q => rfl⟩
  | succ m ih =>
    intro i n M e h
    obtain ⟨n, rfl⟩ : ∃ k, n = k + 1 := ⟨n - 1, by omega⟩
    obtain ⟨M', e1, o1, a1, z1⟩ := ih (i + 1) n (setI M 50 i (M.1 53 i)) (by omega) (by omega)
    refine ⟨M', ?_, One_tr (One_set _ _ _ _) o1, fun j q1 q2 => ?_, fun j q => ?_⟩
    · rw [fX6_takesBack_2, if_neg (show ¬ (112 : Int32) ≤ nI i from nI_ge (b := 112) (by omega) (by decide)), ldI_n (by omega) (by decide), Option.bind_some, stI_n (by omega) (by decide), Option.bind_some, nI_1, e1]
    · by_cases q : j = i
      · rw [q, z1 i (by omega), sI_s]
      · rw [a1 j (by omega) q2, sI_c _ _ _ (by decide)]
    · rw [z1 j (by omega), sI_j _ _ (by omega)]
theorem RS_112 {B a b : Nat} {G : Gd} {M M' : Mem} (hw : WG B G) (h : RS a G M) (hc : ∀ j, j < 112 → M'.1 b j = M.1 a j) : RS b G M' := by
  have h16 := hw.1
  have h6 := hw.2.1
  obtain ⟨g1, g2, g3, g4, g5⟩ := h
  refine ⟨by rw [hc 0 (by omega)]; exact g1, by rw [hc 1 (by omega)]; exact g2, fun f hf => by rw [hc _ (by omega)]; exact g3 f hf, fun w hl => by rw [hc _ (by omega)]; exact g4 w hl, fun k hk => ?_⟩
  obtain ⟨k1, k2, k3, k4, k5⟩ := g5 k hk
  exact ⟨by rw [hc _ (by omega)]; exact k1, by rw [hc _ (by omega)]; exact k2, by rw [hc _ (by omega)]; exact k3, by rw [hc _ (by omega)]; exact k4, by rw [hc _ (by omega)]; exact k5⟩
/-- the array laid aside: a walker is led on it, and the array is taken back -/
theorem m_laysAside {B : Nat} {G : Gd} {M : Mem} (hw : WG B G) (hs : RS 50 G M) : ∃ M', fX6_laysAside M = some M' ∧ RS 50 G M' ∧ RS 53 G M' ∧ One 53 M M' := by
  obtain ⟨M', e1, o1, a1, z1⟩ := m_aside (kx := fun M6 => some M6) 112 0 FU M (by omega) (by decide)
  exact ⟨M', e1, RS_cg hs (o1.1 50 (by decide)), RS_112 hw hs (fun j q => a1 j (by omega) q), o1⟩
theorem m_takesBack {B : Nat} {G : Gd} {M : Mem} (hw : WG B G) (hs : RS 53 G M) (x : Int32) : ∃ M', fX6_takesBack x M = some (x, M') ∧ RS 50 G M' ∧ One 50 M M' := by
  obtain ⟨M', e1, o1, a1, z1⟩ := m_back (kx := fun M6 => some (x, M6)) (y := x) 112 0 FU M (by omega) (by decide)
  exact ⟨M', e1, RS_112 hw hs (fun j q => a1 j (by omega) q), o1⟩
