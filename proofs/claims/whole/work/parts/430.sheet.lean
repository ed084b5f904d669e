/-! MATHS: sheets -/
/-- a memory whose longs alone changed, in one cell -/
def OneJ (c : Nat) (M M' : Mem) : Prop := M'.1 = M.1 ∧ ∀ a, a ≠ c → M'.2 a = M.2 a
theorem OneJ_rf (c : Nat) (M : Mem) : OneJ c M M := ⟨rfl, fun _ _ => rfl⟩
theorem OneJ_tr {c : Nat} {M M1 M2 : Mem} (h : OneJ c M M1) (k : OneJ c M1 M2) : OneJ c M M2 := ⟨k.1.trans h.1, fun a ha => (k.2 a ha).trans (h.2 a ha)⟩
theorem OneJ_set (M : Mem) (c j : Nat) (v : Int64) : OneJ c M (setJ M c j v) := ⟨rfl, fun a ha => sJ_c M j v ha⟩
theorem c_fil {ρ : Type} {kx : Mem → Option ρ} {c : Nat} (hc : alen c = 40) (m : Nat) : ∀ (i n : Nat) (M : Mem), i + m = 40 → m < n → ∃ M', fJ7_fill_d0a16_6 kx c 0 (nI 40) n (nI i) M = kx M' ∧ OneJ c M M' ∧ (∀ j, i ≤ j → j < 40 → M'.2 c j = 0) ∧ ∀ j, j < i → M'.2 c j = M.2 c j := by
  induction m with
  | zero =>
    intro i n M e h
    obtain rfl : i = 40 := by omega
    obtain ⟨n, rfl⟩ : ∃ k, n = k + 1 := ⟨n - 1, by omega⟩
    exact ⟨M, by rw [fJ7_fill_d0a16_6, if_pos (by decide)], OneJ_rf _ _, fun j q1 q2 => absurd q1 (by omega), fun j q => rfl⟩
  | succ m ih =>
    intro i n M e h
    obtain ⟨n, rfl⟩ : ∃ k, n = k + 1 := ⟨n - 1, by omega⟩
    obtain ⟨M', e1, o1, a1, z1⟩ := ih (i + 1) n (setJ M c i 0) (by omega) (by omega)
    refine ⟨M', ?_, OneJ_tr (OneJ_set _ _ _ _) o1, fun j q1 q2 => ?_, fun j q => ?_⟩
    · rw [fJ7_fill_d0a16_6, if_neg (show ¬ nI 40 ≤ nI i from nI_ge (b := 40) (by omega) (by decide)), hc, stJ_n (by omega) (by decide), Option.bind_some, nI_1, e1]
    · by_cases q : j = i
      · rw [q, z1 i (by omega), sJ_s]
      · exact a1 j (by omega) q2
    · rw [z1 j (by omega), sJ_j _ _ (by omega)]
theorem alen_sh : ∀ s, s < 4 → alen (40 + 2 * s + 1) = 40 := by decide +kernel
theorem c_begin {s : Nat} (hs : s < 4) (x y : Int32) (M : Mem) : ∃ M', fX1_begin (40 + 2 * s) x y M = some M' ∧ M'.1 = (setI (setI M (40 + 2 * s) 0 x) (40 + 2 * s) 1 y).1 ∧ (∀ a, a ≠ 41 + 2 * s → M'.2 a = M.2 a) ∧ ∀ j, j < 40 → M'.2 (41 + 2 * s) j = 0 := by
  have ha := alen_sh s hs
  obtain ⟨M', e1, o1, a1, _⟩ := c_fil (kx := fun M4 => some M4) (c := 40 + 2 * s + 1) ha 40 0 FU (setI (setI M (40 + 2 * s) 0 x) (40 + 2 * s) 1 y) (by decide) (by decide)
  have e : 40 + 2 * s + 1 = 41 + 2 * s := by omega
  refine ⟨M', ?_, o1.1, fun a q => (o1.2 a (by omega)).trans rfl, fun j q => by rw [← e]; exact a1 j (by omega) q⟩
  unfold fX1_begin fJ7_fill_d0a16
  rw [ha]
  rw [show (Int32.ofNat 40) = nI 40 from rfl, show (0 : Int32) = nI 0 from rfl, e1]; rfl
theorem m_ix5 (s k : Nat) : ((40 : Int32) * nI s) + nI k = nI (40 * s + k) := by
  show nI 40 * nI s + nI k = _
  rw [pk_mul, nI_add]
theorem m_shl {ρ : Type} {kx : Mem → Option ρ} {s : Nat} (hs : s < 4) (m : Nat) : ∀ (i n : Nat) (M : Mem), i + m = 40 → m < n → ∃ M', fX6_sheet_86 kx (nI s) n (nI i) M = kx M' ∧ OneJ 59 M M' ∧ (∀ j, i ≤ j → j < 40 → M'.2 59 (40 * s + j) = 0) ∧ ∀ j, j < 40 * s + i ∨ 40 * s + 40 ≤ j → M'.2 59 j = M.2 59 j := by
  induction m with
  | zero =>
    intro i n M e h
    obtain rfl : i = 40 := by omega
    obtain ⟨n, rfl⟩ : ∃ k, n = k + 1 := ⟨n - 1, by omega⟩
    exact ⟨M, by rw [fX6_sheet_86, if_pos (by decide)], OneJ_rf _ _, fun j q1 q2 => absurd q1 (by omega), fun j q => rfl⟩
  | succ m ih =>
    intro i n M e h
    obtain ⟨n, rfl⟩ : ∃ k, n = k + 1 := ⟨n - 1, by omega⟩
    obtain ⟨M', e1, o1, a1, z1⟩ := ih (i + 1) n (setJ M 59 (40 * s + i) 0) (by omega) (by omega)
    refine ⟨M', ?_, OneJ_tr (OneJ_set _ _ _ _) o1, fun j q1 q2 => ?_, fun j q => ?_⟩
    · rw [fX6_sheet_86, if_neg (show ¬ (40 : Int32) ≤ nI i from nI_ge (b := 40) (by omega) (by decide)), m_ix5, stJ_n (by omega) (by decide), Option.bind_some, nI_1, e1]
    · by_cases q : j = i
      · rw [q, z1 (40 * s + i) (by omega), sJ_s]
      · exact a1 j (by omega) q2
    · rw [z1 j (by omega), sJ_j _ _ (by omega)]
/-- one sheet changed, the others not -/
theorem SE_up {M M' : Mem} (h : SE M) {s bt z : Nat} (hs : s < 4) (hb : bt = 0 ∨ bt = 8 ∨ bt = 16 ∨ bt = 64) (hz : z ≤ 40) (h0 : bt = 0 → z = 0) (c1 : ∀ u, u < 4 → u ≠ s → M'.1 (40 + 2 * u) = M.1 (40 + 2 * u) ∧ M'.1 57 u = M.1 57 u ∧ M'.1 58 u = M.1 58 u ∧ M'.2 (41 + 2 * u) = M.2 (41 + 2 * u) ∧ ∀ i, i < 40 → M'.2 59 (40 * u + i) = M.2 59 (40 * u + i)) (e1 : M'.1 (40 + 2 * s) 0 = nI bt) (e2 : M'.1 57 s = nI bt) (e3 : M'.1 (40 + 2 * s) 1 = nI z) (e4 : M'.1 58 s = nI z) (e5 : ∀ i, i < 40 → M'.2 (41 + 2 * s) i = M'.2 59 (40 * s + i)) : SE M' := fun u hu => by
  by_cases q : u = s
  · subst q; exact ⟨bt, z, hb, hz, h0, e1, e2, e3, e4, e5⟩
  · obtain ⟨b, y, h1, h2, h3, h4, h5, h6, h7, h8⟩ := h u hu
    obtain ⟨k1, k2, k3, k4, k5⟩ := c1 u hu q
    exact ⟨b, y, h1, h2, h3, by rw [k1]; exact h4, k2.trans h5, by rw [k1]; exact h6, k3.trans h7, fun i hi => by rw [k4, k5 i hi]; exact h8 i hi⟩
theorem sheet_c {s : Nat} {a2 a3 : Int32} {M : Mem} (h1 : okx 4 (nI s) = true) (hb : a2 = 0 ∨ a2 = 8 ∨ a2 = 16 ∨ a2 = 64) : fX5_sheet (nI s) a2 a3 M = (if 0 ≤ a3 then (if a3 ≤ (40 : Int32) then ((ldS (nI s)).bind fun q7 => ((fX1_begin q7 a2 (if a2 = 0 then (0 : Int32) else a3) M).bind fun w10 => some ((w10.1 q7 1), w10))) else some (fnd 0, tellM 0 M)) else some (fnd 6, tellM 6 M)) := by
  unfold fX5_sheet
  rw [c_isSheet, if_neg (b1 h1), tb0, tb6]
  rcases hb with rfl | rfl | rfl | rfl
  · rw [if_pos rfl]
  · rw [if_neg (by decide), if_pos rfl]
  · rw [if_neg (by decide), if_neg (by decide), if_pos rfl]
  · rw [if_neg (by decide), if_neg (by decide), if_neg (by decide), if_pos rfl]
theorem sheet_m {s : Nat} {a2 a3 : Int32} {M : Mem} (h1 : okx 4 (nI s) = true) (hb : a2 = 0 ∨ a2 = 8 ∨ a2 = 16 ∨ a2 = 64) : fX6_sheet (nI s) a2 a3 M = (if 0 ≤ a3 then (if a3 ≤ (40 : Int32) then ((stI M 57 4 (nI s) a2).bind fun M7 => ((stI M7 58 4 (nI s) (if a2 = 0 then (0 : Int32) else a3)).bind fun M10 => (fX6_sheet_86 (fun M15 => ((ldI M15 58 4 (nI s)).bind fun v16 => some (v16, M15))) (nI s) FU (0 : Int32) M10))) else some (fnd 0, findM 0 M)) else some (fnd 6, findM 6 M)) := by
  unfold fX6_sheet
  rw [m_isOne, if_neg (b1 h1), mb0, mb6]
  rcases hb with rfl | rfl | rfl | rfl
  · rw [if_pos rfl]
  · rw [if_neg (by decide), if_pos rfl]
  · rw [if_neg (by decide), if_neg (by decide), if_pos rfl]
  · rw [if_neg (by decide), if_neg (by decide), if_neg (by decide), if_pos rfl]
theorem ok_sheet {t : Nat} {M : Mem} (ht : t < 512) (hI : Inv t M) (a1 : Int32) (a2 : Int32) (a3 : Int32) : ∃ v w, fX5_sheet a1 a2 a3 M = some v ∧ fX6_sheet a1 a2 a3 v.2 = some w ∧ v.1 = w.1 ∧ Inv (t + 1) w.2 := by
  by_cases h1 : okx 4 a1 = true
  · obtain ⟨s, hs, rfl⟩ := okx_t (by decide) h1
    by_cases hb : a2 = 0 ∨ a2 = 8 ∨ a2 = 16 ∨ a2 = 64
    · by_cases h3 : (0 : Int32) ≤ a3
      · by_cases h4 : a3 ≤ (40 : Int32)
        · have q1 := Int32.le_iff_toInt_le.mp h3
          have q2 := Int32.le_iff_toInt_le.mp h4
          obtain ⟨z, hz, rfl⟩ := okx_t (n := 41) (x := a3) (by decide) (decide_eq_true ⟨q1, Int.lt_of_le_of_lt q2 (by decide)⟩)
          obtain ⟨bt, hbt, hbe⟩ : ∃ bt, (bt = 0 ∨ bt = 8 ∨ bt = 16 ∨ bt = 64) ∧ a2 = nI bt := by
            rcases hb with rfl | rfl | rfl | rfl
            · exact ⟨0, Or.inl rfl, rfl⟩
            · exact ⟨8, Or.inr (Or.inl rfl), rfl⟩
            · exact ⟨16, Or.inr (Or.inr (Or.inl rfl)), rfl⟩
            · exact ⟨64, Or.inr (Or.inr (Or.inr rfl)), rfl⟩
          subst hbe
          obtain ⟨y, hy, hy0, hye⟩ : ∃ y, y ≤ 40 ∧ (bt = 0 → y = 0) ∧ (if nI bt = 0 then (0 : Int32) else nI z) = nI y := by
            by_cases q : bt = 0
            · exact ⟨0, by decide, fun _ => rfl, by rw [q, if_pos (show nI 0 = 0 from rfl)]; rfl⟩
            · exact ⟨z, by omega, fun w => absurd w q, by rw [if_neg (nI_ne0 (by omega) (by omega))]⟩
          obtain ⟨hG, hK, hF, hT, hS⟩ := hI
          obtain ⟨Ma, p1, c1, c2, c3⟩ := c_begin hs (nI bt) (nI y) M
          obtain ⟨Mb, p2, o2, d1, d2⟩ := m_shl (kx := fun M15 => ((ldI M15 58 4 (nI s)).bind fun v16 => some (v16, M15))) hs 40 0 FU (setI (setI Ma 57 s (nI bt)) 58 s (nI y)) (by decide) (by decide)
          have hb1 : Mb.1 = (setI (setI Ma 57 s (nI bt)) 58 s (nI y)).1 := o2.1
          have hc : ∀ c, c ≠ 57 → c ≠ 58 → c ≠ 40 + 2 * s → Mb.1 c = M.1 c := fun c z1 z2 z3 => by
            rw [hb1, sI_c _ _ _ z2, sI_c _ _ _ z1, c1, sI_c _ _ _ z3, sI_c _ _ _ z3]
          have f58 : Mb.1 58 s = nI y := by rw [hb1, sI_s]
          have f57 : Mb.1 57 s = nI bt := by rw [hb1, sI_c _ _ _ (by decide), sI_s]
          have g0 : ∀ j, Mb.1 (40 + 2 * s) j = (setI (setI M (40 + 2 * s) 0 (nI bt)) (40 + 2 * s) 1 (nI y)).1 (40 + 2 * s) j := fun j => by
            rw [hb1, sI_c _ _ _ (by omega), sI_c _ _ _ (by omega), c1]
          have hma : Ma.1 (40 + 2 * s) 1 = nI y := by rw [c1, sI_s]
          refine ⟨(Ma.1 (40 + 2 * s) 1, Ma), (Mb.1 58 s, Mb), ?_, ?_, by show Ma.1 (40 + 2 * s) 1 = Mb.1 58 s; rw [hma, f58], GE_cg (GE_mono hG (by omega)) (fun c z1 z2 => hc c (by omega) (by omega) (by omega)) (hc 50 (by decide) (by decide) (by omega)), KE_c (KE_mono hK (by omega)) (fun c z => hc c (by omega) (by omega) (by omega)) (by rw [hc 0 (by decide) (by decide) (by omega)]) (by rw [hc 49 (by decide) (by decide) (by omega)]), FE_c hF (hc 48 (by decide) (by decide) (by omega)) (hc 54 (by decide) (by decide) (by omega)), TE_c hT (hc 37 (by decide) (by decide) (by omega)) (hc 56 (by decide) (by decide) (by omega)) (by rw [hc 36 (by decide) (by decide) (by omega)]) (by rw [hc 49 (by decide) (by decide) (by omega)]), SE_up hS hs hbt hy hy0 (fun u hu hn => ⟨hc _ (by omega) (by omega) (by omega), ?_, ?_, ?_, fun i hi => ?_⟩) ?_ f57 ?_ f58 (fun i hi => ?_)⟩
          · rw [sheet_c h1 hb, if_pos h3, if_pos h4, ldS_n hs, Option.bind_some, hye, p1]; rfl
          · rw [sheet_m h1 hb, if_pos h3, if_pos h4, stI_n hs (by decide), Option.bind_some, hye, stI_n hs (by decide), Option.bind_some]
            refine Eq.trans p2 ?_
            rw [ldI_n hs (by decide)]; rfl
          · rw [hb1, sI_c _ _ _ (by decide), sI_j _ _ hn, c1, sI_c _ _ _ (by omega), sI_c _ _ _ (by omega)]
          · rw [hb1, sI_j _ _ hn, sI_c _ _ _ (by decide), c1, sI_c _ _ _ (by omega), sI_c _ _ _ (by omega)]
          · rw [o2.2 _ (by omega)]; exact c2 _ (by omega)
          · rw [d2 _ (by omega)]
            show Ma.2 59 _ = _
            rw [c2 59 (by omega)]
          · rw [g0, sI_j _ _ (by decide), sI_s]
          · rw [g0, sI_s]
          · rw [d1 i (by omega) hi, o2.2 _ (by omega)]
            exact c3 i hi
        · refine ⟨(fnd 0, tellM 0 M), (fnd 0, findM 0 (tellM 0 M)), ?_, ?_, rfl, Inv_fin (i := 0) hI (by decide)⟩
          · rw [sheet_c h1 hb, if_pos h3, if_neg h4]
          · rw [sheet_m h1 hb, if_pos h3, if_neg h4]
      · refine ⟨(fnd 6, tellM 6 M), (fnd 6, findM 6 (tellM 6 M)), ?_, ?_, rfl, Inv_fin (i := 6) hI (by decide)⟩
        · rw [sheet_c h1 hb, if_neg h3]
        · rw [sheet_m h1 hb, if_neg h3]
    · have n1 : ¬ a2 = 0 := fun q => hb (Or.inl q)
      have n2 : ¬ a2 = 8 := fun q => hb (Or.inr (Or.inl q))
      have n3 : ¬ a2 = 16 := fun q => hb (Or.inr (Or.inr (Or.inl q)))
      have n4 : ¬ a2 = 64 := fun q => hb (Or.inr (Or.inr (Or.inr q)))
      refine ⟨(fnd 0, tellM 0 M), (fnd 0, findM 0 (tellM 0 M)), ?_, ?_, rfl, Inv_fin (i := 0) hI (by decide)⟩
      · unfold fX5_sheet; rw [c_isSheet, if_neg (b1 h1), if_neg n1, if_neg n2, if_neg n3, if_neg n4, tb0]
      · unfold fX6_sheet; rw [m_isOne, if_neg (b1 h1), if_neg n1, if_neg n2, if_neg n3, if_neg n4, mb0]
  · refine ⟨(fnd 0, tellM 0 M), (fnd 0, findM 0 (tellM 0 M)), ?_, ?_, rfl, Inv_fin (i := 0) hI (by decide)⟩
    · unfold fX5_sheet; rw [c_isSheet, if_pos (b0 h1), tb0]
    · unfold fX6_sheet; rw [m_isOne, if_pos (b0 h1), mb0]
