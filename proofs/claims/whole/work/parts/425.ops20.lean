/-! MATHS: feeding the tape -/
theorem ok_feed {t : Nat} {M : Mem} (ht : t < 512) (hI : Inv t M) (a1 : Int32) (a2 : Int32) : ∃ v w, fX5_feed a1 a2 M = some v ∧ fX6_feed a1 a2 v.2 = some w ∧ v.1 = w.1 ∧ Inv (t + 1) w.2 := by
  have e1 : fX6_in a2.toInt64 1 4 = if okr 1 4 a2 = true then 1 else 0 := in_r a2 rfl rfl
  have q1 : a2 < 1 ↔ a2.toInt < 1 := Int32.lt_iff_toInt_lt
  have q2 : a2 ≤ 4 ↔ a2.toInt ≤ 4 := Int32.le_iff_toInt_le
  by_cases h1 : okr 1 4 a2 = true
  · have hx : 1 ≤ a2.toInt ∧ a2.toInt ≤ 4 := of_decide_eq_true h1
    have q1' : ¬ a2 < 1 := fun z => by have := q1.mp z; omega
    have q2' : a2 ≤ 4 := q2.mpr hx.2
    obtain ⟨N, hN, rfl⟩ := okx_t (n := 5) (x := a2) (by decide) (decide_eq_true ⟨by omega, by omega⟩)
    have hI' := hI
    obtain ⟨hG, hK, hF, ⟨n, k1, k2, k3, k4⟩, hS⟩ := hI
    have hle : nI n + nI N ≤ (120 : Int32) ↔ n + N ≤ 120 := by rw [nI_add]; exact nI_leI (b := 120) (by omega) (by decide)
    by_cases h2 : n + N ≤ 120
    · obtain ⟨Ma, p1, a1', a2', a3', a4'⟩ := c_fel (kx := fun M9 => some (M9.1 36 0, M9)) (y := a1) N n FU M k2 h2 (by unfold FU; omega)
      obtain ⟨Mb, p2, b1', b2', b3', b5', b4'⟩ := m_fel (kx := fun M6 => some (M6.1 49 8, M6)) (y := a1) N n FU Ma (by rw [a3' 49 (by decide) (by decide)]; exact k3) h2 (by unfold FU; omega)
      have hc : ∀ c, c ≠ 36 → c ≠ 37 → c ≠ 49 → c ≠ 56 → Mb.1 c = M.1 c := fun c z1 z2 z3 z4 => (b3' c z3 z4).trans (a3' c z1 z2)
      refine ⟨(Ma.1 36 0, Ma), (Mb.1 49 8, Mb), ?_, ?_, a1'.trans b1'.symm, GE_cg (GE_mono hG (by omega)) (fun c z1 z2 => hc c (by omega) (by omega) (by omega) (by omega)) (hc 50 (by decide) (by decide) (by decide) (by decide)), KE_c (KE_mono hK (by omega)) (fun c z => hc c (by omega) (by omega) (by omega) (by omega)) (by rw [hc 0 (by decide) (by decide) (by decide) (by decide)]) (by rw [b5', a3' 49 (by decide) (by decide)]), FE_c hF (hc 48 (by decide) (by decide) (by decide) (by decide)) (hc 54 (by decide) (by decide) (by decide) (by decide)), ⟨n + N, h2, by rw [b3' 36 (by decide) (by decide)]; exact a1', b1', fun i hi => ?_⟩, SE_c hS (fun c z => ⟨hc c (by omega) (by omega) (by omega) (by omega), by rw [b4', a4']⟩)⟩
      · unfold fX5_feed
        rw [if_neg q1', if_pos q2', k2, if_pos (hle.mpr h2)]; exact p1
      · unfold fX6_feed
        rw [e1, if_neg (b1 h1), show Ma.1 49 8 = nI n by rw [a3' 49 (by decide) (by decide)]; exact k3, if_pos (hle.mpr h2)]; exact p2
      · rw [b3' 37 (by decide) (by decide), a2', b2', a3' 56 (by decide) (by decide)]
        exact fbu_ag a1 N n _ _ k4 i hi
    · refine ⟨(fnd 1, tellM 1 M), (fnd 1, findM 1 (tellM 1 M)), ?_, ?_, rfl, Inv_fin (i := 1) hI' (by decide)⟩
      · unfold fX5_feed
        rw [if_neg q1', if_pos q2', k2, if_neg (fun z => h2 (hle.mp z)), tb1]
      · unfold fX6_feed
        rw [e1, if_neg (b1 h1), show (tellM 1 M).1 49 8 = nI n from by unfold tellM; rw [sI_c _ _ _ (by decide)]; exact k3, if_neg (fun z => h2 (hle.mp z)), mb1]
  · refine ok_of hI (fun G hw hg => ?_)
    refine ⟨fnd 0, G, some 0, WG_t hw, o7 (by decide), csp_fin hw hg ?_, fun M1 hs => msp_fin hs ?_⟩
    · unfold fX5_feed
      by_cases z : a2 < 1
      · rw [if_pos z, tb0]
      · rw [if_neg z, if_neg (fun z2 => h1 (decide_eq_true ⟨Int.not_lt.mp (fun y => z (q1.mpr y)), q2.mp z2⟩)), tb0]
    · unfold fX6_feed; rw [e1, if_pos (b0 h1), mb0]
