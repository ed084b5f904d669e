/-! MATHS: copy -/
def rowP (z : Nat) (x y : Int32) : Prop := 0 ≤ x.toInt ∧ 0 ≤ y.toInt ∧ x.toInt + y.toInt ≤ (z : Int)
theorem rowP_t {z : Nat} {x y : Int32} (hz : z ≤ 40) (h : rowP z x y) : ∃ a n, x = nI a ∧ y = nI n ∧ a + n ≤ z := by
  obtain ⟨h1, h2, h3⟩ := h
  have q1 : ¬ x < 0 := fun q => by have := Int32.lt_iff_toInt_lt.mp q; rw [show (0 : Int32).toInt = 0 from rfl] at this; omega
  have q2 : ¬ y < 0 := fun q => by have := Int32.lt_iff_toInt_lt.mp q; rw [show (0 : Int32).toInt = 0 from rfl] at this; omega
  obtain ⟨a, ha, rfl⟩ := nI_of q1
  obtain ⟨n, hn, rfl⟩ := nI_of q2
  rw [nI_toInt ha, nI_toInt hn] at h3
  exact ⟨a, n, rfl, rfl, by omega⟩
theorem rowP_n {z a n : Nat} (hz : z ≤ 40) (h : a + n ≤ z) : rowP z (nI a) (nI n) := by
  unfold rowP; rw [nI_toInt (by omega), nI_toInt (by omega)]; omega
theorem nneg {x : Int32} (h : ¬ x < 0) : 0 ≤ x.toInt := by
  have : ¬ x.toInt < (0 : Int32).toInt := fun q => h (Int32.lt_iff_toInt_lt.mpr q)
  rw [show (0 : Int32).toInt = 0 from rfl] at this; omega
theorem neg_t {x : Int32} (h : x < 0) : x.toInt < 0 := Int32.lt_iff_toInt_lt.mp h
theorem sub_t {z : Nat} {x : Int32} (hz : z ≤ 40) (h0 : 0 ≤ x.toInt) : (nI z - x).toInt = (z : Int) - x.toInt := by
  have hx : x.toInt < 2 ^ 31 := Int32.toInt_lt x
  rw [Int32.toInt_sub, nI_toInt (by omega)]
  exact Int.bmod_eq_of_le (by omega) (by omega)
theorem c_row {z q : Nat} {x y : Int32} {M : Mem} (hz : z ≤ 40) (e : M.1 q 1 = nI z) : (fX1_hasRow q x y M = 0) ↔ ¬ rowP z x y := by
  unfold fX1_hasRow rowP
  rw [e]
  by_cases h1 : x < 0
  · have := neg_t h1
    rw [if_pos h1]; exact ⟨fun _ w => by omega, fun _ => rfl⟩
  · have h1' := nneg h1
    rw [if_neg h1]
    by_cases h2 : y < 0
    · have := neg_t h2
      rw [if_pos h2]; exact ⟨fun _ w => by omega, fun _ => rfl⟩
    · have h2' := nneg h2
      rw [if_neg h2]
      have l1 : nI z < y ↔ (z : Int) < y.toInt := by rw [Int32.lt_iff_toInt_lt, nI_toInt (by omega)]
      have l2 : nI z - y < x ↔ (z : Int) - y.toInt < x.toInt := by rw [Int32.lt_iff_toInt_lt, sub_t hz h2']
      by_cases h3 : nI z < y
      · have := l1.mp h3
        rw [if_pos h3]; exact ⟨fun _ w => by omega, fun _ => rfl⟩
      · rw [if_neg h3]
        by_cases h4 : nI z - y < x
        · have := l2.mp h4
          rw [if_pos h4]; exact ⟨fun _ w => by omega, fun _ => rfl⟩
        · have : ¬ (z : Int) - y.toInt < x.toInt := fun w => h4 (l2.mpr w)
          rw [if_neg h4]; exact ⟨fun w => absurd w (by decide), fun w => absurd ⟨h1', h2', by omega⟩ w⟩
theorem m_row {z : Nat} {x y : Int32} (hz : z ≤ 40) (h1 : ¬ x < 0) (h2 : ¬ y < 0) : (nI z - x < y ↔ ¬ rowP z x y) ∧ (y ≤ nI z - x ↔ rowP z x y) := by
  have h1' := nneg h1
  have h2' := nneg h2
  unfold rowP
  rw [Int32.lt_iff_toInt_lt, Int32.le_iff_toInt_le, sub_t hz h1']
  omega
theorem m_ix6 (s a k : Nat) : (((40 : Int32) * nI s) + nI a) + nI k = nI (40 * s + a + k) := by rw [m_ix5, nI_add]
theorem m_cp1 {ρ : Type} {kx : Mem → Option ρ} {s a N : Nat} {y3 y4 : Int32} (hs : s < 4) (hN : a + N ≤ 40) (m : Nat) : ∀ (i n : Nat) (M : Mem), i + m = N → m < n → ∃ M', fX6_copy_120 kx (nI s) (nI a) y3 y4 (nI N) n (nI i) M = kx M' ∧ OneJ 38 M M' ∧ (∀ j, i ≤ j → j < N → M'.2 38 j = M.2 59 (40 * s + a + j)) ∧ ∀ j, j < i → M'.2 38 j = M.2 38 j := by
  induction m with
  | zero =>
    intro i n M e h
    obtain rfl : i = N := by omega
    obtain ⟨n, rfl⟩ : ∃ k, n = k + 1 := ⟨n - 1, by omega⟩
    exact ⟨M, by rw [fX6_copy_120, if_pos (Int32.le_refl _)], OneJ_rf _ _, fun j q1 q2 => absurd q1 (by omega), fun j q => rfl⟩
  | succ m ih =>
    intro i n M e h
    obtain ⟨n, rfl⟩ : ∃ k, n = k + 1 := ⟨n - 1, by omega⟩
    obtain ⟨M', e1, o1, a1, z1⟩ := ih (i + 1) n (setJ M 38 i (M.2 59 (40 * s + a + i))) (by omega) (by omega)
    refine ⟨M', ?_, OneJ_tr (OneJ_set _ _ _ _) o1, fun j q1 q2 => ?_, fun j q => ?_⟩
    · rw [fX6_copy_120, if_neg (nI_ge (show i < N by omega) (by omega)), m_ix6, ldJ_n (by omega) (by decide), Option.bind_some, stJ_n (by omega) (by decide), Option.bind_some, nI_1, e1]
    · by_cases q : j = i
      · rw [q, z1 i (by omega), sJ_s]
      · rw [a1 j (by omega) q2, sJ_c _ _ _ (by decide)]
    · rw [z1 j (by omega), sJ_j _ _ (by omega)]
theorem m_cp2 {ρ : Type} {kx : Mem → Option ρ} {s a N : Nat} (hs : s < 4) (hN : a + N ≤ 40) (m : Nat) : ∀ (i n : Nat) (M : Mem), i + m = N → m < n → ∃ M', fX6_copy_157 kx (nI s) (nI a) (nI N) n (nI i) M = kx M' ∧ OneJ 59 M M' ∧ (∀ j, i ≤ j → j < N → M'.2 59 (40 * s + a + j) = M.2 38 j) ∧ ∀ j, j < 40 * s + a + i ∨ 40 * s + a + N ≤ j → M'.2 59 j = M.2 59 j := by
  induction m with
  | zero =>
    intro i n M e h
    obtain rfl : i = N := by omega
    obtain ⟨n, rfl⟩ : ∃ k, n = k + 1 := ⟨n - 1, by omega⟩
    exact ⟨M, by rw [fX6_copy_157, if_pos (Int32.le_refl _)], OneJ_rf _ _, fun j q1 q2 => absurd q1 (by omega), fun j q => rfl⟩
  | succ m ih =>
    intro i n M e h
    obtain ⟨n, rfl⟩ : ∃ k, n = k + 1 := ⟨n - 1, by omega⟩
    obtain ⟨M', e1, o1, a1, z1⟩ := ih (i + 1) n (setJ M 59 (40 * s + a + i) (M.2 38 i)) (by omega) (by omega)
    refine ⟨M', ?_, OneJ_tr (OneJ_set _ _ _ _) o1, fun j q1 q2 => ?_, fun j q => ?_⟩
    · rw [fX6_copy_157, if_neg (nI_ge (show i < N by omega) (by omega)), ldJ_n (by omega) (by decide), Option.bind_some, m_ix6, stJ_n (by omega) (by decide), Option.bind_some, nI_1, e1]
    · by_cases q : j = i
      · rw [q, z1 _ (by omega), sJ_s]
      · rw [a1 j (by omega) q2, sJ_c _ _ _ (by decide)]
    · rw [z1 j (by omega), sJ_j _ _ (by omega)]
theorem ok_copy {t : Nat} {M : Mem} (ht : t < 512) (hI : Inv t M) (a1 : Int32) (a2 : Int32) (a3 : Int32) (a4 : Int32) (a5 : Int32) : ∃ v w, fX5_copy a1 a2 a3 a4 a5 M = some v ∧ fX6_copy a1 a2 a3 a4 a5 v.2 = some w ∧ v.1 = w.1 ∧ Inv (t + 1) w.2 := by
  by_cases h1 : okx 4 a1 = true
  · by_cases h3 : okx 4 a3 = true
    · obtain ⟨s, hs, rfl⟩ := okx_t (by decide) h1
      obtain ⟨u, hu, rfl⟩ := okx_t (by decide) h3
      have hI' := hI
      obtain ⟨hG, hK, hF, hT, hS⟩ := hI
      obtain ⟨bt, z, e1, e2, e3, e4, e5, e6, e7, e8⟩ := hS s hs
      obtain ⟨bu, y, d1, d2, d3, d4, d5, d6, d7, d8⟩ := hS u hu
      have hcl : fX5_copy (nI s) a2 (nI u) a4 a5 M = (if bt = 0 then some (fnd 5, tellM 5 M) else if bu = 0 then some (fnd 5, tellM 5 M) else if bt = bu then (if (fX1_hasRow (40 + 2 * s) a2 a5 M) = 0 then some (fnd 0, tellM 0 M) else (if (fX1_hasRow (40 + 2 * u) a4 a5 M) = 0 then some (fnd 0, tellM 0 M) else ((acJ M (40 + 2 * s + 1) 40 a2 (40 + 2 * u + 1) 40 a4 a5).bind fun M18 => some (a5, M18)))) else some (fnd 2, tellM 2 M)) := by
        unfold fX5_copy
        rw [c_isSheet, if_neg (b1 h1), c_isSheet, if_neg (b1 h3), ldS_n hs, Option.bind_some, ldS_n hu, Option.bind_some, e4, d4, tb0, tb2, tb5]
        by_cases q1 : bt = 0
        · rw [if_pos q1, if_pos (by rw [q1]; rfl)]
        · rw [if_neg q1, if_neg (nI_ne0 (by omega) (by omega))]
          by_cases q2 : bu = 0
          · rw [if_pos q2, if_pos (by rw [q2]; rfl)]
          · rw [if_neg q2, if_neg (nI_ne0 (by omega) (by omega))]
            by_cases q3 : bt = bu
            · rw [if_pos q3, if_pos (by rw [q3])]
            · rw [if_neg q3, if_neg (fun w => q3 ((nI_eq (by omega) (by omega)).mp w))]
      have hml : ∀ M1 : Mem, M1.1 57 = M.1 57 → M1.1 58 = M.1 58 → fX6_copy (nI s) a2 (nI u) a4 a5 M1 = (if bt = 0 then some (fnd 5, findM 5 M1) else if bu = 0 then some (fnd 5, findM 5 M1) else if bt = bu then (if a2 < 0 then some (fnd 0, findM 0 M1) else if a4 < 0 then some (fnd 0, findM 0 M1) else if a5 < 0 then some (fnd 0, findM 0 M1) else if nI z - a2 < a5 then some (fnd 0, findM 0 M1) else if a5 ≤ nI y - a4 then (fX6_copy_120 (fun M40 => (fX6_copy_157 (fun M46 => some (a5, M46)) (nI u) a4 a5 FU (0 : Int32) M40)) (nI s) a2 (nI u) a4 a5 FU (0 : Int32) M1) else some (fnd 0, findM 0 M1)) else some (fnd 2, findM 2 M1)) := by
        intro M1 k57 k58
        unfold fX6_copy
        rw [m_isOne, if_neg (b1 h1), m_isOne, if_neg (b1 h3), ldI_n hs (by decide), ldI_n hu (by decide), ldI_n hs (by decide), ldI_n hu (by decide), k57, k58, e5, d5, e7, d7, mb0, mb2, mb5]
        simp only [Option.bind_some]
        by_cases q1 : bt = 0
        · rw [if_pos q1, if_pos (by rw [q1]; rfl)]
        · rw [if_neg q1, if_neg (nI_ne0 (by omega) (by omega))]
          by_cases q2 : bu = 0
          · rw [if_pos q2, if_pos (by rw [q2]; rfl)]
          · rw [if_neg q2, if_neg (nI_ne0 (by omega) (by omega))]
            by_cases q3 : bt = bu
            · rw [if_pos q3, if_pos (by rw [q3])]
            · rw [if_neg q3, if_neg (fun w => q3 ((nI_eq (by omega) (by omega)).mp w))]
      have fin : ∀ i, i < 7 → fX5_copy (nI s) a2 (nI u) a4 a5 M = some (fnd i, tellM i M) → fX6_copy (nI s) a2 (nI u) a4 a5 (tellM i M) = some (fnd i, findM i (tellM i M)) → ∃ v w, fX5_copy (nI s) a2 (nI u) a4 a5 M = some v ∧ fX6_copy (nI s) a2 (nI u) a4 a5 v.2 = some w ∧ v.1 = w.1 ∧ Inv (t + 1) w.2 := fun i hi x1 x2 => ⟨_, _, x1, x2, rfl, Inv_fin (i := i) hI' hi⟩
      have hmt := fun i => hml (tellM i M) (tell_1 i M (by decide)) (tell_1 i M (by decide))
      by_cases q1 : bt = 0
      · exact fin 5 (by decide) (by rw [hcl, if_pos q1]) (by rw [hmt, if_pos q1])
      · by_cases q2 : bu = 0
        · exact fin 5 (by decide) (by rw [hcl, if_neg q1, if_pos q2]) (by rw [hmt, if_neg q1, if_pos q2])
        · by_cases q3 : bt = bu
          · by_cases r1 : rowP z a2 a5
            · by_cases r2 : rowP y a4 a5
              · obtain ⟨a, n, rfl, rfl, ha⟩ := rowP_t e2 r1
                obtain ⟨b, n', rfl, hn', hb⟩ := rowP_t d2 r2
                have hnn : n = n' := (nI_eq (by omega) (by have := r2.2.2; have := nI_toInt (n := b); omega)).mp hn'
                subst hnn
                let Ma := cpyJ M (41 + 2 * s) (41 + 2 * u) a b n
                obtain ⟨Mb, p1, o1, c1, _⟩ := m_cp1 (kx := fun M40 => (fX6_copy_157 (fun M46 => some (nI n, M46)) (nI u) (nI b) (nI n) FU (0 : Int32) M40)) (s := s) (a := a) (N := n) (y3 := nI u) (y4 := nI b) hs (by omega) n 0 FU Ma (Nat.zero_add _) (by unfold FU; omega)
                obtain ⟨Mc, p2, o2, c2, c3⟩ := m_cp2 (kx := fun M46 => some (nI n, M46)) (s := u) (a := b) (N := n) hu (by omega) n 0 FU Mb (Nat.zero_add _) (by unfold FU; omega)
                have k1 : Mc.1 = M.1 := o2.1.trans (o1.1.trans rfl)
                have ka : ∀ c, c ≠ 41 + 2 * u → Ma.2 c = M.2 c := fun c hc => cpyJ_ne M c hc
                have kc : ∀ c, c ≠ 59 → c ≠ 38 → Mc.2 c = Ma.2 c := fun c z1 z2 => (o2.2 c z1).trans (o1.2 c z2)
                have k59 : Mb.2 59 = M.2 59 := (o1.2 59 (by decide)).trans (ka 59 (by omega))
                have ku : ∀ j, Ma.2 (41 + 2 * u) j = va_cpy (M.2 (41 + 2 * s)) (M.2 (41 + 2 * u)) a b n j := fun j => by
                  show (if 41 + 2 * u = 41 + 2 * u then va_cpy (M.2 (41 + 2 * s)) (M.2 (41 + 2 * u)) a b n else M.2 (41 + 2 * u)) j = _
                  rw [if_pos rfl]
                refine ⟨(nI n, Ma), (nI n, Mc), ?_, ?_, rfl, Inv_J hI' k1 (SE_up hS hu d1 d2 d3 (fun v hv hn => ⟨by rw [k1], by rw [k1], by rw [k1], ?_, fun i hi => ?_⟩) (by rw [k1]; exact d4) (by rw [k1]; exact d5) (by rw [k1]; exact d6) (by rw [k1]; exact d7) (fun i hi => ?_))⟩
                · rw [hcl, if_neg q1, if_neg q2, if_pos q3, if_neg (fun w => (c_row e2 e6).mp w r1), if_neg (fun w => (c_row d2 d6).mp w r2)]
                  unfold acJ
                  rw [if_pos ⟨decide_eq_true ⟨nI_pos (by omega), nI_pos (by omega), by rw [ix_n (by omega), ix_n (by omega)]; omega⟩, decide_eq_true ⟨nI_pos (by omega), nI_pos (by omega), by rw [ix_n (by omega), ix_n (by omega)]; omega⟩⟩, ix_n (by omega), ix_n (by omega), ix_n (by omega), show 40 + 2 * s + 1 = 41 + 2 * s by omega, show 40 + 2 * u + 1 = 41 + 2 * u by omega]; rfl
                · rw [hml Ma rfl rfl, if_neg q1, if_neg q2, if_pos q3, if_neg (nI_pos (by omega)), if_neg (nI_pos (by omega)), if_neg (nI_pos (by omega)), if_neg (fun w => (m_row e2 (nI_pos (by omega)) (nI_pos (by omega))).1.mp w r1), if_pos ((m_row d2 (nI_pos (by omega)) (nI_pos (by omega))).2.mpr r2)]
                  exact p1.trans p2
                · rw [kc _ (by omega) (by omega), ka _ (by omega)]
                · rw [c3 _ (by omega), k59]
                · rw [kc _ (by omega) (by omega), ku]
                  by_cases w : b ≤ i ∧ i < b + n
                  · rw [pk_cpy_in w.1 w.2, e8 _ (by omega)]
                    have := c2 (i - b) (by omega) (by omega)
                    rw [show 40 * u + b + (i - b) = 40 * u + i by omega] at this
                    rw [this, c1 _ (by omega) (by omega), ka 59 (by omega)]
                    rw [show 40 * s + (a + (i - b)) = 40 * s + a + (i - b) by omega]
                  · rw [pk_cpy_out (by omega), d8 i hi, c3 _ (by omega), k59]
              · refine fin 0 (by decide) ?_ ?_
                · rw [hcl, if_neg q1, if_neg q2, if_pos q3, if_neg (fun w => (c_row e2 e6).mp w r1), if_pos ((c_row d2 d6).mpr r2)]
                · rw [hmt, if_neg q1, if_neg q2, if_pos q3]
                  by_cases w1 : a2 < 0
                  · rw [if_pos w1]
                  · by_cases w2 : a4 < 0
                    · rw [if_neg w1, if_pos w2]
                    · by_cases w3 : a5 < 0
                      · rw [if_neg w1, if_neg w2, if_pos w3]
                      · rw [if_neg w1, if_neg w2, if_neg w3, if_neg (fun w => (m_row e2 w1 w3).1.mp w r1), if_neg (fun w => r2 ((m_row d2 w2 w3).2.mp w))]
            · refine fin 0 (by decide) ?_ ?_
              · rw [hcl, if_neg q1, if_neg q2, if_pos q3, if_pos ((c_row e2 e6).mpr r1)]
              · rw [hmt, if_neg q1, if_neg q2, if_pos q3]
                by_cases w1 : a2 < 0
                · rw [if_pos w1]
                · by_cases w2 : a4 < 0
                  · rw [if_neg w1, if_pos w2]
                  · by_cases w3 : a5 < 0
                    · rw [if_neg w1, if_neg w2, if_pos w3]
                    · rw [if_neg w1, if_neg w2, if_neg w3, if_pos ((m_row e2 w1 w3).1.mpr r1)]
          · exact fin 2 (by decide) (by rw [hcl, if_neg q1, if_neg q2, if_neg q3]) (by rw [hmt, if_neg q1, if_neg q2, if_neg q3])
    · refine ⟨(fnd 0, tellM 0 M), (fnd 0, findM 0 (tellM 0 M)), ?_, ?_, rfl, Inv_fin (i := 0) hI (by decide)⟩
      · unfold fX5_copy; rw [c_isSheet, if_neg (b1 h1), c_isSheet, if_pos (b0 h3), tb0]
      · unfold fX6_copy; rw [m_isOne, if_neg (b1 h1), m_isOne, if_pos (b0 h3), mb0]
  · refine ⟨(fnd 0, tellM 0 M), (fnd 0, findM 0 (tellM 0 M)), ?_, ?_, rfl, Inv_fin (i := 0) hI (by decide)⟩
    · unfold fX5_copy; rw [c_isSheet, if_pos (b0 h1), tb0]
    · unfold fX6_copy; rw [m_isOne, if_pos (b0 h1), mb0]
