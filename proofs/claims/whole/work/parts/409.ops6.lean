/-! MATHS: the kinds of walkers -/
def payN (kd r : Nat) : Nat := if kd = 2 then 1 + r / 3 else if kd = 3 then (if r = 9 then 2 else 1) else if kd = 4 then 1 + r / 3 + r else 1
theorem payN_le {kd r : Nat} (hr : r ≤ 9) : payN kd r ≤ 13 := by
  unfold payN; repeat' split
  all_goals omega
theorem c_pay {kd r : Nat} (hk : kd ≤ 5) (hr : r ≤ 9) : fX4_payOf 4 (nI kd) (nI r) = some (nI (payN kd r)) :=
  (by decide +kernel : ∀ kd, kd < 6 → ∀ r, r < 10 → fX4_payOf 4 (nI kd) (nI r) = some (nI (payN kd r))) kd (by omega) r (by omega)
theorem m_pay {kd r : Nat} (hk : kd ≤ 5) (hr : r ≤ 9) : fX6_pays (nI kd) (nI r) = nI (payN kd r) :=
  (by decide +kernel : ∀ kd, kd < 6 → ∀ r, r < 10 → fX6_pays (nI kd) (nI r) = nI (payN kd r)) kd (by omega) r (by omega)
theorem m_part4 {M : Mem} {k : Nat} (hk : k < 6) : fX6_partOf (nI k) (4 : Int32) M = some (M.1 50 (86 + 5 * k)) := by
  rw [← ad4]; exact m_part (G := ((0, 0), fun _ => 0, fun _ => none, fun _ => (0, 0, 0, 0))) (j := 4) hk (by decide)
theorem ok_its {t : Nat} {M : Mem} (ht : t < 512) (hI : Inv t M) (a1 : Int32) (a2 : Int32) : ∃ v w, fX5_its a1 a2 M = some v ∧ fX6_its a1 a2 v.2 = some w ∧ v.1 = w.1 ∧ Inv (t + 1) w.2 := by
  refine ok_of hI (fun G hw hg => ?_)
  have h16 := hw.1
  have h6 := hw.2.1
  by_cases h1 : okx (gW G) a1 = true
  · obtain ⟨k, hk, rfl⟩ := okx_t (by omega) h1
    have e6 : fX6_in a2.toInt64 0 5 = if okx 6 a2 = true then 1 else 0 := in_x a2 (n := 6) rfl
    have c1 : M.1 (1 + 2 + k) 0 = nI (gK G k).1 := (hg.2.2.2.2 k hk).1
    have c2 : M.1 (1 + 2 + k) 1 = nI (gK G k).2.1 := (hg.2.2.2.2 k hk).2.1
    have c3 : M.1 (1 + 2 + k) 2 = nI (gK G k).2.2.1 := (hg.2.2.2.2 k hk).2.2.1
    have c4 : M.1 (1 + 2 + k) 3 = nI (gK G k).2.2.2 := (hg.2.2.2.2 k hk).2.2.2
    obtain ⟨w1, w2, w3, w4⟩ := hw.2.2.2.2 k hk
    by_cases h2 : okx 6 a2 = true
    · obtain ⟨j, hj, rfl⟩ := okx_t (by decide) h2
      obtain rfl | rfl | rfl | rfl | rfl | rfl : j = 0 ∨ j = 1 ∨ j = 2 ∨ j = 3 ∨ j = 4 ∨ j = 5 := by omega
      · refine ⟨nI (gK G k).1, G, none, WG_t hw, o0, csp_val hg ?_, fun M1 hs => msp_val hs ?_⟩
        · unfold fX5_its; rw [c_hasWalker hw hg, if_neg (b1 h1), ldW_n (by omega), Option.bind_some, if_pos (by decide), c1]
        · unfold fX6_its; rw [m_isWalker hw hs, Option.bind_some, if_neg (b1 h1), e6, if_neg (b1 h2), if_neg (by decide), show nI 0 = (0 : Int32) from rfl, m_part0 (by omega), (hs.2.2.2.2 k hk).1]; rfl
      · refine ⟨nI ((gK G k).2.1 / 4), G, none, WG_t hw, o0, csp_val hg ?_, fun M1 hs => msp_val hs ?_⟩
        · unfold fX5_its; rw [c_hasWalker hw hg, if_neg (b1 h1), ldW_n (by omega), Option.bind_some, if_neg (by decide), if_pos (by decide), c2, c_fieldOf (by omega)]
        · unfold fX6_its; rw [m_isWalker hw hs, Option.bind_some, if_neg (b1 h1), e6, if_neg (b1 h2), if_neg (by decide), show nI 1 = (1 : Int32) from rfl, m_part1 (by omega), (hs.2.2.2.2 k hk).2.1]; rfl
      · refine ⟨nI ((gK G k).2.1 % 4), G, none, WG_t hw, o0, csp_val hg ?_, fun M1 hs => msp_val hs ?_⟩
        · unfold fX5_its; rw [c_hasWalker hw hg, if_neg (b1 h1), ldW_n (by omega), Option.bind_some, if_neg (by decide), if_neg (by decide), if_pos (by decide), c2, c_headingOf (by omega)]
        · unfold fX6_its; rw [m_isWalker hw hs, Option.bind_some, if_neg (b1 h1), e6, if_neg (b1 h2), if_neg (by decide), show nI 2 = (2 : Int32) from rfl, m_part2 (by omega), (hs.2.2.2.2 k hk).2.2.1]; rfl
      · refine ⟨nI (gK G k).2.2.1, G, none, WG_t hw, o0, csp_val hg ?_, fun M1 hs => msp_val hs ?_⟩
        · unfold fX5_its; rw [c_hasWalker hw hg, if_neg (b1 h1), ldW_n (by omega), Option.bind_some, if_neg (by decide), if_neg (by decide), if_neg (by decide), if_pos (by decide), c3]
        · unfold fX6_its; rw [m_isWalker hw hs, Option.bind_some, if_neg (b1 h1), e6, if_neg (b1 h2), if_neg (by decide), show nI 3 = (3 : Int32) from rfl, m_part3 (by omega), (hs.2.2.2.2 k hk).2.2.2.1]; rfl
      · refine ⟨nI (gK G k).2.2.2, G, none, WG_t hw, o0, csp_val hg ?_, fun M1 hs => msp_val hs ?_⟩
        · unfold fX5_its; rw [c_hasWalker hw hg, if_neg (b1 h1), ldW_n (by omega), Option.bind_some, if_neg (by decide), if_neg (by decide), if_neg (by decide), if_neg (by decide), if_pos (by decide), c4]
        · unfold fX6_its; rw [m_isWalker hw hs, Option.bind_some, if_neg (b1 h1), e6, if_neg (b1 h2), if_neg (by decide), show nI 4 = (4 : Int32) from rfl, m_part4 (by omega), (hs.2.2.2.2 k hk).2.2.2.2]; rfl
      · have hf : (gK G k).2.1 / 4 < gF G := by omega
        have hr := hw.2.2.1 _ hf
        refine ⟨nI (payN (gK G k).1 (gR G ((gK G k).2.1 / 4))), G, none, WG_t hw, o0, csp_val hg ?_, fun M1 hs => msp_val hs ?_⟩
        · unfold fX5_its; rw [c_hasWalker hw hg, if_neg (b1 h1), ldW_n (by omega), Option.bind_some, if_neg (by decide), if_neg (by decide), if_neg (by decide), if_neg (by decide), if_neg (by decide), if_pos (by decide), c2, c_fieldOf (by omega), c_roughOf hw hg hf, Option.bind_some, c1, c_pay w1 hr]; rfl
        · unfold fX6_its; rw [m_isWalker hw hs, Option.bind_some, if_neg (b1 h1), e6, if_neg (b1 h2), if_pos (by decide), m_part0 (by omega), Option.bind_some, m_part1 (by omega), Option.bind_some, (hs.2.2.2.2 k hk).1, (hs.2.2.2.2 k hk).2.1, m_ix4, ldI_n (by omega) (by decide), Option.bind_some, hs.2.2.1 _ hf, m_pay w1 hr]
    · have n (x : Int32) (hx : okx 6 x = true) : ¬ a2 = x := fun q => h2 (by rw [q]; exact hx)
      refine ⟨fnd 0, G, some 0, WG_t hw, o7 (by decide), csp_fin hw hg ?_, fun M1 hs => msp_fin hs ?_⟩
      · unfold fX5_its; rw [c_hasWalker hw hg, if_neg (b1 h1), ldW_n (by omega), Option.bind_some, if_neg (n _ (by decide)), if_neg (n _ (by decide)), if_neg (n _ (by decide)), if_neg (n _ (by decide)), if_neg (n _ (by decide)), if_neg (n _ (by decide)), tb0]
      · unfold fX6_its; rw [m_isWalker hw hs, Option.bind_some, if_neg (b1 h1), e6, if_pos (b0 h2), mb0]
  · refine ⟨fnd 0, G, some 0, WG_t hw, o7 (by decide), csp_fin hw hg ?_, fun M1 hs => msp_fin hs ?_⟩
    · unfold fX5_its; rw [c_hasWalker hw hg, if_pos (b0 h1), tb0]
    · unfold fX6_its; rw [m_isWalker hw hs, Option.bind_some, if_pos (b0 h1), mb0]
/-! who is under whom -/
def abv (a : Nat) : Nat := if a = 3 then 1 else if a = 5 then 1 else if a = 4 then 2 else 0
def asE (a b : Nat) : Nat := if a = b then a else if a = 0 then a else if abv a = b then abv a else 0
theorem c_und {a b : Nat} (ha : a ≤ 5) (hb : b < 6) : fX4_isUnder (nI a) (nI b) = some (if asE a b = b then 1 else 0) :=
  (by decide +kernel : ∀ a, a < 6 → ∀ b, b < 6 → fX4_isUnder (nI a) (nI b) = some (if asE a b = b then 1 else 0)) a (by omega) b hb
theorem m_abv {a : Nat} (ha : a ≤ 5) : fX6_above (nI a) = nI (abv a) :=
  (by decide +kernel : ∀ a, a < 6 → fX6_above (nI a) = nI (abv a)) a (by omega)
theorem abv2 {a : Nat} (ha : a ≤ 5) : abv a ≤ 2 ∧ abv (abv a) = 0 :=
  (by decide +kernel : ∀ a, a < 6 → abv a ≤ 2 ∧ abv (abv a) = 0) a (by omega)
theorem m_asl {ρ : Type} {kx : Int32 → Option ρ} {y1 : Int32} {M : Mem} {a b n : Nat} (ha : a ≤ 5) (hb : b < 6) : fX6_as_29 kx y1 (nI b) M (n + 1 + 1 + 1) (nI a) = kx (nI (asE a b)) := by
  have h2 := abv2 ha
  have hz : ∀ c : Nat, c ≤ 5 → (nI c = 0 ↔ c = 0) := fun c hc => nI_eq (b := 0) (by omega) (by decide)
  have he : ∀ c : Nat, c ≤ 5 → (nI c = nI b ↔ c = b) := fun c hc => nI_eq (by omega) (by omega)
  unfold asE
  rw [fX6_as_29]
  by_cases q1 : a = b
  · rw [if_pos ((he a ha).mpr q1), if_pos q1]
  · rw [if_neg (fun z => q1 ((he a ha).mp z)), if_neg q1]
    by_cases q2 : a = 0
    · rw [if_pos ((hz a ha).mpr q2), if_pos q2]
    · rw [if_neg (fun z => q2 ((hz a ha).mp z)), if_neg q2, m_abv ha, fX6_as_29]
      by_cases q3 : abv a = b
      · rw [if_pos ((he _ (by omega)).mpr q3), if_pos q3]
      · rw [if_neg (fun z => q3 ((he _ (by omega)).mp z)), if_neg q3]
        by_cases q4 : abv a = 0
        · rw [if_pos ((hz _ (by omega)).mpr q4), q4]
        · rw [if_neg (fun z => q4 ((hz _ (by omega)).mp z)), m_abv (by omega), h2.2, fX6_as_29]
          by_cases q5 : nI 0 = nI b
          · rw [if_pos q5]
          · rw [if_neg q5, if_pos (by decide)]
theorem ok_as {t : Nat} {M : Mem} (ht : t < 512) (hI : Inv t M) (a1 : Int32) (a2 : Int32) : ∃ v w, fX5_as a1 a2 M = some v ∧ fX6_as a1 a2 v.2 = some w ∧ v.1 = w.1 ∧ Inv (t + 1) w.2 := by
  refine ok_of hI (fun G hw hg => ?_)
  have h16 := hw.1
  have h6 := hw.2.1
  by_cases h1 : okx (gW G) a1 = true
  · obtain ⟨k, hk, rfl⟩ := okx_t (by omega) h1
    have c1 : M.1 (1 + 2 + k) 0 = nI (gK G k).1 := (hg.2.2.2.2 k hk).1
    have c3 : M.1 (1 + 2 + k) 2 = nI (gK G k).2.2.1 := (hg.2.2.2.2 k hk).2.2.1
    obtain ⟨w1, w2, w3, w4⟩ := hw.2.2.2.2 k hk
    by_cases h2 : okx 6 a2 = true
    · obtain ⟨j, hj, rfl⟩ := okx_t (by decide) h2
      have hE : asE (gK G k).1 j ≤ 5 := by
        have := (abv2 w1).1
        unfold asE; repeat' split
        all_goals omega
      by_cases hu : asE (gK G k).1 j = j
      · refine ⟨nI (gK G k).2.2.1, G, none, WG_t hw, o0, csp_val hg ?_, fun M1 hs => msp_val hs ?_⟩
        · unfold fX5_as; rw [c_hasWalker hw hg, if_neg (b1 h1), c_isKind, if_neg (b1 h2), ldW_n (by omega), Option.bind_some, c1, c_und w1 hj, Option.bind_some, if_neg (b1 hu), c3]
        · unfold fX6_as; rw [m_isWalker hw hs, Option.bind_some, if_neg (b1 h1), m_isKind, if_neg (b1 h2), m_part0 (by omega), Option.bind_some, (hs.2.2.2.2 k hk).1, show FU = 997 + 1 + 1 + 1 from rfl, m_asl w1 hj, if_pos (by rw [hu]), m_part3 (by omega), (hs.2.2.2.2 k hk).2.2.2.1]; rfl
      · refine ⟨fnd 2, G, some 2, WG_t hw, o7 (by decide), csp_fin hw hg ?_, fun M1 hs => msp_fin hs ?_⟩
        · unfold fX5_as; rw [c_hasWalker hw hg, if_neg (b1 h1), c_isKind, if_neg (b1 h2), ldW_n (by omega), Option.bind_some, c1, c_und w1 hj, Option.bind_some, if_pos (b0 hu), tb2]
        · unfold fX6_as; rw [m_isWalker hw hs, Option.bind_some, if_neg (b1 h1), m_isKind, if_neg (b1 h2), m_part0 (by omega), Option.bind_some, (hs.2.2.2.2 k hk).1, show FU = 997 + 1 + 1 + 1 from rfl, m_asl w1 hj, if_neg (fun z => hu ((nI_eq (by omega) (by omega)).mp z)), mb2]
    · refine ⟨fnd 0, G, some 0, WG_t hw, o7 (by decide), csp_fin hw hg ?_, fun M1 hs => msp_fin hs ?_⟩
      · unfold fX5_as; rw [c_hasWalker hw hg, if_neg (b1 h1), c_isKind, if_pos (b0 h2), tb0]
      · unfold fX6_as; rw [m_isWalker hw hs, Option.bind_some, if_neg (b1 h1), m_isKind, if_pos (b0 h2), mb0]
  · refine ⟨fnd 0, G, some 0, WG_t hw, o7 (by decide), csp_fin hw hg ?_, fun M1 hs => msp_fin hs ?_⟩
    · unfold fX5_as; rw [c_hasWalker hw hg, if_pos (b0 h1), tb0]
    · unfold fX6_as; rw [m_isWalker hw hs, Option.bind_some, if_pos (b0 h1), mb0]
