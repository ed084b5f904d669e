/-! MATHS: an image -/
theorem m_img {ρ : Type} {kx : Mem → Option ρ} (m : Nat) : ∀ (i n : Nat) (M : Mem), i + m = 112 → m < n → ∃ M', fX6_image_2 kx n (nI i) M = kx M' ∧ One 51 M M' ∧ (∀ j, i ≤ j → j < 112 → M'.1 51 j = M.1 50 j) ∧ ∀ j, j < i → M'.1 51 j = M.1 51 j := by
  induction m with
  | zero =>
    intro i n M e h
    obtain rfl : i = 112 := by omega
    obtain ⟨n, rfl⟩ : ∃ k, n = k + 1 := ⟨n - 1, by omega⟩
    exact ⟨M, by rw [fX6_image_2, if_pos (by decide)], One_rf _ _, fun j q1 q2 => absurd q1 (by omega), fun j q => rfl⟩
  | succ m ih =>
    intro i n M e h
    obtain ⟨n, rfl⟩ : ∃ k, n = k + 1 := ⟨n - 1, by omega⟩
    obtain ⟨M', e1, o1, a1, z1⟩ := ih (i + 1) n (setI M 51 i (M.1 50 i)) (by omega) (by omega)
    refine ⟨M', ?_, One_tr (One_set _ _ _ _) o1, fun j q1 q2 => ?_, fun j q => ?_⟩
    · rw [fX6_image_2, if_neg (show ¬ (112 : Int32) ≤ nI i from nI_ge (b := 112) (by omega) (by decide)), ldI_n (by omega) (by decide), Option.bind_some, stI_n (by omega) (by decide), Option.bind_some, nI_1, e1]
    · by_cases q : j = i
      · rw [q, z1 i (by omega), sI_s]
      · rw [a1 j (by omega) q2, sI_c _ _ _ (by decide)]
    · rw [z1 j (by omega), sI_j _ _ (by omega)]
theorem ok_image {t : Nat} {M : Mem} (ht : t < 512) (hI : Inv t M) : ∃ v w, fX5_image M = some v ∧ fX6_image v.2 = some w ∧ v.1 = w.1 ∧ Inv (t + 1) w.2 := by
  obtain ⟨⟨G, hw, hg, hs⟩, hK, hF, hT, hS⟩ := hI
  obtain ⟨Ma, p1, r1, o1⟩ := c_ground (a := 11) (b := 1) (by omega) hw hg
  obtain ⟨Mb, p2, o2, a2, _⟩ := m_img (kx := fun M6 => some ((1 : Int32), (setI M6 49 5 (1 : Int32)))) 112 0 FU (setI Ma 0 11 1) (by decide) (by decide)
  have hc : ∀ c, ¬ (11 ≤ c ∧ c ≤ 20) → c ≠ 0 → c ≠ 51 → c ≠ 49 → (setI Mb 49 5 1).1 c = M.1 c := fun c y1 y2 y3 y4 => by
    rw [sI_c _ _ _ y4, o2.1 c y3, sI_c _ _ _ y2, o1.1 c (by omega)]
  have hc1 : ∀ c, c ≠ 0 → c ≠ 51 → c ≠ 49 → (setI Mb 49 5 1).1 c = Ma.1 c := fun c y2 y3 y4 => by
    rw [sI_c _ _ _ y4, o2.1 c y3, sI_c _ _ _ y2]
  have hj : (setI Mb 49 5 1).2 = M.2 := by rw [sI_2, o2.2, sI_2, o1.2]
  refine ⟨(1, setI Ma 0 11 1), (1, setI Mb 49 5 1), ?_, ?_, rfl, ⟨G, WG_t hw, RG_cg hw hg (fun c y1 y2 => hc c (by omega) (by omega) (by omega) (by omega)), RS_cg hs (hc 50 (by omega) (by omega) (by omega) (by omega))⟩, Or.inr ⟨?_, ?_, G, WG_t hw, RG_cg hw r1 (fun c y1 y2 => hc1 c (by omega) (by omega) (by omega)), ?_⟩, FE_c hF (hc 48 (by omega) (by omega) (by omega) (by omega)) (hc 54 (by omega) (by omega) (by omega) (by omega)), TE_c hT (hc 37 (by omega) (by omega) (by omega) (by omega)) (hc 56 (by omega) (by omega) (by omega) (by omega)) (by rw [hc 36 (by omega) (by omega) (by omega) (by omega)]) ?_, SE_c hS (fun c y => ⟨hc c (by omega) (by omega) (by omega) (by omega), by rw [hj]⟩)⟩
  · unfold fX5_image; rw [p1]; rfl
  · unfold fX6_image; exact p2
  · rw [sI_c _ _ _ (by decide), o2.1 0 (by decide), sI_s]
  · rw [sI_s]
  · refine RS_112 hw hs (fun j q => ?_)
    rw [sI_c _ _ _ (by decide), a2 j (by omega) q, sI_c _ _ _ (by decide), o1.1 50 (by omega)]
  · rw [sI_j _ _ (by decide), o2.1 49 (by decide), sI_c _ _ _ (by decide), o1.1 49 (by omega)]
