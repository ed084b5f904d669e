/-! MATHS: a ground becomes another -/
theorem m_und {ρ : Type} {kx : Mem → Option ρ} (m : Nat) : ∀ (i n : Nat) (M : Mem), i + m = 112 → m < n → ∃ M', fX6_undo_16 kx n (nI i) M = kx M' ∧ One 50 M M' ∧ (∀ j, i ≤ j → j < 112 → M'.1 50 j = M.1 51 j) ∧ ∀ j, j < i → M'.1 50 j = M.1 50 j := by
  induction m with
  | zero =>
    intro i n M e h
    obtain rfl : i = 112 := by omega
    obtain ⟨n, rfl⟩ : ∃ k, n = k + 1 := ⟨n - 1, by omega⟩
    exact ⟨M, by rw [fX6_undo_16, if_pos (by decide)], One_rf _ _, fun j q1 q2 => absurd q1 (by omega), fun j q => rfl⟩
  | succ m ih =>
    intro i n M e h
    obtain ⟨n, rfl⟩ : ∃ k, n = k + 1 := ⟨n - 1, by omega⟩
    obtain ⟨M', e1, o1, a1, z1⟩ := ih (i + 1) n (setI M 50 i (M.1 51 i)) (by omega) (by omega)
    refine ⟨M', ?_, One_tr (One_set _ _ _ _) o1, fun j q1 q2 => ?_, fun j q => ?_⟩
    · rw [fX6_undo_16, if_neg (show ¬ (112 : Int32) ≤ nI i from nI_ge (b := 112) (by omega) (by decide)), ldI_n (by omega) (by decide), Option.bind_some, stI_n (by omega) (by decide), Option.bind_some, nI_1, e1]
    · by_cases q : j = i
      · rw [q, z1 i (by omega), sI_s]
      · rw [a1 j (by omega) q2, sI_c _ _ _ (by decide)]
    · rw [z1 j (by omega), sI_j _ _ (by omega)]
/-- one walker's cell from another -/
theorem c_bec4 (M : Mem) {c d : Nat} (h : d ≠ c) : ∃ M', fX4_become c d M = some M' ∧ One c M M' ∧ ∀ j, j < 4 → M'.1 c j = M.1 d j := by
  unfold fX4_become
  refine ⟨_, rfl, One_tr (One_tr (One_tr (One_set _ _ _ _) (One_set _ _ _ _)) (One_set _ _ _ _)) (One_set _ _ _ _), fun j hj => ?_⟩
  obtain rfl | rfl | rfl | rfl : j = 0 ∨ j = 1 ∨ j = 2 ∨ j = 3 := by omega
  · rw [sI_j _ _ (by decide), sI_j _ _ (by decide), sI_j _ _ (by decide), sI_s]
  · rw [sI_j _ _ (by decide), sI_j _ _ (by decide), sI_s, sI_c _ _ _ h]
  · rw [sI_j _ _ (by decide), sI_s, sI_c _ _ _ h, sI_c _ _ _ h]
  · rw [sI_s, sI_c _ _ _ h, sI_c _ _ _ h, sI_c _ _ _ h]
theorem c_bec6 {ρ : Type} {kx : Mem → Option ρ} {a b : Nat} (hab : a + 10 ≤ b ∨ b + 10 ≤ a) (m : Nat) : ∀ (i n : Nat) (M : Mem), i + m = 6 → m < n → ∃ M', fX0_become_48 kx a b n (nI i) M = kx M' ∧ Rg (a + 2) (a + 7) M M' ∧ (∀ k j, i ≤ k → k < 6 → j < 4 → M'.1 (a + 2 + k) j = M.1 (b + 2 + k) j) ∧ ∀ k, k < i → M'.1 (a + 2 + k) = M.1 (a + 2 + k) := by
  induction m with
  | zero =>
    intro i n M e h
    obtain rfl : i = 6 := by omega
    obtain ⟨n, rfl⟩ : ∃ k, n = k + 1 := ⟨n - 1, by omega⟩
    exact ⟨M, by rw [fX0_become_48, if_pos (by decide)], Rg_rf _ _ _, fun k j q1 q2 => absurd q1 (by omega), fun k q => rfl⟩
  | succ m ih =>
    intro i n M e h
    obtain ⟨n, rfl⟩ : ∃ k, n = k + 1 := ⟨n - 1, by omega⟩
    obtain ⟨M1, p1, o1, r1⟩ := c_bec4 M (show b + 2 + i ≠ a + 2 + i by omega)
    obtain ⟨M', e1, o2, a1, z1⟩ := ih (i + 1) n M1 (by omega) (by omega)
    refine ⟨M', ?_, Rg_tr (Rg_one o1 (by omega) (by omega)) o2, fun k j q1 q2 q3 => ?_, fun k q => ?_⟩
    · rw [fX0_become_48, if_neg (show ¬ (6 : Int32) ≤ nI i from nI_ge (b := 6) (by omega) (by decide)), ldW_n (by omega), Option.bind_some, ldW_n (by omega), Option.bind_some, p1, Option.bind_some, nI_1, e1]
    · by_cases q : k = i
      · subst q; rw [z1 k (by omega)]; exact r1 j q3
      · rw [a1 k j (by omega) q2 q3, o1.1 _ (by omega)]
    · rw [z1 k (by omega), o1.1 _ (by omega)]
