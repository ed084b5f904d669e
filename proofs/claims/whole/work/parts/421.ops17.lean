/-! MATHS: the rest, piece by piece -/
theorem KE_c {B : Nat} {M M' : Mem} (h : KE B M) (hc : ∀ c, (11 ≤ c ∧ c ≤ 20) ∨ c = 51 → M'.1 c = M.1 c) (h0 : M'.1 0 11 = M.1 0 11) (h5 : M'.1 49 5 = M.1 49 5) : KE B M' := by
  rcases h with h | ⟨h1, h2, K, k1, k2, k3⟩
  · exact Or.inl ⟨h0.trans h.1, h5.trans h.2⟩
  · exact Or.inr ⟨h0.trans h1, h5.trans h2, K, k1, RG_cg k1 k2 (fun c q1 q2 => hc c (by omega)), RS_cg k3 (hc 51 (by omega))⟩
theorem FE_c {M M' : Mem} (h : FE M) (h1 : M'.1 48 = M.1 48) (h2 : M'.1 54 = M.1 54) : FE M' := fun i hi => by rw [h1, h2]; exact h i hi
theorem TE_c {M M' : Mem} (h : TE M) (h1 : M'.1 37 = M.1 37) (h2 : M'.1 56 = M.1 56) (h3 : M'.1 36 0 = M.1 36 0) (h4 : M'.1 49 8 = M.1 49 8) : TE M' := by
  obtain ⟨n, k1, k2, k3, k4⟩ := h
  exact ⟨n, k1, h3.trans k2, h4.trans k3, fun i hi => by rw [h1, h2]; exact k4 i hi⟩
theorem SE_c {M M' : Mem} (h : SE M) (hc : ∀ c, (40 ≤ c ∧ c ≤ 47) ∨ (57 ≤ c ∧ c ≤ 59) → M'.1 c = M.1 c ∧ M'.2 c = M.2 c) : SE M' := fun s hs => by
  obtain ⟨bt, z, h1, h2, h3, h4, h5, h6, h7, h8⟩ := h s hs
  exact ⟨bt, z, h1, h2, h3, by rw [(hc (40 + 2 * s) (by omega)).1]; exact h4, by rw [(hc 57 (by omega)).1]; exact h5, by rw [(hc (40 + 2 * s) (by omega)).1]; exact h6, by rw [(hc 58 (by omega)).1]; exact h7, fun i hi => by rw [(hc (41 + 2 * s) (by omega)).2, (hc 59 (by omega)).2]; exact h8 i hi⟩
theorem ok_wipe {t : Nat} {M : Mem} (ht : t < 512) (hI : Inv t M) : ∃ v w, fX5_wipe M = some v ∧ fX6_wipe v.2 = some w ∧ v.1 = w.1 ∧ Inv (t + 1) w.2 := by
  obtain ⟨hG, hK, hF, ⟨n, k1, k2, k3, k4⟩, hS⟩ := hI
  refine ⟨_, _, rfl, rfl, ?_, GE_cg (GE_mono hG (by omega)) (fun c q1 q2 => ?_) ?_, KE_c (KE_mono hK (by omega)) (fun c q => ?_) ?_ ?_, FE_c hF ?_ ?_, ⟨0, by decide, ?_, ?_, fun i hi => absurd hi (Nat.not_lt_zero _)⟩, SE_c hS (fun c q => ⟨?_, rfl⟩)⟩
  · show M.1 36 0 = (setI M 36 0 0).1 49 8
    rw [sI_c _ _ _ (by decide), k2, k3]
  · show (setI (setI M 36 0 0) 49 8 0).1 c = _
    rw [sI_c _ _ _ (by omega), sI_c _ _ _ (by omega)]
  · show (setI (setI M 36 0 0) 49 8 0).1 50 = _
    rw [sI_c _ _ _ (by omega), sI_c _ _ _ (by omega)]
  · show (setI (setI M 36 0 0) 49 8 0).1 c = _
    rw [sI_c _ _ _ (by omega), sI_c _ _ _ (by omega)]
  · show (setI (setI M 36 0 0) 49 8 0).1 0 11 = _
    rw [sI_c _ _ _ (by omega), sI_c _ _ _ (by omega)]
  · show (setI (setI M 36 0 0) 49 8 0).1 49 5 = _
    rw [sI_j _ _ (by omega), sI_c _ _ _ (by omega)]
  · show (setI (setI M 36 0 0) 49 8 0).1 48 = _
    rw [sI_c _ _ _ (by omega), sI_c _ _ _ (by omega)]
  · show (setI (setI M 36 0 0) 49 8 0).1 54 = _
    rw [sI_c _ _ _ (by omega), sI_c _ _ _ (by omega)]
  · show (setI (setI M 36 0 0) 49 8 0).1 36 0 = _
    rw [sI_c _ _ _ (by omega), sI_s]; rfl
  · show (setI (setI M 36 0 0) 49 8 0).1 49 8 = _
    rw [sI_s]; rfl
  · show (setI (setI M 36 0 0) 49 8 0).1 c = _
    rw [sI_c _ _ _ (by omega), sI_c _ _ _ (by omega)]
theorem ok_tear {t : Nat} {M : Mem} (ht : t < 512) (hI : Inv t M) : ∃ v w, fX5_tear M = some v ∧ fX6_tear v.2 = some w ∧ v.1 = w.1 ∧ Inv (t + 1) w.2 := by
  obtain ⟨hG, hK, hF, hT, hS⟩ := hI
  have e05 : M.1 0 11 = M.1 49 5 := by
    rcases hK with h | h
    · rw [h.1, h.2]
    · rw [h.1, h.2.1]
  refine ⟨_, _, rfl, rfl, ?_, GE_cg (GE_mono hG (by omega)) (fun c q1 q2 => ?_) ?_, Or.inl ⟨?_, ?_⟩, FE_c hF ?_ ?_, TE_c hT ?_ ?_ ?_ ?_, SE_c hS (fun c q => ⟨?_, rfl⟩)⟩
  · show (if M.1 0 11 = 0 then (0 : Int32) else 1) = if (setI M 0 11 0).1 49 5 = 0 then 0 else 1
    rw [sI_c _ _ _ (by decide), e05]
  · show (setI (setI M 0 11 0) 49 5 0).1 c = _
    rw [sI_c _ _ _ (by omega), sI_c _ _ _ (by omega)]
  · show (setI (setI M 0 11 0) 49 5 0).1 50 = _
    rw [sI_c _ _ _ (by omega), sI_c _ _ _ (by omega)]
  · show (setI (setI M 0 11 0) 49 5 0).1 0 11 = _
    rw [sI_c _ _ _ (by omega), sI_s]
  · show (setI (setI M 0 11 0) 49 5 0).1 49 5 = _
    rw [sI_s]
  · show (setI (setI M 0 11 0) 49 5 0).1 48 = _
    rw [sI_c _ _ _ (by omega), sI_c _ _ _ (by omega)]
  · show (setI (setI M 0 11 0) 49 5 0).1 54 = _
    rw [sI_c _ _ _ (by omega), sI_c _ _ _ (by omega)]
  · show (setI (setI M 0 11 0) 49 5 0).1 37 = _
    rw [sI_c _ _ _ (by omega), sI_c _ _ _ (by omega)]
  · show (setI (setI M 0 11 0) 49 5 0).1 56 = _
    rw [sI_c _ _ _ (by omega), sI_c _ _ _ (by omega)]
  · show (setI (setI M 0 11 0) 49 5 0).1 36 0 = _
    rw [sI_c _ _ _ (by omega), sI_c _ _ _ (by omega)]
  · show (setI (setI M 0 11 0) 49 5 0).1 49 8 = _
    rw [sI_j _ _ (by omega), sI_c _ _ _ (by omega)]
  · show (setI (setI M 0 11 0) 49 5 0).1 c = _
    rw [sI_c _ _ _ (by omega), sI_c _ _ _ (by omega)]
