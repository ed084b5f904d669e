/-! MATHS: the findings counted -/
def smp (g : Nat → Int32) : Nat → Nat → Int32 → Int32
  | 0, _, x => x
  | m + 1, i, x => smp g m (i + 1) (x + g i)
theorem smp_cg {g g' : Nat → Int32} (m : Nat) : ∀ (i : Nat) (x : Int32), (∀ j, i ≤ j → j < i + m → g j = g' j) → smp g m i x = smp g' m i x := by
  induction m with
  | zero => intro i x h; rfl
  | succ m ih =>
    intro i x h
    show smp g m (i + 1) (x + g i) = smp g' m (i + 1) (x + g' i)
    rw [h i (by omega) (by omega)]
    exact ih (i + 1) _ (fun j a b => h j (by omega) (by omega))
theorem smp_z {g : Nat → Int32} (m : Nat) : ∀ (i : Nat) (x : Int32), (∀ j, i ≤ j → j < i + m → g j = 0) → smp g m i x = x := by
  induction m with
  | zero => intro i x h; rfl
  | succ m ih =>
    intro i x h
    show smp g m (i + 1) (x + g i) = x
    rw [h i (by omega) (by omega), Int32.add_zero]
    exact ih (i + 1) _ (fun j a b => h j (by omega) (by omega))
theorem smp_1 {g : Nat → Int32} {k : Nat} (m : Nat) : ∀ (i : Nat), i ≤ k → k < i + m → (∀ j, j ≠ k → g j = 0) → smp g m i 0 = g k := by
  induction m with
  | zero => intro i h1 h2 h; omega
  | succ m ih =>
    intro i h1 h2 h
    show smp g m (i + 1) (0 + g i) = g k
    by_cases q : i = k
    · subst q
      rw [Int32.zero_add]
      exact smp_z m (i + 1) _ (fun j a b => h j (by omega))
    · rw [h i q, Int32.zero_add]
      exact ih (i + 1) (by omega) (by omega) h
theorem c_s33 {ρ : Type} {kx : Int32 → Option ρ} {M : Mem} (m : Nat) : ∀ (i n : Nat) (x : Int32), i + m = 7 → m < n → fX5_status_33 kx M n x (nI i) = kx (smp (M.1 48) m i x) := by
  induction m with
  | zero =>
    intro i n x e h
    obtain rfl : i = 7 := by omega
    obtain ⟨n, rfl⟩ : ∃ k, n = k + 1 := ⟨n - 1, by omega⟩
    rw [fX5_status_33, if_pos (by decide)]; rfl
  | succ m ih =>
    intro i n x e h
    obtain ⟨n, rfl⟩ : ∃ k, n = k + 1 := ⟨n - 1, by omega⟩
    rw [fX5_status_33, if_neg (show ¬ (7 : Int32) ≤ nI i from nI_ge (b := 7) (by omega) (by decide)), ldI_n (by omega) (by decide), Option.bind_some, nI_1, ih (i + 1) n _ (by omega) (by omega)]; rfl
theorem m_s25 {ρ : Type} {kx : Int32 → Option ρ} {M : Mem} {y : Int32} (g : Nat → Int32) (hg : ∀ i, i < 7 → g i = if y < 0 then M.1 54 i else if nI i = y then M.1 54 i else 0) (m : Nat) : ∀ (i n : Nat) (x : Int32), i + m = 7 → m < n → fX6_status_25 kx y M n x (nI i) = kx (smp g m i x) := by
  induction m with
  | zero =>
    intro i n x e h
    obtain rfl : i = 7 := by omega
    obtain ⟨n, rfl⟩ : ∃ k, n = k + 1 := ⟨n - 1, by omega⟩
    rw [fX6_status_25, if_pos (by decide)]; rfl
  | succ m ih =>
    intro i n x e h
    obtain ⟨n, rfl⟩ : ∃ k, n = k + 1 := ⟨n - 1, by omega⟩
    have hz : (if y < 0 then ((ldI M 54 7 (nI i)).bind fun v7 => some v7) else (if nI i = y then ((ldI M 54 7 (nI i)).bind fun v10 => some v10) else some (0 : Int32))) = some (g i) := by
      rw [hg i (by omega), ldI_n (by omega) (by decide)]
      split
      · rfl
      · split <;> rfl
    rw [fX6_status_25, if_neg (show ¬ (7 : Int32) ≤ nI i from nI_ge (b := 7) (by omega) (by decide)), hz, Option.bind_some, nI_1, ih (i + 1) n _ (by omega) (by omega)]; rfl
theorem ok_status {t : Nat} {M : Mem} (ht : t < 512) (hI : Inv t M) (a1 : Int32) : ∃ v w, fX5_status a1 M = some v ∧ fX6_status a1 v.2 = some w ∧ v.1 = w.1 ∧ Inv (t + 1) w.2 := by
  have e1 : fX6_in a1.toInt64 (-1) 6 = if okr (-1) 6 a1 = true then 1 else 0 := in_r a1 rfl rfl
  have q1 : a1 < -1 ↔ a1.toInt < -1 := Int32.lt_iff_toInt_lt
  have q2 : a1 < 7 ↔ a1.toInt < 7 := Int32.lt_iff_toInt_lt
  have q3 : a1 < 0 ↔ a1.toInt < 0 := Int32.lt_iff_toInt_lt
  have hF : FE M := hI.2.2.1
  by_cases h1 : okr (-1) 6 a1 = true
  · have hx : -1 ≤ a1.toInt ∧ a1.toInt ≤ 6 := of_decide_eq_true h1
    have r1 : ¬ a1 < -1 := fun z => by have := q1.mp z; omega
    have r2 : a1 < 7 := q2.mpr (by omega)
    by_cases h0 : a1 < 0
    · refine ⟨(smp (M.1 48) 7 0 0, M), (smp (M.1 54) 7 0 0, M), ?_, ?_, smp_cg 7 0 0 (fun j a b => hF j (by omega)), Inv_s hI⟩
      · unfold fX5_status; rw [if_neg r1, if_pos r2, if_pos h0]; exact c_s33 7 0 FU 0 (by decide) (by decide)
      · unfold fX6_status; rw [e1, if_neg (b1 h1)]; exact m_s25 (M.1 54) (fun i hi => (if_pos h0).symm) 7 0 FU 0 (by decide) (by decide)
    · obtain ⟨k, hk, rfl⟩ := okx_t (n := 7) (x := a1) (by decide) (decide_eq_true ⟨Int.not_lt.mp (fun y => h0 (q3.mpr y)), by omega⟩)
      refine ⟨(M.1 48 k, M), (M.1 54 k, M), ?_, ?_, hF k hk, Inv_s hI⟩
      · unfold fX5_status; rw [if_neg r1, if_pos r2, if_neg h0, ldI_n hk (by decide)]; rfl
      · unfold fX6_status; rw [e1, if_neg (b1 h1)]
        refine (m_s25 (fun i => if i = k then M.1 54 i else 0) (fun i hi => ?_) 7 0 FU 0 (by decide) (by decide)).trans ?_
        · rw [if_neg h0]
          by_cases q : i = k
          · rw [if_pos q, if_pos (by rw [q])]
          · rw [if_neg q, if_neg (fun z => q ((nI_eq (by omega) (by omega)).mp z))]
        · rw [smp_1 (k := k) 7 0 (by omega) (by omega) (fun j q => if_neg q), if_pos rfl]
  · refine ok_of hI (fun G hw hg => ?_)
    refine ⟨fnd 0, G, some 0, WG_t hw, o7 (by decide), csp_fin hw hg ?_, fun M1 hs => msp_fin hs ?_⟩
    · unfold fX5_status
      by_cases z : a1 < -1
      · rw [if_pos z, tb0]
      · rw [if_neg z, if_neg (fun z2 => h1 (decide_eq_true ⟨Int.not_lt.mp (fun y => z (q1.mpr y)), by have := q2.mp z2; omega⟩)), tb0]
    · unfold fX6_status; rw [e1, if_pos (b0 h1), mb0]
