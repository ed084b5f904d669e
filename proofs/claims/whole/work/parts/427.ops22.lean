/-! MATHS: a ground becomes another, whole -/
theorem cp_at (f g : Nat → Int32) {n j : Nat} (h : j < n) : va_cpy f g 0 0 n j = f j := by
  unfold va_cpy
  rw [if_pos (by omega)]
  congr 1
  omega
theorem c_ground {B a b : Nat} {G : Gd} {M : Mem} (hab : a + 10 ≤ b ∨ b + 10 ≤ a) (hw : WG B G) (hg : RG b G M) : ∃ M', fX0_become a b M = some M' ∧ RG a G M' ∧ Rg a (a + 9) M M' := by
  have h16 := hw.1
  have h6 := hw.2.1
  let M0 := setI (setI M a 0 (M.1 b 0)) a 1 ((setI M a 0 (M.1 b 0)).1 b 1)
  let M1 := cpyI M0 (b + 8) (a + 8) 0 0 16
  let M2 := cpyI M1 (b + 9) (a + 9) 0 0 64
  have e0 : ∀ c, c ≠ a → M0.1 c = M.1 c := fun c q => by
    show (setI (setI M a 0 (M.1 b 0)) a 1 ((setI M a 0 (M.1 b 0)).1 b 1)).1 c = _
    rw [sI_c _ _ _ q, sI_c _ _ _ q]
  have e1 : ∀ c, c ≠ a + 8 → M1.1 c = M0.1 c := fun c q => if_neg q
  have e2 : ∀ c, c ≠ a + 9 → M2.1 c = M1.1 c := fun c q => if_neg q
  obtain ⟨M', p, o, r, _⟩ := c_bec6 (kx := fun M12 => some M12) hab 6 0 FU M2 (by decide) (by decide)
  have f0 : ∀ c, c < a + 2 ∨ a + 7 < c → M'.1 c = M2.1 c := fun c q => o.1 c (by omega)
  refine ⟨M', ?_, ⟨?_, ?_, fun f hf => ?_, fun w hl => ?_, fun k hk => ?_⟩, fun c q => ?_, o.2⟩
  · unfold fX0_become acI
    rw [if_pos (by decide), Option.bind_some, if_pos (by decide), Option.bind_some]
    exact p
  · rw [f0 a (by omega), e2 a (by omega), e1 a (by omega)]
    show (setI (setI M a 0 (M.1 b 0)) a 1 ((setI M a 0 (M.1 b 0)).1 b 1)).1 a 0 = _
    rw [sI_j _ _ (by decide), sI_s]; exact hg.1
  · rw [f0 a (by omega), e2 a (by omega), e1 a (by omega)]
    show (setI (setI M a 0 (M.1 b 0)) a 1 ((setI M a 0 (M.1 b 0)).1 b 1)).1 a 1 = _
    rw [sI_s, sI_c _ _ _ (by omega)]; exact hg.2.1
  · rw [f0 (a + 8) (by omega), e2 (a + 8) (by omega)]
    have : M1.1 (a + 8) f = M0.1 (b + 8) f := by
      show (if a + 8 = a + 8 then va_cpy (M0.1 (b + 8)) (M0.1 (a + 8)) 0 0 16 else M0.1 (a + 8)) f = _
      rw [if_pos rfl]; exact cp_at _ _ (by omega)
    rw [this, e0 _ (by omega)]; exact hg.2.2.1 f hf
  · rw [f0 (a + 9) (by omega)]
    have : M2.1 (a + 9) w = M1.1 (b + 9) w := by
      show (if a + 9 = a + 9 then va_cpy (M1.1 (b + 9)) (M1.1 (a + 9)) 0 0 64 else M1.1 (a + 9)) w = _
      rw [if_pos rfl]; exact cp_at _ _ (by omega)
    rw [this, e1 _ (by omega), e0 _ (by omega)]; exact hg.2.2.2.1 w hl
  · have hc : M2.1 (b + 2 + k) = M.1 (b + 2 + k) := by rw [e2 _ (by omega), e1 _ (by omega), e0 _ (by omega)]
    obtain ⟨g1, g2, g3, g4⟩ := hg.2.2.2.2 k hk
    refine ⟨?_, ?_, ?_, ?_⟩ <;> rw [r k _ (by omega) (by omega) (by decide), hc]
    · exact g1
    · exact g2
    · exact g3
    · exact g4
  · rw [f0 c (by omega), e2 c (by omega), e1 c (by omega), e0 c (by omega)]
