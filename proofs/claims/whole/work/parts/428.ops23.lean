/-! MATHS: undo -/
theorem ok_undo {t : Nat} {M : Mem} (ht : t < 512) (hI : Inv t M) : ∃ v w, fX5_undo M = some v ∧ fX6_undo v.2 = some w ∧ v.1 = w.1 ∧ Inv (t + 1) w.2 := by
  have hI' := hI
  obtain ⟨hG, hK, hF, hT, hS⟩ := hI
  have hK' := hK
  rcases hK with ⟨z1, z2⟩ | ⟨z1, z2, K, k1, k2, k3⟩
  · refine ⟨(fnd 3, tellM 3 M), (fnd 3, findM 3 (tellM 3 M)), ?_, ?_, rfl, Inv_fin (i := 3) hI' (by decide)⟩
    · unfold fX5_undo; rw [if_pos z1, tb3]
    · unfold fX6_undo; rw [if_pos (show (tellM 3 M).1 49 5 = 0 by unfold tellM; rw [sI_c _ _ _ (by decide)]; exact z2), mb3]
  · obtain ⟨Ma, p1, r1, o1⟩ := c_ground (a := 1) (b := 11) (by omega) k1 k2
    obtain ⟨Mb, p2, o2, a2, _⟩ := m_und (kx := fun M7 => ((ldI M7 50 112 (0 : Int32)).bind fun v8 => some (v8, M7))) 112 0 FU Ma (by decide) (by decide)
    have s1 : RS 51 K Ma := RS_cg k3 (o1.1 51 (by omega))
    have s2 : RS 50 K Mb := RS_112 k1 s1 (fun j q => a2 j (by omega) q)
    have hc : ∀ c, ¬ (1 ≤ c ∧ c ≤ 10) → c ≠ 50 → Mb.1 c = M.1 c := fun c y1 y2 => (o2.1 c y2).trans (o1.1 c (by omega))
    have hj : Mb.2 = M.2 := o2.2.trans o1.2
    refine ⟨(Ma.1 1 0, Ma), (Mb.1 50 0, Mb), ?_, ?_, ?_, ⟨K, WG_t k1, RG_cg k1 r1 (fun c y1 y2 => o2.1 c (by omega)), s2⟩, KE_c (KE_mono hK' (by omega)) (fun c y => hc c (by omega) (by omega)) (by rw [hc 0 (by omega) (by omega)]) (by rw [hc 49 (by omega) (by omega)]), FE_c hF (hc 48 (by omega) (by omega)) (hc 54 (by omega) (by omega)), TE_c hT (hc 37 (by omega) (by omega)) (hc 56 (by omega) (by omega)) (by rw [hc 36 (by omega) (by omega)]) (by rw [hc 49 (by omega) (by omega)]), SE_c hS (fun c y => ⟨hc c (by omega) (by omega), by rw [hj]⟩)⟩
    · unfold fX5_undo; rw [if_neg (by rw [z1]; decide), p1]; rfl
    · unfold fX6_undo
      rw [if_neg (by rw [o1.1 49 (by omega), z2]; decide)]
      refine Eq.trans p2 ?_
      rw [ld50_0]; rfl
    · show Ma.1 1 0 = Mb.1 50 0
      rw [r1.1, s2.1]
