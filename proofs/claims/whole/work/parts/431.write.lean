/-! MATHS: write, copy -/
theorem Inv_J {t : Nat} {M M' : Mem} (h : Inv t M) (e : M'.1 = M.1) (hS : SE M') : Inv (t + 1) M' := by
  obtain ⟨hG, hK, hF, hT, _⟩ := h
  exact ⟨GE_cg (GE_mono hG (by omega)) (fun c _ _ => by rw [e]) (by rw [e]), KE_c (KE_mono hK (by omega)) (fun c _ => by rw [e]) (by rw [e]) (by rw [e]), FE_c hF (by rw [e]) (by rw [e]), TE_c hT (by rw [e]) (by rw [e]) (by rw [e]) (by rw [e]), hS⟩
theorem shf_c {s bt : Nat} {M : Mem} (hs : s < 4) (hb : bt ≤ 64) (e : M.1 (40 + 2 * s) 0 = nI bt) : fX5_sheetFinding (nI s) M = some (if bt = 0 then fnd 5 else 0) := by
  unfold fX5_sheetFinding
  rw [c_isSheet, if_neg (b1 (okx_tt hs (by decide))), ldS_n hs, Option.bind_some, e]
  by_cases q : bt = 0
  · rw [q, if_pos (show nI 0 = 0 from rfl), if_pos rfl]; rfl
  · rw [if_neg (nI_ne0 (by omega) (by omega)), if_neg q]
theorem shf_cb {x : Int32} {M : Mem} (h : ¬ okx 4 x = true) : fX5_sheetFinding x M = some (fnd 0) := by
  unfold fX5_sheetFinding; rw [c_isSheet, if_pos (b0 h)]; rfl
theorem shf_m {s bt : Nat} {M : Mem} (hs : s < 4) (hb : bt ≤ 64) (e : M.1 57 s = nI bt) : fX6_wrong (nI s) M = some (if bt = 0 then fnd 5 else 0) := by
  unfold fX6_wrong
  rw [m_isOne, if_neg (b1 (okx_tt hs (by decide))), ldI_n hs (by decide), Option.bind_some, e]
  by_cases q : bt = 0
  · rw [q, if_pos (show nI 0 = 0 from rfl), if_pos rfl]; rfl
  · rw [if_neg (nI_ne0 (by omega) (by omega)), if_neg q]
theorem shf_mb {x : Int32} {M : Mem} (h : ¬ okx 4 x = true) : fX6_wrong x M = some (fnd 0) := by
  unfold fX6_wrong; rw [m_isOne, if_pos (b0 h)]; rfl
theorem fnd_ne : ∀ i, i < 7 → ¬ fnd i = 0 := by decide
theorem okx_ge {n : Nat} {x : Int32} (hn : n < 2 ^ 31) (h : ¬ okx n x = true) (h0 : ¬ x < 0) : ¬ x < nI n := fun q => by
  obtain ⟨j, hj, rfl⟩ := nI_of h0
  rw [nI_ltI hj hn] at q
  exact h (okx_tt q hn)
theorem tell_1 (i : Nat) (M : Mem) {c : Nat} (h : c ≠ 48) : (tellM i M).1 c = M.1 c := sI_c _ _ _ h
theorem ok_write {t : Nat} {M : Mem} (ht : t < 512) (hI : Inv t M) (a1 : Int32) (a2 : Int32) (a3 : Int64) : ∃ v w, fX5_write a1 a2 a3 M = some v ∧ fX6_write a1 a2 a3 v.2 = some w ∧ v.1 = w.1 ∧ Inv (t + 1) w.2 := by
  by_cases h1 : okx 4 a1 = true
  · obtain ⟨s, hs, rfl⟩ := okx_t (by decide) h1
    have hI' := hI
    obtain ⟨hG, hK, hF, hT, hS⟩ := hI
    obtain ⟨bt, z, e1, e2, e3, e4, e5, e6, e7, e8⟩ := hS s hs
    have hb : bt ≤ 64 := by omega
    by_cases q : bt = 0
    · refine ⟨((fnd 5).toInt64, tellM 5 M), ((fnd 5).toInt64, findM 5 (tellM 5 M)), ?_, ?_, rfl, Inv_fin (i := 5) hI' (by decide)⟩
      · unfold fX5_write; rw [shf_c hs hb e4, Option.bind_some, if_pos q, if_neg (fnd_ne 5 (by decide)), c_tell (by decide)]; rfl
      · unfold fX6_write; rw [shf_m hs hb (by rw [tell_1 5 M (by decide)]; exact e5), Option.bind_some, if_pos q, if_neg (fnd_ne 5 (by decide)), m_finds (by decide)]; rfl
    · by_cases h2 : okx z a2 = true
      · obtain ⟨i, hi, rfl⟩ := okx_t (by omega) h2
        refine ⟨(M.2 (41 + 2 * s) i, setJ M (41 + 2 * s) i (fX6_narrowed (nI bt) a3)), (M.2 59 (40 * s + i), setJ (setJ M (41 + 2 * s) i (fX6_narrowed (nI bt) a3)) 59 (40 * s + i) (fX6_narrowed (nI bt) a3)), ?_, ?_, e8 i (by omega), Inv_J hI' rfl (SE_up hS hs e1 e2 e3 (fun u hu hn => ⟨rfl, rfl, rfl, ?_, fun j hj => ?_⟩) e4 e5 e6 e7 (fun j hj => ?_))⟩
        · unfold fX5_write
          rw [shf_c hs hb e4, Option.bind_some, if_neg q, if_pos rfl, ldS_n hs, Option.bind_some, if_neg (nI_pos (by omega)), e6, if_pos (nI_lt hi (by omega)), ldJ_n (by omega) (by decide), Option.bind_some, stJ_n (by omega) (by decide)]
          show some (M.2 (40 + 2 * s + 1) i, setJ M (40 + 2 * s + 1) i (fX6_narrowed (M.1 (40 + 2 * s) 0) a3)) = _
          rw [e4, show 40 + 2 * s + 1 = 41 + 2 * s by omega]
        · show fX6_write (nI s) (nI i) a3 (setJ M (41 + 2 * s) i (fX6_narrowed (nI bt) a3)) = _
          unfold fX6_write
          rw [shf_m (M := setJ M (41 + 2 * s) i (fX6_narrowed (nI bt) a3)) hs hb e5, Option.bind_some, if_neg q, if_pos rfl, ldI_n hs (by decide), Option.bind_some]
          show (if fX6_in (nI i).toInt64 0 ((M.1 58 s) - 1).toInt64 = 0 then _ else _) = _
          rw [e7, in_x (nI i) (n := z) (nI_sub1 (by omega)), if_neg (b1 h2), m_ix5, ldJ_n (by omega) (by decide), Option.bind_some, ldI_n hs (by decide), Option.bind_some, stJ_n (by omega) (by decide)]
          show some ((setJ M (41 + 2 * s) i _).2 59 (40 * s + i), setJ (setJ M (41 + 2 * s) i _) 59 (40 * s + i) (fX6_narrowed (M.1 57 s) a3)) = _
          rw [sJ_c _ _ _ (by omega), e5]
        · rw [sJ_c _ _ _ (by omega), sJ_c _ _ _ (by omega)]
        · rw [sJ_j _ _ (by omega), sJ_c _ _ _ (by omega)]
        · rw [sJ_c _ _ _ (by omega), sJ_if, sJ_if]
          by_cases qj : j = i
          · rw [if_pos ⟨rfl, qj⟩, if_pos ⟨rfl, by omega⟩]
          · rw [if_neg (fun w => qj w.2), if_neg (fun w => qj (by omega)), sJ_c _ _ _ (by omega)]; exact e8 j hj
      · refine ⟨((fnd 0).toInt64, tellM 0 M), ((fnd 0).toInt64, findM 0 (tellM 0 M)), ?_, ?_, rfl, Inv_fin (i := 0) hI' (by decide)⟩
        · unfold fX5_write
          rw [shf_c hs hb e4, Option.bind_some, if_neg q, if_pos rfl, ldS_n hs, Option.bind_some, e6]
          have e : ((fX5_tell (-1000000001 : Int32) M).bind fun w7 => some (((w7.1).toInt64), w7.2)) = some ((fnd 0).toInt64, tellM 0 M) := by rw [fnd_0, c_tell (by decide)]; rfl
          by_cases y : a2 < 0
          · rw [if_pos y, e]
          · rw [if_neg y, if_neg (okx_ge (by omega) h2 y), e]
        · unfold fX6_write
          rw [shf_m hs hb (by rw [tell_1 0 M (by decide)]; exact e5), Option.bind_some, if_neg q, if_pos rfl, ldI_n hs (by decide), Option.bind_some, tell_1 0 M (by decide), e7, in_x a2 (n := z) (nI_sub1 (by omega)), if_pos (b0 h2), fnd_0, m_finds (by decide)]; rfl
  · refine ⟨((fnd 0).toInt64, tellM 0 M), ((fnd 0).toInt64, findM 0 (tellM 0 M)), ?_, ?_, rfl, Inv_fin (i := 0) hI (by decide)⟩
    · unfold fX5_write; rw [shf_cb h1, Option.bind_some, if_neg (fnd_ne 0 (by decide)), c_tell (by decide)]; rfl
    · unfold fX6_write; rw [shf_mb h1, Option.bind_some, if_neg (fnd_ne 0 (by decide)), m_finds (by decide)]; rfl
