/-! MATHS: walkers put and asked -/
theorem RG_wk {B : Nat} {G : Gd} {M M' : Mem} (hw : WG B G) (h : RG 1 G M) {k W : Nat} (hk : k < 6) (hW : W ≤ gW G + 1) (hW2 : k = gW G ∨ W ≤ gW G) (u : Nat × Nat × Nat × Nat) (hc : ∀ c, 2 ≤ c → c ≤ 10 → c ≠ 3 + k → M'.1 c = M.1 c) (h0 : M'.1 1 0 = M.1 1 0) (h1 : M'.1 1 1 = nI W) (hu : RW (3 + k) u M') : RG 1 (gSetK G W (va_up (gK G) k u)) M' := by
  obtain ⟨g1, g2, g3, g4, g5⟩ := h
  have h6 := hw.2.1
  refine ⟨h0.trans g1, h1, fun f hf => by rw [hc 9 (by omega) (by omega) (by omega)]; exact g3 f hf, fun w hl => by rw [hc 10 (by omega) (by omega) (by omega)]; exact g4 w hl, fun j hj => ?_⟩
  have hj : j < W := hj
  show RW (1 + 2 + j) (va_up (gK G) k u j) M'
  unfold va_up
  by_cases q : j = k
  · rw [if_pos q, q]; exact hu
  · rw [if_neg q]
    unfold RW; rw [hc _ (by omega) (by omega) (by omega)]; exact g5 j (by omega)
theorem RS_wk {G : Gd} {M M' : Mem} (h : RS 50 G M) (h16 : gF G ≤ 16) {k W : Nat} (hk : k < 6) (hW : W ≤ gW G + 1) (hW2 : k = gW G ∨ W ≤ gW G) (u : Nat × Nat × Nat × Nat) (hc : ∀ j, j ≠ 1 → j < 82 + 5 * k ∨ 87 + 5 * k ≤ j → M'.1 50 j = M.1 50 j) (h1 : M'.1 50 1 = nI W) (hu : RK 50 k u M') : RS 50 (gSetK G W (va_up (gK G) k u)) M' := by
  obtain ⟨g1, g2, g3, g4, g5⟩ := h
  refine ⟨by rw [hc 0 (by omega) (by omega)]; exact g1, h1, fun f hf => ?_, fun w hl => by rw [hc _ (by omega) (by omega)]; exact g4 w hl, fun j hj => ?_⟩
  · have hf' : f < gF G := hf
    rw [hc _ (by omega) (by omega)]; exact g3 f hf
  · have hj : j < W := hj
    show RK 50 j (va_up (gK G) k u j) M'
    unfold va_up
    by_cases q : j = k
    · rw [if_pos q, q]; exact hu
    · rw [if_neg q]
      obtain ⟨k1, k2, k3, k4, k5⟩ := g5 j (by omega)
      exact ⟨by rw [hc _ (by omega) (by omega)]; exact k1, by rw [hc _ (by omega) (by omega)]; exact k2, by rw [hc _ (by omega) (by omega)]; exact k3, by rw [hc _ (by omega) (by omega)]; exact k4, by rw [hc _ (by omega) (by omega)]; exact k5⟩
theorem WG_wk {B : Nat} {G : Gd} (hw : WG B G) {k W : Nat} (hW6 : W ≤ 6) (hW2 : W ≤ gW G + 1) (hW3 : k = gW G ∨ W ≤ gW G) {u : Nat × Nat × Nat × Nat} (hu : u.1 ≤ 5 ∧ u.2.1 < 4 * gF G ∧ u.2.2.1 ≤ B ∧ u.2.2.2 ≤ B) : WG B (gSetK G W (va_up (gK G) k u)) := by
  refine ⟨hw.1, hW6, hw.2.2.1, hw.2.2.2.1, fun j hj => ?_⟩
  have hj : j < W := hj
  show (va_up (gK G) k u j).1 ≤ 5 ∧ (va_up (gK G) k u j).2.1 < 4 * gF G ∧ (va_up (gK G) k u j).2.2.1 ≤ B ∧ (va_up (gK G) k u j).2.2.2 ≤ B
  unfold va_up
  by_cases q : j = k
  · rw [if_pos q]; exact hu
  · rw [if_neg q]; exact hw.2.2.2.2 j (by omega)
theorem m_part {G : Gd} {M : Mem} {k j : Nat} (hk : k < 6) (hj : j < 5) : fX6_partOf (nI k) (nI j) M = some (M.1 50 (82 + 5 * k + j)) := by
  unfold fX6_partOf
  rw [m_spot, ldI_n (by omega) (by decide), Option.bind_some]
theorem m_part0 {M : Mem} {k : Nat} (hk : k < 6) : fX6_partOf (nI k) (0 : Int32) M = some (M.1 50 (82 + 5 * k)) := m_part (G := ((0, 0), fun _ => 0, fun _ => none, fun _ => (0, 0, 0, 0))) (j := 0) hk (by decide)
theorem ad1 (k : Nat) : 82 + 5 * k + 1 = 83 + 5 * k := by omega
theorem ad2 (k : Nat) : 82 + 5 * k + 2 = 84 + 5 * k := by omega
theorem ad3 (k : Nat) : 82 + 5 * k + 3 = 85 + 5 * k := by omega
theorem ad4 (k : Nat) : 82 + 5 * k + 4 = 86 + 5 * k := by omega
theorem m_part1 {M : Mem} {k : Nat} (hk : k < 6) : fX6_partOf (nI k) (1 : Int32) M = some (M.1 50 (83 + 5 * k)) := by
  rw [← ad1]; exact m_part (G := ((0, 0), fun _ => 0, fun _ => none, fun _ => (0, 0, 0, 0))) (j := 1) hk (by decide)
theorem m_part2 {M : Mem} {k : Nat} (hk : k < 6) : fX6_partOf (nI k) (2 : Int32) M = some (M.1 50 (84 + 5 * k)) := by
  rw [← ad2]; exact m_part (G := ((0, 0), fun _ => 0, fun _ => none, fun _ => (0, 0, 0, 0))) (j := 2) hk (by decide)
theorem m_part3 {M : Mem} {k : Nat} (hk : k < 6) : fX6_partOf (nI k) (3 : Int32) M = some (M.1 50 (85 + 5 * k)) := by
  rw [← ad3]; exact m_part (G := ((0, 0), fun _ => 0, fun _ => none, fun _ => (0, 0, 0, 0))) (j := 3) hk (by decide)
theorem m_sp0 (k : Nat) : fX6_spot (nI k) (0 : Int32) = nI (82 + 5 * k) := m_spot k 0
theorem m_sp1 (k : Nat) : fX6_spot (nI k) (1 : Int32) = nI (83 + 5 * k) := by rw [← ad1]; exact m_spot k 1
theorem m_sp2 (k : Nat) : fX6_spot (nI k) (2 : Int32) = nI (84 + 5 * k) := by rw [← ad2]; exact m_spot k 2
theorem m_sp3 (k : Nat) : fX6_spot (nI k) (3 : Int32) = nI (85 + 5 * k) := by rw [← ad3]; exact m_spot k 3
theorem m_sp4 (k : Nat) : fX6_spot (nI k) (4 : Int32) = nI (86 + 5 * k) := by rw [← ad4]; exact m_spot k 4
theorem m_wayOf {G : Gd} {M : Mem} (hs : RS 50 G M) {k : Nat} (hk : k < gW G) (h6 : gW G ≤ 6) : fX6_wayOf (nI k) M = some (nI (gK G k).2.1) := by
  unfold fX6_wayOf
  obtain ⟨k1, k2, k3, k4, k5⟩ := hs.2.2.2.2 k hk
  rw [m_part1 (by omega), Option.bind_some, m_part2 (by omega), Option.bind_some, k2, k3, m_ix2]
  congr 2
  omega
def awM (M : Mem) (W kd w : Nat) : Mem := setI (setI (setI (setI M (3 + W) 0 (nI kd)) (3 + W) 1 (nI w)) (3 + W) 2 (0 : Int32)) (3 + W) 3 (0 : Int32)
theorem c_addWalker {B : Nat} {G : Gd} {M : Mem} (hw : WG B G) (hg : RG 1 G M) (hW : gW G < 6) (kd w : Nat) : fX0_addWalker (nI kd) (nI w) M = some (nI (gW G), setI (awM M (gW G) kd w) 1 1 (nI (gW G + 1))) := by
  unfold fX0_addWalker
  rw [hg.2.1, if_pos (show nI (gW G) < (6 : Int32) from nI_lt (b := 6) hW (by decide)), ldW_n hW, Option.bind_some]
  have e : (awM M (gW G) kd w).1 1 1 = nI (gW G) := by
    unfold awM
    rw [sI_c _ _ _ (by omega), sI_c _ _ _ (by omega), sI_c _ _ _ (by omega), sI_c _ _ _ (by omega)]; exact hg.2.1
  show some ((setI (awM M (gW G) kd w) 1 1 ((awM M (gW G) kd w).1 1 1 + 1)).1 1 1 - 1, setI (awM M (gW G) kd w) 1 1 ((awM M (gW G) kd w).1 1 1 + 1)) = _
  rw [e, nI_1, sI_s, nI_pred]
def cmM (M : Mem) (W kd a d : Nat) : Mem := setI (setI (setI (setI (setI M 50 (82 + 5 * W) (nI kd)) 50 (83 + 5 * W) (nI a)) 50 (84 + 5 * W) (nI d)) 50 (85 + 5 * W) (0 : Int32)) 50 (86 + 5 * W) (0 : Int32)
theorem m_comes {G : Gd} {M : Mem} (hs : RS 50 G M) (hW : gW G < 6) (kd a d : Nat) : fX6_comes (nI kd) (nI a) (nI d) M = some (nI (gW G), setI (cmM M (gW G) kd a d) 50 1 (nI (gW G + 1))) := by
  unfold fX6_comes
  rw [ld50_1, Option.bind_some, hs.2.1, m_sp0, m_sp1, m_sp2, m_sp3, m_sp4, stI_n (by omega) (by decide), Option.bind_some, stI_n (by omega) (by decide), Option.bind_some, stI_n (by omega) (by decide), Option.bind_some, stI_n (by omega) (by decide), Option.bind_some, stI_n (by omega) (by decide), Option.bind_some, ld50_1, Option.bind_some]
  rw [sI_j _ _ (by omega), sI_j _ _ (by omega), sI_j _ _ (by omega), sI_j _ _ (by omega), sI_j _ _ (by omega), hs.2.1, nI_1, show (1 : Int32) = nI 1 from rfl, stI_n (by decide) (by decide), Option.bind_some]
  rfl
theorem ok_walker {t : Nat} {M : Mem} (ht : t < 512) (hI : Inv t M) (a1 : Int32) (a2 : Int32) (a3 : Int32) : ∃ v w, fX5_walker a1 a2 a3 M = some v ∧ fX6_walker a1 a2 a3 v.2 = some w ∧ v.1 = w.1 ∧ Inv (t + 1) w.2 := by
  refine ok_of hI (fun G hw hg => ?_)
  have h16 := hw.1
  have h6 := hw.2.1
  by_cases h1 : okx 6 a1 = true
  · by_cases h2 : okx (gF G) a2 = true ∧ okx 4 a3 = true
    · obtain ⟨kd, hkd, rfl⟩ := okx_t (by decide) h1
      obtain ⟨a, d, ha, hd, rfl, rfl⟩ := way_t h16 h2
      by_cases hW : gW G < 6
      · refine ⟨nI (gW G), gSetK G (gW G + 1) (va_up (gK G) (gW G) (kd, 4 * a + d, 0, 0)), none, WG_wk (WG_t hw) hW (Nat.le_refl _) (Or.inl rfl) ⟨show kd ≤ 5 by omega, show 4 * a + d < 4 * gF G by omega, Nat.zero_le _, Nat.zero_le _⟩, o0, ⟨setI (awM M (gW G) kd (4 * a + d)) 1 1 (nI (gW G + 1)), ?_, RG_wk hw hg hW (Nat.le_refl _) (Or.inl rfl) _ (fun c q1 q2 q3 => ?_) ?_ (sI_s _ _ _ _) ?_, ?_, ?_⟩, fun M1 hs => ⟨setI (cmM M1 (gW G) kd a d) 50 1 (nI (gW G + 1)), ?_, RS_wk hs h16 hW (Nat.le_refl _) (Or.inl rfl) _ (fun j q1 q2 => ?_) (sI_s _ _ _ _) ?_, ?_, ?_⟩⟩
        · unfold fX5_walker
          rw [c_isKind, if_neg (b1 h1), c_hasWay hw hg, if_neg (b1 h2), hg.2.1, if_pos (show nI (gW G) < (6 : Int32) from nI_lt (b := 6) hW (by decide)), c_wayOf, c_addWalker hw hg hW]; rfl
        · unfold awM; rw [sI_c _ _ _ (by omega), sI_c _ _ _ q3, sI_c _ _ _ q3, sI_c _ _ _ q3, sI_c _ _ _ q3]
        · rw [sI_j _ _ (by decide)]; unfold awM; rw [sI_c _ _ _ (by omega), sI_c _ _ _ (by omega), sI_c _ _ _ (by omega), sI_c _ _ _ (by omega)]
        · unfold RW awM
          rw [sI_c _ _ _ (by omega)]
          refine ⟨?_, ?_, ?_, ?_⟩
          · rw [sI_j _ _ (by decide), sI_j _ _ (by decide), sI_j _ _ (by decide), sI_s]
          · rw [sI_j _ _ (by decide), sI_j _ _ (by decide), sI_s]
          · rw [sI_j _ _ (by decide), sI_s]; rfl
          · rw [sI_s]; rfl
        · unfold awM
          exact FC_tr (FC_tr (FC_tr (FC_tr (FC_set M _ _ (by omega) (by omega) (by omega)) (FC_set _ _ _ (by omega) (by omega) (by omega))) (FC_set _ _ _ (by omega) (by omega) (by omega))) (FC_set _ _ _ (by omega) (by omega) (by omega))) (FC_set _ _ _ (by omega) (by omega) (by omega))
        · unfold awM
          rw [sI_c _ _ _ (by omega), sI_c _ _ _ (by omega), sI_c _ _ _ (by omega), sI_c _ _ _ (by omega), sI_c _ _ _ (by omega)]; rfl
        · unfold fX6_walker
          rw [m_isKind, if_neg (b1 h1), m_isWay hw hs, Option.bind_some, if_neg (b1 h2), ld50_1, Option.bind_some, hs.2.1, if_neg (show ¬ nI (gW G) = (6 : Int32) from fun q => by have := (nI_eq (b := 6) (by omega) (by decide)).mp q; omega), m_comes hs hW]; rfl
        · unfold cmM
          rw [sI_j _ _ (by omega), sI_j _ _ (by omega), sI_j _ _ (by omega), sI_j _ _ (by omega), sI_j _ _ (by omega), sI_j _ _ (by omega)]
        · unfold RK cmM
          refine ⟨?_, ?_, ?_, ?_, ?_⟩
          · rw [sI_j _ _ (by omega), sI_j _ _ (by omega), sI_j _ _ (by omega), sI_j _ _ (by omega), sI_j _ _ (by omega), sI_s]
          · rw [sI_j _ _ (by omega), sI_j _ _ (by omega), sI_j _ _ (by omega), sI_j _ _ (by omega), sI_s]
            show nI a = nI ((4 * a + d) / 4)
            congr 1; omega
          · rw [sI_j _ _ (by omega), sI_j _ _ (by omega), sI_j _ _ (by omega), sI_s]
            show nI d = nI ((4 * a + d) % 4)
            congr 1; omega
          · rw [sI_j _ _ (by omega), sI_j _ _ (by omega), sI_s]; rfl
          · rw [sI_j _ _ (by omega), sI_s]; rfl
        · unfold cmM
          exact FM_tr (FM_tr (FM_tr (FM_tr (FM_tr (FM_set M1 _ _ (by omega) (by omega) (by omega)) (FM_set _ _ _ (by omega) (by omega) (by omega))) (FM_set _ _ _ (by omega) (by omega) (by omega))) (FM_set _ _ _ (by omega) (by omega) (by omega))) (FM_set _ _ _ (by omega) (by omega) (by omega))) (FM_set _ _ _ (by omega) (by omega) (by omega))
        · unfold cmM
          rw [sI_c _ _ _ (by omega), sI_c _ _ _ (by omega), sI_c _ _ _ (by omega), sI_c _ _ _ (by omega), sI_c _ _ _ (by omega), sI_c _ _ _ (by omega)]; rfl
      · have hW : gW G = 6 := by omega
        refine ⟨fnd 1, G, some 1, WG_t hw, o7 (by decide), csp_fin hw hg ?_, fun M1 hs => msp_fin hs ?_⟩
        · unfold fX5_walker
          rw [c_isKind, if_neg (b1 h1), c_hasWay hw hg, if_neg (b1 h2), hg.2.1, hW, if_neg (by decide), tb1]
        · unfold fX6_walker
          rw [m_isKind, if_neg (b1 h1), m_isWay hw hs, Option.bind_some, if_neg (b1 h2), ld50_1, Option.bind_some, hs.2.1, hW, if_pos (by decide), mb1]
    · refine ⟨fnd 0, G, some 0, WG_t hw, o7 (by decide), csp_fin hw hg ?_, fun M1 hs => msp_fin hs ?_⟩
      · unfold fX5_walker; rw [c_isKind, if_neg (b1 h1), c_hasWay hw hg, if_pos (b0 h2), tb0]
      · unfold fX6_walker; rw [m_isKind, if_neg (b1 h1), m_isWay hw hs, Option.bind_some, if_pos (b0 h2), mb0]
  · refine ⟨fnd 0, G, some 0, WG_t hw, o7 (by decide), csp_fin hw hg ?_, fun M1 hs => msp_fin hs ?_⟩
    · unfold fX5_walker; rw [c_isKind, if_pos (b0 h1), tb0]
    · unfold fX6_walker; rw [m_isKind, if_pos (b0 h1), mb0]
theorem ok_place {t : Nat} {M : Mem} (ht : t < 512) (hI : Inv t M) (a1 : Int32) (a2 : Int32) (a3 : Int32) : ∃ v w, fX5_place a1 a2 a3 M = some v ∧ fX6_place a1 a2 a3 v.2 = some w ∧ v.1 = w.1 ∧ Inv (t + 1) w.2 := by
  refine ok_of hI (fun G hw hg => ?_)
  have h16 := hw.1
  have h6 := hw.2.1
  by_cases h1 : okx (gW G) a1 = true
  · by_cases h2 : okx (gF G) a2 = true ∧ okx 4 a3 = true
    · obtain ⟨k, hk, rfl⟩ := okx_t (by omega) h1
      obtain ⟨a, d, ha, hd, rfl, rfl⟩ := way_t h16 h2
      obtain ⟨c1, c2, c3, c4⟩ := hg.2.2.2.2 k hk
      obtain ⟨w1, w2, w3, w4⟩ := (WG_t hw).2.2.2.2 k hk
      refine ⟨nI (gK G k).2.1, gSetK G (gW G) (va_up (gK G) k ((gK G k).1, 4 * a + d, (gK G k).2.2)), none, WG_wk (WG_t hw) h6 (by omega) (Or.inr (Nat.le_refl _)) ⟨w1, show 4 * a + d < 4 * gF G by omega, w3, w4⟩, o0, ⟨setI M (3 + k) 1 (nI (4 * a + d)), ?_, RG_wk hw hg (by omega) (by omega) (Or.inr (Nat.le_refl _)) _ (fun c q1 q2 q3 => sI_c _ _ _ q3) (by rw [sI_c _ _ _ (by omega)]) (by rw [sI_c _ _ _ (by omega)]; exact hg.2.1) ⟨by rw [sI_j _ _ (by decide)]; exact c1, sI_s _ _ _ _, by rw [sI_j _ _ (by decide)]; exact c3, by rw [sI_j _ _ (by decide)]; exact c4⟩, FC_set _ _ _ (by omega) (by omega) (by omega), sI_c _ _ _ (by omega)⟩, fun M1 hs => ?_⟩
      · unfold fX5_place
        rw [c_hasWalker hw hg, if_neg (b1 h1), c_hasWay hw hg, if_neg (b1 h2), ldW_n (by omega), Option.bind_some, c_wayOf]
        show some (M.1 (3 + k) 1, setI M (3 + k) 1 _) = _
        have c2 : M.1 (3 + k) 1 = nI (gK G k).2.1 := c2
        rw [c2]
      · obtain ⟨s1, s2, s3, s4, s5⟩ := hs.2.2.2.2 k hk
        refine ⟨setI (setI M1 50 (83 + 5 * k) (nI a)) 50 (84 + 5 * k) (nI d), ?_, RS_wk hs h16 (by omega) (by omega) (Or.inr (Nat.le_refl _)) _ (fun j q1 q2 => by rw [sI_j _ _ (by omega), sI_j _ _ (by omega)]) (by rw [sI_j _ _ (by omega), sI_j _ _ (by omega)]; exact hs.2.1) ⟨by rw [sI_j _ _ (by omega), sI_j _ _ (by omega)]; exact s1, ?_, ?_, by rw [sI_j _ _ (by omega), sI_j _ _ (by omega)]; exact s4, by rw [sI_j _ _ (by omega), sI_j _ _ (by omega)]; exact s5⟩, FM_tr (FM_set M1 _ _ (by omega) (by omega) (by omega)) (FM_set _ _ _ (by omega) (by omega) (by omega)), by rw [sI_c _ _ _ (by decide), sI_c _ _ _ (by decide)]; rfl⟩
        · unfold fX6_place
          rw [m_isWalker hw hs, Option.bind_some, if_neg (b1 h1), m_isWay hw hs, Option.bind_some, if_neg (b1 h2), m_wayOf hs hk h6, Option.bind_some, m_ix2]
          unfold fX6_stands
          have e1 : nI (4 * a + d) / (4 : Int32) = nI a := by
            refine (pk_div (d := 4) (by omega) (by decide) (by decide)).trans ?_
            congr 1; omega
          have e2 : nI (4 * a + d) - nI (4 * a + d) / (4 : Int32) * (4 : Int32) = nI d := by
            refine (pk_rem (d := 4) (by omega) (by decide) (by decide)).trans ?_
            congr 1; omega
          rw [e2, e1, m_sp1, m_sp2, stI_n (by omega) (by decide), Option.bind_some, stI_n (by omega) (by decide)]; rfl
        · rw [sI_j _ _ (by omega), sI_s]
          show nI a = nI ((4 * a + d) / 4)
          congr 1; omega
        · rw [sI_s]
          show nI d = nI ((4 * a + d) % 4)
          congr 1; omega
    · refine ⟨fnd 0, G, some 0, WG_t hw, o7 (by decide), csp_fin hw hg ?_, fun M1 hs => msp_fin hs ?_⟩
      · unfold fX5_place; rw [c_hasWalker hw hg, if_neg (b1 h1), c_hasWay hw hg, if_pos (b0 h2), tb0]
      · unfold fX6_place; rw [m_isWalker hw hs, Option.bind_some, if_neg (b1 h1), m_isWay hw hs, Option.bind_some, if_pos (b0 h2), mb0]
  · refine ⟨fnd 0, G, some 0, WG_t hw, o7 (by decide), csp_fin hw hg ?_, fun M1 hs => msp_fin hs ?_⟩
    · unfold fX5_place; rw [c_hasWalker hw hg, if_pos (b0 h1), tb0]
    · unfold fX6_place; rw [m_isWalker hw hs, Option.bind_some, if_pos (b0 h1), mb0]
theorem ok_turn {t : Nat} {M : Mem} (ht : t < 512) (hI : Inv t M) (a1 : Int32) (a2 : Int32) : ∃ v w, fX5_turn a1 a2 M = some v ∧ fX6_turn a1 a2 v.2 = some w ∧ v.1 = w.1 ∧ Inv (t + 1) w.2 := by
  refine ok_of hI (fun G hw hg => ?_)
  have h16 := hw.1
  have h6 := hw.2.1
  by_cases h1 : okx (gW G) a1 = true
  · by_cases h2 : okx 6 a2 = true
    · obtain ⟨k, hk, rfl⟩ := okx_t (by omega) h1
      obtain ⟨kd, hkd, rfl⟩ := okx_t (by decide) h2
      obtain ⟨c1, c2, c3, c4⟩ := hg.2.2.2.2 k hk
      obtain ⟨w1, w2, w3, w4⟩ := (WG_t hw).2.2.2.2 k hk
      refine ⟨nI (gK G k).1, gSetK G (gW G) (va_up (gK G) k (kd, (gK G k).2)), none, WG_wk (WG_t hw) h6 (by omega) (Or.inr (Nat.le_refl _)) ⟨show kd ≤ 5 by omega, w2, w3, w4⟩, o0, ⟨setI M (3 + k) 0 (nI kd), ?_, RG_wk hw hg (by omega) (by omega) (Or.inr (Nat.le_refl _)) _ (fun c q1 q2 q3 => sI_c _ _ _ q3) (by rw [sI_c _ _ _ (by omega)]) (by rw [sI_c _ _ _ (by omega)]; exact hg.2.1) ⟨sI_s _ _ _ _, by rw [sI_j _ _ (by decide)]; exact c2, by rw [sI_j _ _ (by decide)]; exact c3, by rw [sI_j _ _ (by decide)]; exact c4⟩, FC_set _ _ _ (by omega) (by omega) (by omega), sI_c _ _ _ (by omega)⟩, fun M1 hs => ?_⟩
      · unfold fX5_turn
        rw [c_hasWalker hw hg, if_neg (b1 h1), c_isKind, if_neg (b1 h2), ldW_n (by omega), Option.bind_some]
        show some (M.1 (3 + k) 0, setI M (3 + k) 0 _) = _
        have c1 : M.1 (3 + k) 0 = nI (gK G k).1 := c1
        rw [c1]
      · obtain ⟨s1, s2, s3, s4, s5⟩ := hs.2.2.2.2 k hk
        refine ⟨setI M1 50 (82 + 5 * k) (nI kd), ?_, RS_wk hs h16 (by omega) (by omega) (Or.inr (Nat.le_refl _)) _ (fun j q1 q2 => by rw [sI_j _ _ (by omega)]) (by rw [sI_j _ _ (by omega)]; exact hs.2.1) ⟨sI_s _ _ _ _, by rw [sI_j _ _ (by omega)]; exact s2, by rw [sI_j _ _ (by omega)]; exact s3, by rw [sI_j _ _ (by omega)]; exact s4, by rw [sI_j _ _ (by omega)]; exact s5⟩, FM_set M1 _ _ (by omega) (by omega) (by omega), by rw [sI_c _ _ _ (by decide)]; rfl⟩
        unfold fX6_turn
        rw [m_isWalker hw hs, Option.bind_some, if_neg (b1 h1), m_isKind, if_neg (b1 h2), m_sp0]
        unfold fX6_becomes
        rw [ldI_n (by omega) (by decide), Option.bind_some, stI_n (by omega) (by decide), s1]; rfl
    · refine ⟨fnd 0, G, some 0, WG_t hw, o7 (by decide), csp_fin hw hg ?_, fun M1 hs => msp_fin hs ?_⟩
      · unfold fX5_turn; rw [c_hasWalker hw hg, if_neg (b1 h1), c_isKind, if_pos (b0 h2), tb0]
      · unfold fX6_turn; rw [m_isWalker hw hs, Option.bind_some, if_neg (b1 h1), m_isKind, if_pos (b0 h2), mb0]
  · refine ⟨fnd 0, G, some 0, WG_t hw, o7 (by decide), csp_fin hw hg ?_, fun M1 hs => msp_fin hs ?_⟩
    · unfold fX5_turn; rw [c_hasWalker hw hg, if_pos (b0 h1), tb0]
    · unfold fX6_turn; rw [m_isWalker hw hs, Option.bind_some, if_pos (b0 h1), mb0]
