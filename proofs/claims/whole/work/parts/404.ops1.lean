/-! MATHS: fields -/
theorem m_ix1 (a d : Nat) : ((18 : Int32) + ((4 : Int32) * nI a)) + nI d = nI (18 + (4 * a + d)) := by
  show (nI 18 + nI 4 * nI a) + nI d = _
  rw [pk_mul, nI_add, nI_add, Nat.add_assoc]
theorem m_ix2 (a d : Nat) : ((4 : Int32) * nI a) + nI d = nI (4 * a + d) := by
  show nI 4 * nI a + nI d = _
  rw [pk_mul, nI_add]
theorem m_ix3 (w : Nat) : (18 : Int32) + nI w = nI (18 + w) := by
  show nI 18 + nI w = _
  rw [nI_add]
theorem m_ix4 (f : Nat) : (2 : Int32) + nI f = nI (2 + f) := by
  show nI 2 + nI f = _
  rw [nI_add]
theorem m_spot (k j : Nat) : fX6_spot (nI k) (nI j) = nI (82 + 5 * k + j) := by
  show (nI 82 + nI 5 * nI k) + nI j = _
  rw [pk_mul, nI_add, nI_add]
theorem c_isRough (x : Int32) : fX5_isRough x = if okx 10 x = true then 1 else 0 := cls_r (hi := 9) (by decide) x
theorem c_isKind (x : Int32) : fX5_isKind x = if okx 6 x = true then 1 else 0 := cls_x (F := 6) (by decide) x
theorem c_isSheet (x : Int32) : fX5_isSheet x = if okx 4 x = true then 1 else 0 := cls_x (F := 4) (by decide) x
theorem c_isStepsOn (x : Int32) : fX5_isStepsOn x = if okx 101 x = true then 1 else 0 := cls_r (hi := 100) (by decide) x
theorem way_t {F : Nat} {x y : Int32} (hF : F ≤ 16) (h : okx F x = true ∧ okx 4 y = true) : ∃ a d, a < F ∧ d < 4 ∧ x = nI a ∧ y = nI d := by
  obtain ⟨a, ha, rfl⟩ := okx_t (by omega) h.1
  obtain ⟨d, hd, rfl⟩ := okx_t (by decide) h.2
  exact ⟨a, d, ha, hd, rfl, rfl⟩
theorem ok_over {t : Nat} {M : Mem} (ht : t < 512) (hI : Inv t M) (a1 : Int32) (a2 : Int32) : ∃ v w, fX5_over a1 a2 M = some v ∧ fX6_over a1 a2 v.2 = some w ∧ v.1 = w.1 ∧ Inv (t + 1) w.2 := by
  refine ok_of hI (fun G hw hg => ?_)
  have h16 := hw.1
  by_cases h1 : okx (gF G) a1 = true ∧ okx 4 a2 = true
  · obtain ⟨a, d, ha, hd, rfl, rfl⟩ := way_t h16 h1
    have hl : 4 * a + d < 4 * gF G := by omega
    cases hgg : gG G (4 * a + d) with
    | none =>
      refine ⟨fnd 3, G, some 3, WG_t hw, o7 (by decide), csp_fin hw hg ?_, fun M1 hs => msp_fin hs ?_⟩
      · unfold fX5_over
        rw [c_hasWay hw hg, if_neg (b1 h1), c_wayOf, c_gluedTo hw hg hl, Option.bind_some, hgg]
        unfold fX5_numberOrNone
        rw [if_pos (show gl none = -1 from rfl), tb3]; rfl
      · unfold fX6_over
        rw [m_isWay hw hs, Option.bind_some, if_neg (b1 h1), m_ix1, m_glued hs (by omega), Option.bind_some, hgg, if_pos (show gm none = 0 from rfl), mb3]
    | some v =>
      have hv := (hw.2.2.2.1 _ v hgg).2.1
      refine ⟨nI v, G, none, WG_t hw, o0, csp_val hg ?_, fun M1 hs => msp_val hs ?_⟩
      · unfold fX5_over
        rw [c_hasWay hw hg, if_neg (b1 h1), c_wayOf, c_gluedTo hw hg hl, Option.bind_some, hgg]
        unfold fX5_numberOrNone
        rw [if_neg (show ¬ gl (some v) = -1 from nI_m1 v (by omega))]; rfl
      · unfold fX6_over
        rw [m_isWay hw hs, Option.bind_some, if_neg (b1 h1), m_ix1, m_glued hs (by omega), Option.bind_some, hgg, if_neg (show ¬ gm (some v) = 0 from nI_ne0 (by omega) (by omega))]
        show some (nI (v + 1) - 1, M1) = _
        rw [nI_pred]
  · refine ⟨fnd 0, G, some 0, WG_t hw, o7 (by decide), csp_fin hw hg ?_, fun M1 hs => msp_fin hs ?_⟩
    · unfold fX5_over; rw [c_hasWay hw hg, if_pos (b0 h1), tb0]
    · unfold fX6_over; rw [m_isWay hw hs, Option.bind_some, if_pos (b0 h1), mb0]
/-- a ground with another glue, rough, number of fields, walkers -/
def gSetG (G : Gd) (g : Nat → Option Nat) : Gd := (G.1, G.2.1, g, G.2.2.2)
def gSetR (G : Gd) (r : Nat → Nat) : Gd := (G.1, r, G.2.2.1, G.2.2.2)
def gSetF (G : Gd) (F : Nat) (r : Nat → Nat) : Gd := ((F, G.1.2), r, G.2.2.1, G.2.2.2)
def gSetK (G : Gd) (W : Nat) (k : Nat → Nat × Nat × Nat × Nat) : Gd := ((G.1.1, W), G.2.1, G.2.2.1, k)
theorem ok_rough {t : Nat} {M : Mem} (ht : t < 512) (hI : Inv t M) (a1 : Int32) (a2 : Int32) : ∃ v w, fX5_rough a1 a2 M = some v ∧ fX6_rough a1 a2 v.2 = some w ∧ v.1 = w.1 ∧ Inv (t + 1) w.2 := by
  refine ok_of hI (fun G hw hg => ?_)
  have h16 := hw.1
  by_cases h1 : okx (gF G) a1 = true
  · by_cases h2 : okx 10 a2 = true
    · obtain ⟨a, ha, rfl⟩ := okx_t (by omega) h1
      obtain ⟨r, hr, rfl⟩ := okx_t (by decide) h2
      refine ⟨nI (gR G a), gSetR G (va_up (gR G) a r), none, ⟨h16, hw.2.1, fun f hf => ?_, hw.2.2.2.1, (WG_t hw).2.2.2.2⟩, o0, ⟨setI M 9 a (nI r), ?_, ?_, FC_set M _ _ (by omega) (by omega) (by omega), sI_c M _ _ (by decide)⟩, fun M1 hs => ⟨setI M1 50 (2 + a) (nI r), ?_, ?_, FM_set M1 _ _ (by omega) (by omega) (by omega), sI_c M1 _ _ (by decide)⟩⟩
      · show va_up (gR G) a r f ≤ 9
        unfold va_up
        split
        · omega
        · exact hw.2.2.1 f hf
      · unfold fX5_rough
        rw [c_hasField hw hg, if_neg (b1 h1), c_isRough, if_neg (b1 h2), c_roughOf hw hg ha, Option.bind_some]
        unfold fX0_makeRough
        rw [c_hasField hw hg, if_neg (b1 h1), stI_n (by omega) (by decide)]; rfl
      · obtain ⟨g1, g2, g3, g4, g5⟩ := hg
        refine ⟨by rw [sI_c M _ _ (by decide)]; exact g1, by rw [sI_c M _ _ (by decide)]; exact g2, fun f hf => ?_, fun w hw => by rw [sI_c M _ _ (by decide)]; exact g4 w hw, fun k hk => ?_⟩
        · show (setI M 9 a (nI r)).1 9 f = nI (va_up (gR G) a r f)
          rw [sI_if]
          unfold va_up
          by_cases hq : f = a
          · rw [if_pos ⟨rfl, hq⟩, if_pos hq]
          · rw [if_neg (fun z => hq z.2), if_neg hq]; exact g3 f hf
        · have := hw.2.1
          have hk' : k < gW G := hk
          unfold RW; rw [sI_c M _ _ (by omega)]; exact g5 k hk
      · unfold fX6_rough
        rw [m_isField hw hs, Option.bind_some, if_neg (b1 h1), in_x (nI r) (n := 10) rfl, if_neg (b1 h2), m_ix4]
        unfold fX6_becomes
        rw [ldI_n (by omega) (by decide), Option.bind_some, stI_n (by omega) (by decide), hs.2.2.1 a ha]; rfl
      · obtain ⟨g1, g2, g3, g4, g5⟩ := hs
        refine ⟨by rw [sI_j M1 _ (by omega)]; exact g1, by rw [sI_j M1 _ (by omega)]; exact g2, fun f hf => ?_, fun w hw => by rw [sI_j M1 _ (by omega)]; exact g4 w hw, fun k hk => ?_⟩
        · show (setI M1 50 (2 + a) (nI r)).1 50 (2 + f) = nI (va_up (gR G) a r f)
          rw [sI_if]
          unfold va_up
          by_cases hq : f = a
          · rw [if_pos ⟨rfl, by omega⟩, if_pos hq]
          · rw [if_neg (fun z => hq (by omega)), if_neg hq]; exact g3 f hf
        · obtain ⟨k1, k2, k3, k4, k5⟩ := g5 k hk
          exact ⟨by rw [sI_j M1 _ (by omega)]; exact k1, by rw [sI_j M1 _ (by omega)]; exact k2, by rw [sI_j M1 _ (by omega)]; exact k3, by rw [sI_j M1 _ (by omega)]; exact k4, by rw [sI_j M1 _ (by omega)]; exact k5⟩
    · refine ⟨fnd 0, G, some 0, WG_t hw, o7 (by decide), csp_fin hw hg ?_, fun M1 hs => msp_fin hs ?_⟩
      · unfold fX5_rough; rw [c_hasField hw hg, if_neg (b1 h1), c_isRough, if_pos (b0 h2), tb0]
      · unfold fX6_rough; rw [m_isField hw hs, Option.bind_some, if_neg (b1 h1), in_x a2 (n := 10) rfl, if_pos (b0 h2), mb0]
  · refine ⟨fnd 0, G, some 0, WG_t hw, o7 (by decide), csp_fin hw hg ?_, fun M1 hs => msp_fin hs ?_⟩
    · unfold fX5_rough; rw [c_hasField hw hg, if_pos (b0 h1), tb0]
    · unfold fX6_rough; rw [m_isField hw hs, Option.bind_some, if_pos (b0 h1), mb0]
