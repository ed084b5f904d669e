/-! MATHS: glue and cut -/
theorem RG_glue {B : Nat} {G : Gd} {M M' : Mem} (hw : WG B G) (g : Nat → Option Nat) (h : RG 1 G M) (hc : ∀ c, 1 ≤ c → c < 10 → M'.1 c = M.1 c) (hx : ∀ x, x < 4 * gF G → M'.1 10 x = gl (g x)) : RG 1 (gSetG G g) M' := by
  obtain ⟨h1, h2, h3, h4, h5⟩ := h
  refine ⟨by rw [hc 1 (by omega) (by omega)]; exact h1, by rw [hc 1 (by omega) (by omega)]; exact h2, fun f hf => by rw [hc 9 (by omega) (by omega)]; exact h3 f hf, hx, fun k hk => ?_⟩
  have := hw.2.1
  have hk' : k < gW G := hk
  unfold RW; rw [hc _ (by omega) (by omega)]; exact h5 k hk
theorem RS_glue {G : Gd} {M M' : Mem} (g : Nat → Option Nat) (h : RS 50 G M) (hB : gF G ≤ 16) (hc : ∀ j, j < 18 ∨ 82 ≤ j → M'.1 50 j = M.1 50 j) (hx : ∀ x, x < 64 → M'.1 50 (18 + x) = gm (g x)) : RS 50 (gSetG G g) M' := by
  obtain ⟨h1, h2, h3, h4, h5⟩ := h
  refine ⟨by rw [hc 0 (by omega)]; exact h1, by rw [hc 1 (by omega)]; exact h2, fun f hf => ?_, hx, fun k hk => ?_⟩
  · have hf' : f < gF G := hf
    rw [hc _ (by omega)]; exact h3 f hf
  · obtain ⟨k1, k2, k3, k4, k5⟩ := h5 k hk
    exact ⟨by rw [hc _ (by omega)]; exact k1, by rw [hc _ (by omega)]; exact k2, by rw [hc _ (by omega)]; exact k3, by rw [hc _ (by omega)]; exact k4, by rw [hc _ (by omega)]; exact k5⟩
def gJoin (g : Nat → Option Nat) (w v : Nat) : Nat → Option Nat := fun x => if x = v then some w else if x = w then some v else g x
def gCut (g : Nat → Option Nat) (w v : Nat) : Nat → Option Nat := fun x => if x = v then none else if x = w then none else g x
theorem WG_join {B : Nat} {G : Gd} (h : WG B G) {w v : Nat} (hw : w < 4 * gF G) (hv : v < 4 * gF G) (hne : w ≠ v) (h1 : gG G w = none) (h2 : gG G v = none) : WG B (gSetG G (gJoin (gG G) w v)) := by
  refine ⟨h.1, h.2.1, h.2.2.1, fun x y hxy => ?_, h.2.2.2.2⟩
  have hxy : gJoin (gG G) w v x = some y := hxy
  show x < 4 * gF G ∧ y < 4 * gF G ∧ y ≠ x ∧ gJoin (gG G) w v y = some x
  unfold gJoin at hxy ⊢
  by_cases q1 : x = v
  · rw [if_pos q1] at hxy; cases hxy
    subst q1
    refine ⟨hv, hw, hne, ?_⟩
    rw [if_neg hne, if_pos rfl]
  · rw [if_neg q1] at hxy
    by_cases q2 : x = w
    · rw [if_pos q2] at hxy; cases hxy
      subst q2
      exact ⟨hw, hv, Ne.symm hne, if_pos rfl⟩
    · rw [if_neg q2] at hxy
      obtain ⟨k1, k2, k3, k4⟩ := h.2.2.2.1 x y hxy
      refine ⟨k1, k2, k3, ?_⟩
      rw [if_neg (fun q => by rw [q, h2] at k4; cases k4), if_neg (fun q => by rw [q, h1] at k4; cases k4)]
      exact k4
theorem WG_cut {B : Nat} {G : Gd} (h : WG B G) {w v : Nat} (hg : gG G w = some v) : WG B (gSetG G (gCut (gG G) w v)) := by
  obtain ⟨c1, c2, c3, c4⟩ := h.2.2.2.1 w v hg
  refine ⟨h.1, h.2.1, h.2.2.1, fun x y hxy => ?_, h.2.2.2.2⟩
  have hxy : gCut (gG G) w v x = some y := hxy
  show x < 4 * gF G ∧ y < 4 * gF G ∧ y ≠ x ∧ gCut (gG G) w v y = some x
  unfold gCut at hxy ⊢
  by_cases q1 : x = v
  · rw [if_pos q1] at hxy; cases hxy
  · rw [if_neg q1] at hxy
    by_cases q2 : x = w
    · rw [if_pos q2] at hxy; cases hxy
    · rw [if_neg q2] at hxy
      obtain ⟨k1, k2, k3, k4⟩ := h.2.2.2.1 x y hxy
      refine ⟨k1, k2, k3, ?_⟩
      rw [if_neg (fun q => by rw [q, c4] at k4; cases k4; exact q2 rfl), if_neg (fun q => by rw [q, hg] at k4; cases k4; exact q1 rfl)]
      exact k4
theorem c_join {B : Nat} {G : Gd} {M : Mem} (hw : WG B G) (hg : RG 1 G M) {w v : Nat} (h1 : w < 4 * gF G) (h2 : v < 4 * gF G) : fX0_join (nI w) (nI v) M = some (setI (setI M 10 w (nI v)) 10 v (nI w)) := by
  have h16 := hw.1
  unfold fX0_join
  rw [if_neg (nI_pos (by omega)), c_ways hg, if_neg (nI_ge h1 (by omega)), if_neg (nI_pos (by omega)), if_neg (nI_ge h2 (by omega)), stI_n (by omega) (by decide), Option.bind_some, stI_n (by omega) (by decide), Option.bind_some]
theorem RG_join {B : Nat} {G : Gd} {M : Mem} (hw : WG B G) (hg : RG 1 G M) {w v : Nat} : RG 1 (gSetG G (gJoin (gG G) w v)) (setI (setI M 10 w (nI v)) 10 v (nI w)) := by
  refine RG_glue hw _ hg (fun c q1 q2 => by rw [sI_c _ _ _ (by omega), sI_c _ _ _ (by omega)]) (fun x hx => ?_)
  rw [sI_if, sI_if]
  unfold gJoin
  by_cases q1 : x = v
  · rw [if_pos ⟨rfl, q1⟩, if_pos q1]; rfl
  · rw [if_neg (fun z => q1 z.2), if_neg q1]
    by_cases q2 : x = w
    · rw [if_pos ⟨rfl, q2⟩, if_pos q2]; rfl
    · rw [if_neg (fun z => q2 z.2), if_neg q2]; exact hg.2.2.2.1 x hx
theorem m_glues {M : Mem} {w v : Nat} (h1 : w < 64) (h2 : v < 64) : fX6_glues (nI w) (nI v) M = some (setI (setI M 50 (18 + w) (nI (v + 1))) 50 (18 + v) (nI (w + 1))) := by
  unfold fX6_glues
  have e : ∀ x : Nat, (1 : Int32) + nI x = nI (x + 1) := fun x => by
    show nI 1 + nI x = _
    rw [nI_add, Nat.add_comm]
  rw [m_ix3, m_ix3, e, e, stI_n (by omega) (by decide), Option.bind_some, stI_n (by omega) (by decide), Option.bind_some]
theorem RS_join {G : Gd} {M : Mem} (h16 : gF G ≤ 16) (hs : RS 50 G M) {w v : Nat} (h1 : w < 64) (h2 : v < 64) : RS 50 (gSetG G (gJoin (gG G) w v)) (setI (setI M 50 (18 + w) (nI (v + 1))) 50 (18 + v) (nI (w + 1))) := by
  refine RS_glue _ hs h16 (fun j hj => by rw [sI_j _ _ (by omega), sI_j _ _ (by omega)]) (fun x hx => ?_)
  rw [sI_if, sI_if]
  unfold gJoin
  by_cases q1 : x = v
  · rw [if_pos ⟨rfl, by omega⟩, if_pos q1]; rfl
  · rw [if_neg (fun z => q1 (by omega)), if_neg q1]
    by_cases q2 : x = w
    · rw [if_pos ⟨rfl, by omega⟩, if_pos q2]; rfl
    · rw [if_neg (fun z => q2 (by omega)), if_neg q2]; exact hs.2.2.2.1 x hx
theorem gm_le {B : Nat} {G : Gd} (hw : WG B G) (w : Nat) : (gm (gG G w) = 0 ↔ gG G w = none) ∧ (gm (gG G w) ≤ 0 ↔ gG G w = none) ∧ (0 < gm (gG G w) ↔ ¬ gG G w = none) := gm_pos (fun v hv => by have := (hw.2.2.2.1 w v hv).2.1; have := hw.1; omega)
theorem ok_glue {t : Nat} {M : Mem} (ht : t < 512) (hI : Inv t M) (a1 : Int32) (a2 : Int32) (a3 : Int32) (a4 : Int32) : ∃ v w, fX5_glue a1 a2 a3 a4 M = some v ∧ fX6_glue a1 a2 a3 a4 v.2 = some w ∧ v.1 = w.1 ∧ Inv (t + 1) w.2 := by
  refine ok_of hI (fun G hw hg => ?_)
  have h16 := hw.1
  by_cases h1 : okx (gF G) a1 = true ∧ okx 4 a2 = true
  · by_cases h2 : okx (gF G) a3 = true ∧ okx 4 a4 = true
    · obtain ⟨a, d, ha, hd, rfl, rfl⟩ := way_t h16 h1
      obtain ⟨b, e, hb, he, rfl, rfl⟩ := way_t h16 h2
      have hl1 : 4 * a + d < 4 * gF G := by omega
      have hl2 : 4 * b + e < 4 * gF G := by omega
      have hm : ∀ {M1 : Mem}, RS 50 G M1 → ¬ (4 * a + d = 4 * b + e) → fX6_glue (nI a) (nI d) (nI b) (nI e) M1 = (if 0 < gm (gG G (4 * a + d)) then ((fX6_finds (-1000000005 : Int32) M1).bind fun w15 => some (w15.1, w15.2)) else (if gm (gG G (4 * b + e)) ≤ 0 then ((fX6_glues (nI (4 * a + d)) (nI (4 * b + e)) M1).bind fun w20 => some ((1 : Int32), w20)) else ((fX6_finds (-1000000005 : Int32) M1).bind fun w22 => some (w22.1, w22.2)))) := by
        intro M1 hs hne
        unfold fX6_glue
        rw [m_isWay hw hs, Option.bind_some, if_neg (b1 h1), m_isWay hw hs, Option.bind_some, if_neg (b1 h2), m_ix1, m_ix1, m_ix2, m_ix2, m_glued hs (by omega), m_glued hs (by omega), Option.bind_some, Option.bind_some]
        by_cases q : nI a = nI b
        · rw [if_pos q]
          have q' : a = b := (nI_eq (by omega) (by omega)).mp q
          rw [if_neg (fun z => hne (by have := (nI_eq (by omega) (by omega)).mp z; omega))]
        · rw [if_neg q]
      by_cases h3 : 4 * a + d = 4 * b + e
      · refine ⟨fnd 0, G, some 0, WG_t hw, o7 (by decide), csp_fin hw hg ?_, fun M1 hs => msp_fin hs ?_⟩
        · unfold fX5_glue
          rw [c_hasWay hw hg, if_neg (b1 h1), c_hasWay hw hg, if_neg (b1 h2), c_wayOf, c_wayOf, h3, if_pos rfl, tb0]
        · unfold fX6_glue
          have q1 : a = b := by omega
          have q2 : d = e := by omega
          subst q1; subst q2
          rw [m_isWay hw hs, Option.bind_some, if_neg (b1 h1), Option.bind_some, if_neg (b1 h1), if_pos rfl, if_pos rfl, mb0]
      · have hne : ¬ nI (4 * a + d) = nI (4 * b + e) := fun z => h3 ((nI_eq (by omega) (by omega)).mp z)
        by_cases h4 : gG G (4 * a + d) = none
        · by_cases h5 : gG G (4 * b + e) = none
          · refine ⟨1, gSetG G (gJoin (gG G) (4 * a + d) (4 * b + e)), none, WG_join (WG_t hw) hl1 hl2 h3 h4 h5, o0, ⟨_, ?_, RG_join hw hg, FC_tr (FC_set M _ _ (by omega) (by omega) (by omega)) (FC_set _ _ _ (by omega) (by omega) (by omega)), ?_⟩, fun M1 hs => ⟨_, ?_, RS_join h16 hs (w := 4 * a + d) (v := 4 * b + e) (by omega) (by omega), FM_tr (FM_set M1 _ _ (by omega) (by omega) (by omega)) (FM_set _ _ _ (by omega) (by omega) (by omega)), ?_⟩⟩
            · unfold fX5_glue
              rw [c_hasWay hw hg, if_neg (b1 h1), c_hasWay hw hg, if_neg (b1 h2), c_wayOf, c_wayOf, if_neg hne, c_isFree hw hg hl1, Option.bind_some, if_neg (b1 h4), c_isFree hw hg hl2, Option.bind_some, if_neg (b1 h5), c_join hw hg hl1 hl2]; rfl
            · rw [sI_c _ _ _ (by decide), sI_c _ _ _ (by decide)]; rfl
            · rw [hm hs h3, if_neg (fun z => (gm_le hw _).2.2.mp z h4), if_pos ((gm_le hw _).2.1.mpr h5), m_glues (by omega) (by omega)]; rfl
            · rw [sI_c _ _ _ (by decide), sI_c _ _ _ (by decide)]; rfl
          · refine ⟨fnd 4, G, some 4, WG_t hw, o7 (by decide), csp_fin hw hg ?_, fun M1 hs => msp_fin hs ?_⟩
            · unfold fX5_glue
              rw [c_hasWay hw hg, if_neg (b1 h1), c_hasWay hw hg, if_neg (b1 h2), c_wayOf, c_wayOf, if_neg hne, c_isFree hw hg hl1, Option.bind_some, if_neg (b1 h4), c_isFree hw hg hl2, Option.bind_some, if_pos (b0 h5), tb4]
            · rw [hm hs h3, if_neg (fun z => (gm_le hw _).2.2.mp z h4), if_neg (fun z => h5 ((gm_le hw _).2.1.mp z)), mb4]
        · refine ⟨fnd 4, G, some 4, WG_t hw, o7 (by decide), csp_fin hw hg ?_, fun M1 hs => msp_fin hs ?_⟩
          · unfold fX5_glue
            rw [c_hasWay hw hg, if_neg (b1 h1), c_hasWay hw hg, if_neg (b1 h2), c_wayOf, c_wayOf, if_neg hne, c_isFree hw hg hl1, Option.bind_some, if_pos (b0 h4), tb4]
          · rw [hm hs h3, if_pos ((gm_le hw _).2.2.mpr h4), mb4]
    · refine ⟨fnd 0, G, some 0, WG_t hw, o7 (by decide), csp_fin hw hg ?_, fun M1 hs => msp_fin hs ?_⟩
      · unfold fX5_glue; rw [c_hasWay hw hg, if_neg (b1 h1), c_hasWay hw hg, if_pos (b0 h2), tb0]
      · unfold fX6_glue; rw [m_isWay hw hs, Option.bind_some, if_neg (b1 h1), m_isWay hw hs, Option.bind_some, if_pos (b0 h2), mb0]
  · refine ⟨fnd 0, G, some 0, WG_t hw, o7 (by decide), csp_fin hw hg ?_, fun M1 hs => msp_fin hs ?_⟩
    · unfold fX5_glue; rw [c_hasWay hw hg, if_pos (b0 h1), tb0]
    · unfold fX6_glue; rw [m_isWay hw hs, Option.bind_some, if_pos (b0 h1), mb0]
theorem c_sever {B : Nat} {G : Gd} {M : Mem} (hw : WG B G) (hg : RG 1 G M) {w v : Nat} (h : gG G w = some v) : fX0_sever (nI w) M = some (setI (setI M 10 w (-1)) 10 v (-1)) := by
  have h16 := hw.1
  obtain ⟨c1, c2, c3, c4⟩ := hw.2.2.2.1 w v h
  unfold fX0_sever
  rw [c_gluedTo hw hg c1, Option.bind_some, h, if_neg (show ¬ gl (some v) = -1 from nI_m1 v (by omega)), stI_n (by omega) (by decide), Option.bind_some]
  show ((stI _ 10 64 (nI v) _).bind _) = _
  rw [stI_n (by omega) (by decide), Option.bind_some]
theorem RG_cut {B : Nat} {G : Gd} {M : Mem} (hw : WG B G) (hg : RG 1 G M) {w v : Nat} : RG 1 (gSetG G (gCut (gG G) w v)) (setI (setI M 10 w (-1)) 10 v (-1)) := by
  refine RG_glue hw _ hg (fun c q1 q2 => by rw [sI_c _ _ _ (by omega), sI_c _ _ _ (by omega)]) (fun x hx => ?_)
  rw [sI_if, sI_if]
  unfold gCut
  by_cases q1 : x = v
  · rw [if_pos ⟨rfl, q1⟩, if_pos q1]; rfl
  · rw [if_neg (fun z => q1 z.2), if_neg q1]
    by_cases q2 : x = w
    · rw [if_pos ⟨rfl, q2⟩, if_pos q2]; rfl
    · rw [if_neg (fun z => q2 z.2), if_neg q2]; exact hg.2.2.2.1 x hx
theorem m_cuts {B : Nat} {G : Gd} {M : Mem} (hw : WG B G) (hs : RS 50 G M) {w v : Nat} (h : gG G w = some v) : fX6_cuts (nI w) M = some (setI (setI M 50 (18 + v) 0) 50 (18 + w) 0) := by
  have h16 := hw.1
  obtain ⟨c1, c2, c3, c4⟩ := hw.2.2.2.1 w v h
  unfold fX6_cuts
  rw [m_ix3, m_glued hs (by omega), Option.bind_some, h]
  have e : ((18 : Int32) + gm (some v)) - 1 = nI (18 + v) := by
    show (nI 18 + nI (v + 1)) - 1 = _
    rw [nI_add]; exact nI_pred (18 + v)
  rw [e, stI_n (by omega) (by decide), Option.bind_some, stI_n (by omega) (by decide), Option.bind_some]
theorem RS_cut {G : Gd} {M : Mem} (h16 : gF G ≤ 16) (hs : RS 50 G M) {w v : Nat} (h1 : w < 64) (h2 : v < 64) : RS 50 (gSetG G (gCut (gG G) w v)) (setI (setI M 50 (18 + v) 0) 50 (18 + w) 0) := by
  refine RS_glue _ hs h16 (fun j hj => by rw [sI_j _ _ (by omega), sI_j _ _ (by omega)]) (fun x hx => ?_)
  rw [sI_if, sI_if]
  unfold gCut
  by_cases q2 : x = w
  · rw [if_pos ⟨rfl, by omega⟩]
    by_cases q1 : x = v
    · rw [if_pos q1]; rfl
    · rw [if_neg q1, if_pos q2]; rfl
  · rw [if_neg (fun z => q2 (by omega))]
    by_cases q1 : x = v
    · rw [if_pos ⟨rfl, by omega⟩, if_pos q1]; rfl
    · rw [if_neg (fun z => q1 (by omega)), if_neg q1, if_neg q2]; exact hs.2.2.2.1 x hx
theorem ok_cut {t : Nat} {M : Mem} (ht : t < 512) (hI : Inv t M) (a1 : Int32) (a2 : Int32) : ∃ v w, fX5_cut a1 a2 M = some v ∧ fX6_cut a1 a2 v.2 = some w ∧ v.1 = w.1 ∧ Inv (t + 1) w.2 := by
  refine ok_of hI (fun G hw hg => ?_)
  have h16 := hw.1
  by_cases h1 : okx (gF G) a1 = true ∧ okx 4 a2 = true
  · obtain ⟨a, d, ha, hd, rfl, rfl⟩ := way_t h16 h1
    have hl : 4 * a + d < 4 * gF G := by omega
    cases hgg : gG G (4 * a + d) with
    | none =>
      refine ⟨fnd 4, G, some 4, WG_t hw, o7 (by decide), csp_fin hw hg ?_, fun M1 hs => msp_fin hs ?_⟩
      · unfold fX5_cut
        rw [c_hasWay hw hg, if_neg (b1 h1), c_wayOf, c_gluedTo hw hg hl, Option.bind_some, hgg, if_pos (show gl none = -1 from rfl), tb4]
      · unfold fX6_cut
        rw [m_isWay hw hs, Option.bind_some, if_neg (b1 h1), m_ix1, m_glued hs (by omega), Option.bind_some, hgg, if_pos (show gm none = 0 from rfl), mb4]
    | some v =>
      have hv := (hw.2.2.2.1 _ v hgg).2.1
      refine ⟨nI v, gSetG G (gCut (gG G) (4 * a + d) v), none, WG_cut (WG_t hw) hgg, o0, ⟨_, ?_, RG_cut hw hg, FC_tr (FC_set M _ _ (by omega) (by omega) (by omega)) (FC_set _ _ _ (by omega) (by omega) (by omega)), ?_⟩, fun M1 hs => ⟨_, ?_, RS_cut h16 hs (w := 4 * a + d) (v := v) (by omega) (by omega), FM_tr (FM_set M1 _ _ (by omega) (by omega) (by omega)) (FM_set _ _ _ (by omega) (by omega) (by omega)), ?_⟩⟩
      · unfold fX5_cut
        rw [c_hasWay hw hg, if_neg (b1 h1), c_wayOf, c_gluedTo hw hg hl, Option.bind_some, hgg, if_neg (show ¬ gl (some v) = -1 from nI_m1 v (by omega)), c_sever hw hg hgg]; rfl
      · rw [sI_c _ _ _ (by decide), sI_c _ _ _ (by decide)]; rfl
      · unfold fX6_cut
        rw [m_isWay hw hs, Option.bind_some, if_neg (b1 h1), m_ix1, m_glued hs (by omega), Option.bind_some, hgg, if_neg (show ¬ gm (some v) = 0 from nI_ne0 (by omega) (by omega)), m_ix2, m_cuts hw hs hgg]
        show some (nI (v + 1) - 1, _) = _
        rw [nI_pred]
      · rw [sI_c _ _ _ (by decide), sI_c _ _ _ (by decide)]; rfl
  · refine ⟨fnd 0, G, some 0, WG_t hw, o7 (by decide), csp_fin hw hg ?_, fun M1 hs => msp_fin hs ?_⟩
    · unfold fX5_cut; rw [c_hasWay hw hg, if_pos (b0 h1), tb0]
    · unfold fX6_cut; rw [m_isWay hw hs, Option.bind_some, if_pos (b0 h1), mb0]
