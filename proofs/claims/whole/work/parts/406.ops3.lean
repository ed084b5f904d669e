/-! MATHS: a new field -/
theorem af_step {ρ : Type} {kx : Mem → Option ρ} {F d n : Nat} {M : Mem} (hd : d < 4) (hF : F < 16) : fX0_addField_25 kx (nI F) (n + 1) (nI d) M = fX0_addField_25 kx (nI F) n (nI (d + 1)) (setI M 10 (4 * F + d) (-1)) := by
  rw [fX0_addField_25, if_neg (show ¬ (4 : Int32) ≤ nI d from nI_ge hd (by decide)), c_wayOf, stI_n (by omega) (by decide), Option.bind_some, nI_1]
theorem af_end {ρ : Type} {kx : Mem → Option ρ} {y : Int32} {n : Nat} {M : Mem} : fX0_addField_25 kx y (n + 1) (nI 4) M = kx M := by
  rw [fX0_addField_25, if_pos (by decide)]
def afM (M : Mem) (F a : Nat) : Mem := setI (setI (setI (setI (setI M 9 F (nI a)) 10 (4 * F + 0) (-1)) 10 (4 * F + 1) (-1)) 10 (4 * F + 2) (-1)) 10 (4 * F + 3) (-1)
theorem c_addField {B : Nat} {G : Gd} {M : Mem} (hw : WG B G) (hg : RG 1 G M) (hF : gF G < 16) (a : Nat) : fX0_addField (nI a) M = some (nI (gF G), setI (afM M (gF G) a) 1 0 (nI (gF G + 1))) := by
  unfold fX0_addField
  rw [hg.1, if_pos (show nI (gF G) < (16 : Int32) from nI_lt (b := 16) hF (by decide)), stI_n (by omega) (by decide), Option.bind_some]
  show fX0_addField_25 _ _ (995 + 1 + 1 + 1 + 1 + 1) (nI 0) _ = _
  rw [af_step (by decide) hF, af_step (by decide) hF, af_step (by decide) hF, af_step (by decide) hF, af_end]
  have e : (afM M (gF G) a).1 1 0 = nI (gF G) := by
    unfold afM
    rw [sI_c _ _ _ (by decide), sI_c _ _ _ (by decide), sI_c _ _ _ (by decide), sI_c _ _ _ (by decide), sI_c _ _ _ (by decide)]; exact hg.1
  show some (nI (gF G), setI (afM M (gF G) a) 1 0 ((afM M (gF G) a).1 1 0 + 1)) = _
  rw [e, nI_1]
theorem gnone {B : Nat} {G : Gd} (hw : WG B G) {w : Nat} (h : 4 * gF G ≤ w) : gG G w = none := by
  cases hg : gG G w with
  | none => rfl
  | some v => have := (hw.2.2.2.1 w v hg).1; omega
theorem RG_field {B : Nat} {G : Gd} {M : Mem} (hw : WG B G) (hg : RG 1 G M) (hF : gF G < 16) (a : Nat) : RG 1 (gSetF G (gF G + 1) (va_up (gR G) (gF G) a)) (setI (afM M (gF G) a) 1 0 (nI (gF G + 1))) := by
  obtain ⟨g1, g2, g3, g4, g5⟩ := hg
  have e : ∀ c, c ≠ 1 → c ≠ 9 → c ≠ 10 → (setI (afM M (gF G) a) 1 0 (nI (gF G + 1))).1 c = M.1 c := fun c q1 q2 q3 => by
    unfold afM
    rw [sI_c _ _ _ q1, sI_c _ _ _ q3, sI_c _ _ _ q3, sI_c _ _ _ q3, sI_c _ _ _ q3, sI_c _ _ _ q2]
  refine ⟨sI_s _ _ _ _, ?_, fun f hf => ?_, fun w hl => ?_, fun k hk => ?_⟩
  · rw [sI_j _ _ (by decide)]
    unfold afM
    rw [sI_c _ _ _ (by decide), sI_c _ _ _ (by decide), sI_c _ _ _ (by decide), sI_c _ _ _ (by decide), sI_c _ _ _ (by decide)]; exact g2
  · have hf : f < gF G + 1 := hf
    show (setI (afM M (gF G) a) 1 0 (nI (gF G + 1))).1 9 f = nI (va_up (gR G) (gF G) a f)
    unfold afM
    rw [sI_c _ _ _ (by decide), sI_c _ _ _ (by decide), sI_c _ _ _ (by decide), sI_c _ _ _ (by decide), sI_c _ _ _ (by decide), sI_if]
    unfold va_up
    by_cases q : f = gF G
    · rw [if_pos ⟨rfl, q⟩, if_pos q]
    · rw [if_neg (fun z => q z.2), if_neg q]; exact g3 f (by omega)
  · have hl : w < 4 * (gF G + 1) := hl
    show (setI (afM M (gF G) a) 1 0 (nI (gF G + 1))).1 10 w = gl (gG G w)
    unfold afM
    rw [sI_c _ _ _ (by decide), sI_if, sI_if, sI_if, sI_if, sI_c _ _ _ (by decide)]
    by_cases q : w < 4 * gF G
    · rw [if_neg (by omega), if_neg (by omega), if_neg (by omega), if_neg (by omega)]; exact g4 w q
    · rw [gnone hw (by omega)]
      rcases (show w = 4 * gF G + 0 ∨ w = 4 * gF G + 1 ∨ w = 4 * gF G + 2 ∨ w = 4 * gF G + 3 by omega) with q | q | q | q
      · rw [if_neg (by omega), if_neg (by omega), if_neg (by omega), if_pos ⟨rfl, q⟩]; rfl
      · rw [if_neg (by omega), if_neg (by omega), if_pos ⟨rfl, q⟩]; rfl
      · rw [if_neg (by omega), if_pos ⟨rfl, q⟩]; rfl
      · rw [if_pos ⟨rfl, q⟩]; rfl
  · have := hw.2.1
    have hk' : k < gW G := hk
    unfold RW; rw [e _ (by omega) (by omega) (by omega)]; exact g5 k hk
theorem m_adds {G : Gd} {M : Mem} (hs : RS 50 G M) (hF : gF G < 16) (a : Nat) : fX6_adds (nI a) M = some (nI (gF G), setI (setI M 50 (2 + gF G) (nI a)) 50 0 (nI (gF G + 1))) := by
  unfold fX6_adds
  rw [ld50_0, Option.bind_some, hs.1, m_ix4, stI_n (by omega) (by decide), Option.bind_some, ld50_0, Option.bind_some, sI_j _ _ (by omega), hs.1, nI_1]
  rw [show (0 : Int32) = nI 0 from rfl, stI_n (by decide) (by decide), Option.bind_some, ldI_n (by decide) (by decide), Option.bind_some, sI_s, nI_pred]
theorem RS_field {G : Gd} {M : Mem} (hs : RS 50 G M) (hF : gF G < 16) (a : Nat) : RS 50 (gSetF G (gF G + 1) (va_up (gR G) (gF G) a)) (setI (setI M 50 (2 + gF G) (nI a)) 50 0 (nI (gF G + 1))) := by
  obtain ⟨g1, g2, g3, g4, g5⟩ := hs
  refine ⟨sI_s _ _ _ _, by rw [sI_j _ _ (by omega), sI_j _ _ (by omega)]; exact g2, fun f hf => ?_, fun w hw => by rw [sI_j _ _ (by omega), sI_j _ _ (by omega)]; exact g4 w hw, fun k hk => ?_⟩
  · have hf : f < gF G + 1 := hf
    show (setI (setI M 50 (2 + gF G) (nI a)) 50 0 (nI (gF G + 1))).1 50 (2 + f) = nI (va_up (gR G) (gF G) a f)
    rw [sI_j _ _ (by omega), sI_if]
    unfold va_up
    by_cases q : f = gF G
    · rw [if_pos ⟨rfl, by omega⟩, if_pos q]
    · rw [if_neg (fun z => q (by omega)), if_neg q]; exact g3 f (by omega)
  · obtain ⟨k1, k2, k3, k4, k5⟩ := g5 k hk
    exact ⟨by rw [sI_j _ _ (by omega), sI_j _ _ (by omega)]; exact k1, by rw [sI_j _ _ (by omega), sI_j _ _ (by omega)]; exact k2, by rw [sI_j _ _ (by omega), sI_j _ _ (by omega)]; exact k3, by rw [sI_j _ _ (by omega), sI_j _ _ (by omega)]; exact k4, by rw [sI_j _ _ (by omega), sI_j _ _ (by omega)]; exact k5⟩
theorem WG_field {B : Nat} {G : Gd} (hw : WG B G) (hF : gF G < 16) {a : Nat} (ha : a < 10) : WG B (gSetF G (gF G + 1) (va_up (gR G) (gF G) a)) := by
  refine ⟨hF, hw.2.1, fun f hf => ?_, fun w v hv => ?_, fun k hk => ?_⟩
  · have hf : f < gF G + 1 := hf
    show va_up (gR G) (gF G) a f ≤ 9
    unfold va_up
    split
    · omega
    · exact hw.2.2.1 f (by omega)
  · obtain ⟨k1, k2, k3, k4⟩ := hw.2.2.2.1 w v hv
    exact ⟨Nat.lt_of_lt_of_le k1 (show 4 * gF G ≤ 4 * (gF G + 1) by omega), Nat.lt_of_lt_of_le k2 (show 4 * gF G ≤ 4 * (gF G + 1) by omega), k3, k4⟩
  · obtain ⟨k1, k2, k3, k4⟩ := hw.2.2.2.2 k hk
    exact ⟨k1, Nat.lt_of_lt_of_le k2 (show 4 * gF G ≤ 4 * (gF G + 1) by omega), k3, k4⟩
theorem ok_field {t : Nat} {M : Mem} (ht : t < 512) (hI : Inv t M) (a1 : Int32) : ∃ v w, fX5_field a1 M = some v ∧ fX6_field a1 v.2 = some w ∧ v.1 = w.1 ∧ Inv (t + 1) w.2 := by
  refine ok_of hI (fun G hw hg => ?_)
  have h16 := hw.1
  by_cases h1 : okx 10 a1 = true
  · obtain ⟨a, ha, rfl⟩ := okx_t (by decide) h1
    by_cases hF : gF G < 16
    · refine ⟨nI (gF G), gSetF G (gF G + 1) (va_up (gR G) (gF G) a), none, WG_field (WG_t hw) hF ha, o0, ⟨_, ?_, RG_field hw hg hF a, ?_, ?_⟩, fun M1 hs => ⟨_, ?_, RS_field hs hF a, FM_tr (FM_set M1 _ _ (by omega) (by omega) (by omega)) (FM_set _ _ _ (by omega) (by omega) (by omega)), ?_⟩⟩
      · unfold fX5_field
        rw [c_isRough, if_neg (b1 h1), hg.1, if_pos (show nI (gF G) < (16 : Int32) from nI_lt (b := 16) hF (by decide)), c_addField hw hg hF]; rfl
      · unfold afM
        exact FC_tr (FC_tr (FC_tr (FC_tr (FC_tr (FC_set M _ _ (by omega) (by omega) (by omega)) (FC_set _ _ _ (by omega) (by omega) (by omega))) (FC_set _ _ _ (by omega) (by omega) (by omega))) (FC_set _ _ _ (by omega) (by omega) (by omega))) (FC_set _ _ _ (by omega) (by omega) (by omega))) (FC_set _ _ _ (by omega) (by omega) (by omega))
      · unfold afM
        rw [sI_c _ _ _ (by decide), sI_c _ _ _ (by decide), sI_c _ _ _ (by decide), sI_c _ _ _ (by decide), sI_c _ _ _ (by decide), sI_c _ _ _ (by decide)]; rfl
      · unfold fX6_field
        rw [in_x (nI a) (n := 10) rfl, if_neg (b1 h1), ld50_0, Option.bind_some, hs.1, if_neg (show ¬ nI (gF G) = (16 : Int32) from fun q => by have := (nI_eq (b := 16) (by omega) (by decide)).mp q; omega), m_adds hs hF]; rfl
      · rw [sI_c _ _ _ (by decide), sI_c _ _ _ (by decide)]; rfl
    · have hF : gF G = 16 := by omega
      refine ⟨fnd 1, G, some 1, WG_t hw, o7 (by decide), csp_fin hw hg ?_, fun M1 hs => msp_fin hs ?_⟩
      · unfold fX5_field
        rw [c_isRough, if_neg (b1 h1), hg.1, hF, if_neg (by decide), tb1]
      · unfold fX6_field
        rw [in_x (nI a) (n := 10) rfl, if_neg (b1 h1), ld50_0, Option.bind_some, hs.1, hF, if_pos (by decide), mb1]
  · refine ⟨fnd 0, G, some 0, WG_t hw, o7 (by decide), csp_fin hw hg ?_, fun M1 hs => msp_fin hs ?_⟩
    · unfold fX5_field; rw [c_isRough, if_pos (b0 h1), tb0]
    · unfold fX6_field; rw [in_x a1 (n := 10) rfl, if_pos (b0 h1), mb0]
