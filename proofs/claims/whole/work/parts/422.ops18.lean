/-! MATHS: counting -/
theorem Inv_s {t : Nat} {M : Mem} (h : Inv t M) : Inv (t + 1) M := ⟨GE_mono h.1 (by omega), REST_mono h.2 (by omega)⟩
def cnt (G : Gd) : Nat → Nat → Int32 → Int32
  | 0, _, x => x
  | m + 1, i, x => cnt G m (i + 1) (if (gG G i).isSome = true then x + 1 else x)
theorem c_cnl {ρ : Type} {kx : Int32 → Option ρ} {B : Nat} {G : Gd} {M : Mem} (hw : WG B G) (hg : RG 1 G M) (m : Nat) : ∀ (i n : Nat) (x : Int32), i + m = 4 * gF G → m < n → fX0_gluedSides_4 kx M n x (nI i) = kx (cnt G m i x) := by
  have h16 := hw.1
  induction m with
  | zero =>
    intro i n x e h
    obtain rfl : i = 4 * gF G := by omega
    obtain ⟨n, rfl⟩ : ∃ k, n = k + 1 := ⟨n - 1, by omega⟩
    rw [fX0_gluedSides_4, c_ways hg, if_pos (Int32.le_refl _)]; rfl
  | succ m ih =>
    intro i n x e h
    obtain ⟨n, rfl⟩ : ∃ k, n = k + 1 := ⟨n - 1, by omega⟩
    rw [fX0_gluedSides_4, c_ways hg, if_neg (nI_ge (show i < 4 * gF G by omega) (by omega)), c_isFree hw hg (by omega), Option.bind_some, nI_1, ih (i + 1) n _ (by omega) (by omega), cnt]
    congr 2
    cases gG G i with
    | none => rfl
    | some v => rfl
theorem m_cnl {ρ : Type} {kx : Int32 → Option ρ} {B : Nat} {G : Gd} {M : Mem} (hw : WG B G) (hs : RS 50 G M) (m : Nat) : ∀ (i n : Nat) (x : Int32), i + m = 64 → m < n → fX6_gluedSides_4 kx M n x (nI i) = kx (cnt G (4 * gF G - i) i x) := by
  have h16 := hw.1
  induction m with
  | zero =>
    intro i n x e h
    obtain rfl : i = 64 := by omega
    obtain ⟨n, rfl⟩ : ∃ k, n = k + 1 := ⟨n - 1, by omega⟩
    rw [fX6_gluedSides_4, if_pos (by decide), show 4 * gF G - 64 = 0 by omega]; rfl
  | succ m ih =>
    intro i n x e h
    obtain ⟨n, rfl⟩ : ∃ k, n = k + 1 := ⟨n - 1, by omega⟩
    rw [fX6_gluedSides_4, if_neg (show ¬ (64 : Int32) ≤ nI i from nI_ge (b := 64) (by omega) (by decide)), m_ix3, m_glued hs (by omega), Option.bind_some, nI_1, ih (i + 1) n _ (by omega) (by omega)]
    cases hh : gG G i with
    | none =>
      rw [if_pos (show gm none ≤ 0 by decide), Int32.add_zero]
      by_cases q : i < 4 * gF G
      · rw [show 4 * gF G - i = 4 * gF G - (i + 1) + 1 by omega, cnt, hh]; rfl
      · rw [show 4 * gF G - i = 0 by omega, show 4 * gF G - (i + 1) = 0 by omega]; rfl
    | some v =>
      have hv := hw.2.2.2.1 _ v hh
      rw [if_neg (fun q => by have := (gm_pos (o := some v) (fun u e => by cases e; omega)).2.1.mp q; cases this), show 4 * gF G - i = 4 * gF G - (i + 1) + 1 by omega, cnt, hh]; rfl
theorem ok_count {t : Nat} {M : Mem} (ht : t < 512) (hI : Inv t M) (a1 : Int32) : ∃ v w, fX5_count a1 M = some v ∧ fX6_count a1 v.2 = some w ∧ v.1 = w.1 ∧ Inv (t + 1) w.2 := by
  by_cases h2 : a1 = 2
  · obtain ⟨n, k1, k2, k3, k4⟩ := hI.2.2.2.1
    subst h2
    refine ⟨(M.1 36 0, M), (M.1 49 8, M), rfl, rfl, k2.trans k3.symm, Inv_s hI⟩
  · refine ok_of hI (fun G hw hg => ?_)
    have h16 := hw.1
    have h6 := hw.2.1
    by_cases h0 : a1 = 0
    · subst h0
      refine ⟨nI (gF G), G, none, WG_t hw, o0, csp_val hg ?_, fun M1 hs => msp_val hs ?_⟩
      · unfold fX5_count; rw [if_pos rfl, hg.1]
      · unfold fX6_count; rw [if_pos rfl, ld50_0, Option.bind_some, hs.1]
    · by_cases h1 : a1 = 1
      · subst h1
        refine ⟨nI (gW G), G, none, WG_t hw, o0, csp_val hg ?_, fun M1 hs => msp_val hs ?_⟩
        · unfold fX5_count; rw [if_neg h0, if_pos rfl, hg.2.1]
        · unfold fX6_count; rw [if_neg h0, if_pos rfl, ld50_1, Option.bind_some, hs.2.1]
      · by_cases h3 : a1 = 3
        · subst h3
          refine ⟨cnt G (4 * gF G) 0 0, G, none, WG_t hw, o0, csp_val hg ?_, fun M1 hs => msp_val hs ?_⟩
          · unfold fX5_count fX0_gluedSides; rw [if_neg h0, if_neg h1, if_neg h2, if_pos rfl, show (0 : Int32) = nI 0 from rfl, c_cnl hw hg (4 * gF G) 0 FU _ (Nat.zero_add _) (by unfold FU; omega)]; rfl
          · unfold fX6_count fX6_gluedSides; rw [if_neg h0, if_neg h1, if_neg h2, if_pos rfl, show (0 : Int32) = nI 0 from rfl, m_cnl hw hs 64 0 FU _ (by decide) (by decide)]; rfl
        · by_cases h4 : a1 = 4
          · subst h4
            refine ⟨smN G (gW G) 0 0, G, none, WG_t hw, o0, csp_val hg ?_, fun M1 hs => msp_val hs ?_⟩
            · unfold fX5_count fX0_milesOfAll; rw [if_neg h0, if_neg h1, if_neg h2, if_neg h3, if_pos rfl, show (0 : Int32) = nI 0 from rfl, c_sml hg h6 (gW G) 0 FU _ (Nat.zero_add _) (by unfold FU; omega)]; rfl
            · unfold fX6_count fX6_allMiles; rw [if_neg h0, if_neg h1, if_neg h2, if_neg h3, if_pos rfl, show (0 : Int32) = nI 0 from rfl, m_sml hs h6 (gW G) 0 FU _ (Nat.zero_add _) (by unfold FU; omega)]; rfl
          · refine ⟨fnd 0, G, some 0, WG_t hw, o7 (by decide), csp_fin hw hg ?_, fun M1 hs => msp_fin hs ?_⟩
            · unfold fX5_count; rw [if_neg h0, if_neg h1, if_neg h2, if_neg h3, if_neg h4, tb0]
            · unfold fX6_count; rw [if_neg h0, if_neg h1, if_neg h2, if_neg h3, if_neg h4, mb0]
