/-! MATHS: what a field and a walker are asked -/
theorem or0 (x : Int32) : x ||| (0 : Int32) = x := Int32.or_zero
def orl (p : Nat → Bool) : Nat → Nat → Int32 → Int32
  | 0, _, x => x
  | m + 1, i, x => orl p m (i + 1) (if p i = true then x ||| ((1 : Int32) <<< (nI i &&& 31)) else x)
theorem c_gsl {ρ : Type} {kx : Int32 → Option ρ} {B : Nat} {G : Gd} {M : Mem} (hw : WG B G) (hg : RG 1 G M) {a : Nat} (ha : a < gF G) (m : Nat) : ∀ (i n : Nat) (x : Int32), m + i = 4 → m < n → fX0_gluedSidesOf_4 kx (nI a) M n x (nI i) = kx (orl (fun d => (gG G (4 * a + d)).isSome) m i x) := by
  induction m with
  | zero =>
    intro i n x e h
    obtain rfl : i = 4 := by omega
    obtain ⟨n, rfl⟩ : ∃ k, n = k + 1 := ⟨n - 1, by omega⟩
    rw [fX0_gluedSidesOf_4, if_pos (by decide)]; rfl
  | succ m ih =>
    intro i n x e h
    obtain ⟨n, rfl⟩ : ∃ k, n = k + 1 := ⟨n - 1, by omega⟩
    rw [fX0_gluedSidesOf_4, if_neg (show ¬ (4 : Int32) ≤ nI i from nI_ge (b := 4) (show i < 4 by omega) (by decide)), c_wayOf, c_isFree hw hg (by omega), Option.bind_some, nI_1, ih (i + 1) n _ (by omega) (by omega), orl]
    congr 2
    cases gG G (4 * a + i) with
    | none => rfl
    | some v => rfl
theorem m_gol {ρ : Type} {kx : Int32 → Option ρ} {B : Nat} {G : Gd} {M : Mem} (hw : WG B G) (hs : RS 50 G M) {a : Nat} (ha : a < gF G) (m : Nat) : ∀ (i n : Nat) (x : Int32), m + i = 4 → m < n → fX6_gluedOf_4 kx (nI a) M n x (nI i) = kx (orl (fun d => (gG G (4 * a + d)).isSome) m i x) := by
  have h16 := hw.1
  induction m with
  | zero =>
    intro i n x e h
    obtain rfl : i = 4 := by omega
    obtain ⟨n, rfl⟩ : ∃ k, n = k + 1 := ⟨n - 1, by omega⟩
    rw [fX6_gluedOf_4, if_pos (by decide)]; rfl
  | succ m ih =>
    intro i n x e h
    obtain ⟨n, rfl⟩ : ∃ k, n = k + 1 := ⟨n - 1, by omega⟩
    rw [fX6_gluedOf_4, if_neg (show ¬ (4 : Int32) ≤ nI i from nI_ge (b := 4) (show i < 4 by omega) (by decide)), m_ix1, m_glued hs (by omega), Option.bind_some, nI_1, ih (i + 1) n _ (by omega) (by omega), orl]
    congr 2
    cases hh : gG G (4 * a + i) with
    | none => rw [if_pos (show gm none ≤ 0 by decide), or0]; rfl
    | some v =>
      have hv := hw.2.2.2.1 _ v hh
      rw [if_neg (fun q => by have := (gm_pos (o := some v) (fun u e => by cases e; omega)).2.1.mp q; cases this)]; rfl
theorem c_wol {ρ : Type} {kx : Int32 → Option ρ} {B : Nat} {G : Gd} {M : Mem} (hw : WG B G) (hg : RG 1 G M) {a : Nat} (ha : a < gF G) (m : Nat) : ∀ (i n : Nat) (x : Int32), m + i = gW G → m < n → fX0_walkersOn_4 kx (nI a) M n x (nI i) = kx (orl (fun k => decide ((gK G k).2.1 / 4 = a)) m i x) := by
  have h16 := hw.1
  have h6 := hw.2.1
  induction m with
  | zero =>
    intro i n x e h
    obtain rfl : i = gW G := by omega
    obtain ⟨n, rfl⟩ : ∃ k, n = k + 1 := ⟨n - 1, by omega⟩
    rw [fX0_walkersOn_4, hg.2.1, if_pos (Int32.le_refl _)]; rfl
  | succ m ih =>
    intro i n x e h
    obtain ⟨n, rfl⟩ : ∃ k, n = k + 1 := ⟨n - 1, by omega⟩
    have c2 : M.1 (1 + 2 + i) 1 = nI (gK G i).2.1 := (hg.2.2.2.2 i (by omega)).2.1
    have w2 := (hw.2.2.2.2 i (by omega)).2.1
    rw [fX0_walkersOn_4, hg.2.1, if_neg (nI_ge (show i < gW G by omega) (by omega)), ldW_n (by omega), Option.bind_some, c2, c_fieldOf (by omega), nI_1, ih (i + 1) n _ (by omega) (by omega), orl]
    congr 2
    by_cases q : (gK G i).2.1 / 4 = a
    · rw [if_pos (by rw [q]), if_pos (decide_eq_true q)]
    · rw [if_neg (fun z => q ((nI_eq (by omega) (by omega)).mp z)), if_neg (fun z => q (of_decide_eq_true z))]
theorem m_thl {ρ : Type} {kx : Int32 → Option ρ} {B : Nat} {G : Gd} {M : Mem} (hw : WG B G) (hs : RS 50 G M) {a : Nat} (ha : a < gF G) (m : Nat) : ∀ (i n : Nat) (x : Int32), m + i = gW G → m < n → fX6_those_4 kx (nI a) M n x (nI i) = kx (orl (fun k => decide ((gK G k).2.1 / 4 = a)) m i x) := by
  have h16 := hw.1
  have h6 := hw.2.1
  induction m with
  | zero =>
    intro i n x e h
    obtain rfl : i = gW G := by omega
    obtain ⟨n, rfl⟩ : ∃ k, n = k + 1 := ⟨n - 1, by omega⟩
    rw [fX6_those_4, ld50_1, Option.bind_some, hs.2.1, if_pos (Int32.le_refl _)]; rfl
  | succ m ih =>
    intro i n x e h
    obtain ⟨n, rfl⟩ : ∃ k, n = k + 1 := ⟨n - 1, by omega⟩
    have s2 := (hs.2.2.2.2 i (by omega)).2.1
    have w2 := (hw.2.2.2.2 i (by omega)).2.1
    rw [fX6_those_4, ld50_1, Option.bind_some, hs.2.1, if_neg (nI_ge (show i < gW G by omega) (by omega)), m_part1 (by omega), Option.bind_some, s2, nI_1, ih (i + 1) n _ (by omega) (by omega), orl]
    congr 2
    by_cases q : (gK G i).2.1 / 4 = a
    · rw [if_pos (by rw [q]), if_pos (decide_eq_true q)]
    · rw [if_neg (fun z => q ((nI_eq (by omega) (by omega)).mp z)), if_neg (fun z => q (of_decide_eq_true z)), or0]
theorem ok_of_ {t : Nat} {M : Mem} (ht : t < 512) (hI : Inv t M) (a1 : Int32) (a2 : Int32) : ∃ v w, fX5_of a1 a2 M = some v ∧ fX6_of a1 a2 v.2 = some w ∧ v.1 = w.1 ∧ Inv (t + 1) w.2 := by
  refine ok_of hI (fun G hw hg => ?_)
  have h16 := hw.1
  have h6 := hw.2.1
  by_cases h1 : okx (gF G) a1 = true
  · have e3 : fX6_in a2.toInt64 0 2 = if okx 3 a2 = true then 1 else 0 := in_x a2 (n := 3) rfl
    by_cases h2 : okx 3 a2 = true
    · obtain ⟨a, ha, rfl⟩ := okx_t (by omega) h1
      obtain ⟨j, hj, rfl⟩ := okx_t (by decide) h2
      obtain rfl | rfl | rfl : j = 0 ∨ j = 1 ∨ j = 2 := by omega
      · refine ⟨nI (gR G a), G, none, WG_t hw, o0, csp_val hg ?_, fun M1 hs => msp_val hs ?_⟩
        · unfold fX5_of; rw [c_hasField hw hg, if_neg (b1 h1), if_pos (by decide), c_roughOf hw hg ha]; rfl
        · unfold fX6_of; rw [m_isField hw hs, Option.bind_some, if_neg (b1 h1), e3, if_neg (b1 h2), if_pos (by decide), m_ix4, ldI_n (by omega) (by decide), hs.2.2.1 a ha]; rfl
      · refine ⟨orl (fun d => (gG G (4 * a + d)).isSome) 4 0 0, G, none, WG_t hw, o0, csp_val hg ?_, fun M1 hs => msp_val hs ?_⟩
        · unfold fX5_of fX0_gluedSidesOf; rw [c_hasField hw hg, if_neg (b1 h1), if_neg (by decide), if_pos (by decide), show (0 : Int32) = nI 0 from rfl, c_gsl hw hg ha 4 0 FU _ rfl (by decide)]; rfl
        · unfold fX6_of fX6_gluedOf; rw [m_isField hw hs, Option.bind_some, if_neg (b1 h1), e3, if_neg (b1 h2), if_neg (by decide), if_pos (by decide), show (0 : Int32) = nI 0 from rfl, m_gol hw hs ha 4 0 FU _ rfl (by decide)]; rfl
      · refine ⟨orl (fun k => decide ((gK G k).2.1 / 4 = a)) (gW G) 0 0, G, none, WG_t hw, o0, csp_val hg ?_, fun M1 hs => msp_val hs ?_⟩
        · unfold fX5_of fX0_walkersOn; rw [c_hasField hw hg, if_neg (b1 h1), if_neg (by decide), if_neg (by decide), if_pos (by decide), show (0 : Int32) = nI 0 from rfl, c_wol hw hg ha (gW G) 0 FU _ rfl (by unfold FU; omega)]; rfl
        · unfold fX6_of fX6_those; rw [m_isField hw hs, Option.bind_some, if_neg (b1 h1), e3, if_neg (b1 h2), if_neg (by decide), if_neg (by decide), show (0 : Int32) = nI 0 from rfl, m_thl hw hs ha (gW G) 0 FU _ rfl (by unfold FU; omega)]; rfl
    · refine ⟨fnd 0, G, some 0, WG_t hw, o7 (by decide), csp_fin hw hg ?_, fun M1 hs => msp_fin hs ?_⟩
      · unfold fX5_of; rw [c_hasField hw hg, if_neg (b1 h1), if_neg (fun q => h2 (by rw [q]; decide)), if_neg (fun q => h2 (by rw [q]; decide)), if_neg (fun q => h2 (by rw [q]; decide)), tb0]
      · unfold fX6_of; rw [m_isField hw hs, Option.bind_some, if_neg (b1 h1), e3, if_pos (b0 h2), mb0]
  · refine ⟨fnd 0, G, some 0, WG_t hw, o7 (by decide), csp_fin hw hg ?_, fun M1 hs => msp_fin hs ?_⟩
    · unfold fX5_of; rw [c_hasField hw hg, if_pos (b0 h1), tb0]
    · unfold fX6_of; rw [m_isField hw hs, Option.bind_some, if_pos (b0 h1), mb0]
