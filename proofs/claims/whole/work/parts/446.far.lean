/-! MATHS: how far, by fields -/
def wr (G : Gd) (f : Nat) : Nat → Nat → Prop
  | 0, x => x = f
  | k + 1, x => wr G f k x ∨ ∃ w u, gG G w = some u ∧ u / 4 = x ∧ wr G f k (w / 4)
theorem wr_mono {G : Gd} {f a b x : Nat} (h : wr G f a x) (hb : a ≤ b) : wr G f b x := by
  induction b with
  | zero => obtain rfl : a = 0 := by omega
            exact h
  | succ b ih =>
    by_cases q : a = b + 1
    · rw [← q]; exact h
    · exact Or.inl (ih (by omega))
theorem wr_lt {B : Nat} {G : Gd} (hw : WG B G) {f : Nat} (hf : f < gF G) (k : Nat) : ∀ x, wr G f k x → x < gF G := by
  induction k with
  | zero => intro x h; rw [show x = f from h]; exact hf
  | succ k ih =>
    intro x h
    rcases h with h | ⟨w, u, e, hx, _⟩
    · exact ih x h
    · have := (hw.2.2.2.1 w u e).2.1; omega
def one1 : Nat → Nat := fun _ => 1
def df (G : Gd) (f : Nat) : Nat → Nat := itR (eF G one1) (4 * gF G) 16 (ini f)
theorem ini_f (f : Nat) : ini f f = 0 := va_up_self _ _ _
theorem ini_n {f x : Nat} (h : x ≠ f) : ini f x = 1000000 := va_up_ne _ _ h
theorem inF {G : Gd} {N : Nat} {e : Ed} (h : inE (eF G one1) N e) : ∃ w u, w < N ∧ gG G w = some u ∧ e = (w / 4, u / 4, 1) := by
  obtain ⟨w, hw, he⟩ := h
  cases ho : gG G w with
  | none => rw [eF_n (on1_n ho)] at he; cases he
  | some u =>
    rw [eF_s (on1_s ho), trn_4] at he
    exact ⟨w, u, hw, ho, by rw [List.mem_singleton.mp he]; rfl⟩
theorem PP_wr {G : Gd} {f N : Nat} (k : Nat) : ∀ x v, PP (inE (eF G one1) N) (ini f) k x v → 1000000 ≤ v ∨ (wr G f v x ∧ v ≤ k) := by
  induction k with
  | zero =>
    intro x v h
    have h : v = ini f x := h
    by_cases q : x = f
    · rw [q, ini_f] at h; subst h; exact Or.inr ⟨q, Nat.le_refl _⟩
    · rw [ini_n q] at h; exact Or.inl (by omega)
  | succ k ih =>
    intro x v h
    rcases h with h | ⟨e, he, ht, u, hu, hv⟩
    · rcases ih x v h with h | ⟨h1, h2⟩
      · exact Or.inl h
      · exact Or.inr ⟨h1, by omega⟩
    · obtain ⟨w, y, _, hy, rfl⟩ := inF he
      have hv : v = u + 1 := hv
      have ht : y / 4 = x := ht
      rcases ih (w / 4) u hu with h | ⟨h1, h2⟩
      · exact Or.inl (by omega)
      · rw [hv]; exact Or.inr ⟨Or.inr ⟨w, y, hy, ht, h1⟩, by omega⟩
theorem wr_PP {B : Nat} {G : Gd} (hw : WG B G) {f : Nat} (k : Nat) : ∀ x, wr G f k x → ∃ v, v ≤ k ∧ PP (inE (eF G one1) (4 * gF G)) (ini f) k x v := by
  induction k with
  | zero => intro x h; exact ⟨0, Nat.le_refl _, by rw [show x = f from h]; exact (ini_f f).symm⟩
  | succ k ih =>
    intro x h
    rcases h with h | ⟨w, u, e, hx, h⟩
    · obtain ⟨v, h1, h2⟩ := ih x h
      exact ⟨v, by omega, Or.inl h2⟩
    · obtain ⟨v, h1, h2⟩ := ih (w / 4) h
      refine ⟨v + 1, by omega, Or.inr ⟨(w / 4, u / 4, 1), ⟨w, (hw.2.2.2.1 w u e).1, ?_⟩, hx, v, h2, rfl⟩⟩
      rw [eF_s (on1_s e), trn_4]; exact List.mem_singleton.mpr rfl
theorem df_wr {B : Nat} {G : Gd} (hw : WG B G) {f x : Nat} : (df G f x ≤ 16 ∨ df G f x = 1000000) ∧ ∀ k, k < 1000000 → (df G f x ≤ k ↔ wr G f k x) := by
  have h16 := hw.1
  have hE : ∀ e, inE (eF G one1) (4 * gF G) e → e.1 < gF G := fun e he => by
    obtain ⟨w, u, h1, _, rfl⟩ := inF he
    show w / 4 < gF G; omega
  obtain ⟨⟨j, hj, h1⟩, h2⟩ := itR_least (d0 := ini f) hE h16 x
  have hb := Bd_it (Bd_ini f) (eF G one1) (4 * gF G) 16 x
  have h3 := PP_wr j x _ h1
  refine ⟨?_, fun k hk => ⟨fun h => ?_, fun h => ?_⟩⟩
  · rcases h3 with h3 | h3
    · exact Or.inr (Nat.le_antisymm hb h3)
    · exact Or.inl (Nat.le_trans h3.2 (by omega))
  · rcases h3 with h3 | h3
    · have h : itR (eF G one1) (4 * gF G) 16 (ini f) x ≤ k := h
      omega
    · exact wr_mono h3.1 h
  · obtain ⟨v, h4, h5⟩ := wr_PP hw k x h
    exact Nat.le_trans (h2 k v h5) h4
theorem df_le {G : Gd} {f x : Nat} : df G f x ≤ 1000000 := Bd_it (Bd_ini f) (eF G one1) (4 * gF G) 16 x
/-! sets of fields -/
theorem sh5 : ∀ f, f < 31 → ((nI f &&& 31).toBitVec.smod 32).toNat = f := by decide +kernel
theorem i_bit {s f : Nat} (hs : s < 2 ^ 31) (hf : f < 31) : (nI s >>> (nI f &&& 31)) &&& 1 = if s.testBit f = true then 1 else 0 := by
  have hd : s / 2 ^ f ≤ s := Nat.div_le_self _ _
  rw [pk_shrN hs _ f (sh5 f hf), pk_andN (by omega) 1 (by decide), Nat.testBit_eq_decide_div_mod_eq]
  by_cases q : s / 2 ^ f % 2 = 1
  · rw [if_pos (decide_eq_true q), Nat.pow_one, q]; rfl
  · rw [if_neg (fun z => q (of_decide_eq_true z)), Nat.pow_one, show s / 2 ^ f % 2 = 0 by omega]; rfl
theorem set_eq {a b : Nat} {p : Nat → Prop} (ha : ∀ x, a.testBit x = true ↔ p x) (hb : ∀ x, b.testBit x = true ↔ p x) : a = b := by
  apply Nat.eq_of_testBit_eq
  intro i
  have h := (ha i).trans (hb i).symm
  cases h1 : a.testBit i with
  | true => exact (h.mp h1).symm
  | false =>
    cases h2 : b.testBit i with
    | true => rw [h.mpr h2] at h1; cases h1
    | false => rfl
theorem bit_or {a y x : Nat} : (a ||| 2 ^ y).testBit x = true ↔ (a.testBit x = true ∨ y = x) := by
  rw [Nat.testBit_or, Nat.testBit_two_pow, Bool.or_eq_true, decide_eq_true_iff]
theorem m_sp4' {ρ : Type} {kx : Int32 → Option ρ} {B s : Nat} {G : Gd} {M : Mem} (hw : WG B G) (hs : RS 50 G M) (hs2 : s < 2 ^ 16) (m : Nat) : ∀ (i n a : Nat), a < 2 ^ 16 → i + m = 4 * gF G → m < n → ∃ b, fX6_spread_4 kx (nI s) M n (nI a) (nI i) = kx (nI b) ∧ b < 2 ^ 16 ∧ ∀ x, b.testBit x = true ↔ (a.testBit x = true ∨ ∃ w u, i ≤ w ∧ gG G w = some u ∧ u / 4 = x ∧ s.testBit (w / 4) = true) := by
  have h16 := hw.1
  have e4 : (4 : Int32) * nI (gF G) = nI (4 * gF G) := pk_mul 4 (gF G)
  induction m with
  | zero =>
    intro i n a ha e h
    obtain rfl : i = 4 * gF G := by omega
    obtain ⟨n, rfl⟩ : ∃ k, n = k + 1 := ⟨n - 1, by omega⟩
    refine ⟨a, by rw [fX6_spread_4, ld50_0, Option.bind_some, hs.1, e4, if_pos (Int32.le_refl _)], ha, fun x => ⟨Or.inl, fun q => ?_⟩⟩
    rcases q with q | ⟨w, u, h1, h2, _⟩
    · exact q
    · have := (hw.2.2.2.1 w u h2).1; omega
  | succ m ih =>
    intro i n a ha e h
    obtain ⟨n, rfl⟩ : ∃ k, n = k + 1 := ⟨n - 1, by omega⟩
    have hl : i < 4 * gF G := by omega
    rw [fX6_spread_4, ld50_0, Option.bind_some, hs.1, e4, if_neg (nI_ge hl (by omega)), div4 (by omega), i_bit (by omega) (by omega), m_ix3, m_glued hs (by omega), Option.bind_some, Option.bind_some, nI_1]
    by_cases hb : s.testBit (i / 4) = true
    · rw [if_pos hb, if_pos rfl]
      cases ho : gG G i with
      | none =>
        obtain ⟨b, k1, k2, k3⟩ := ih (i + 1) n a ha (by omega) (by omega)
        refine ⟨b, by rw [if_pos (show gm none ≤ 0 by decide), Option.bind_some, Int32.or_zero]; exact k1, k2, fun x => (k3 x).trans ⟨fun q => ?_, fun q => ?_⟩⟩
        · rcases q with q | ⟨w, u, h1, h2⟩
          · exact Or.inl q
          · exact Or.inr ⟨w, u, by omega, h2⟩
        · rcases q with q | ⟨w, u, h1, h2, h3⟩
          · exact Or.inl q
          · by_cases qw : w = i
            · rw [qw, ho] at h2; cases h2
            · exact Or.inr ⟨w, u, by omega, h2, h3⟩
      | some y =>
        have hy := (hw.2.2.2.1 i y ho).2.1
        have ha2 : a ||| 2 ^ (y / 4) < 2 ^ 16 := Nat.or_lt_two_pow ha (p2_lt (by omega))
        obtain ⟨b, k1, k2, k3⟩ := ih (i + 1) n (a ||| 2 ^ (y / 4)) ha2 (by omega) (by omega)
        have hp : 2 ^ (y / 4) < 2 ^ 16 := p2_lt (by omega)
        refine ⟨b, ?_, k2, fun x => (k3 x).trans ⟨fun q => ?_, fun q => ?_⟩⟩
        · rw [show gm (some y) = nI (y + 1) from rfl, if_neg (nI_nle (by omega) (by omega)), nI_pred, div4 (by omega), ib_one _ (by omega), Option.bind_some, ib_or (by omega) (by omega)]
          exact k1
        · rcases q with q | ⟨w, u, h1, h2⟩
          · rcases bit_or.mp q with q | q
            · exact Or.inl q
            · exact Or.inr ⟨i, y, Nat.le_refl _, ho, q, hb⟩
          · exact Or.inr ⟨w, u, by omega, h2⟩
        · rcases q with q | ⟨w, u, h1, h2, h3, h4⟩
          · exact Or.inl (bit_or.mpr (Or.inl q))
          · by_cases qw : w = i
            · rw [qw, ho] at h2
              cases h2
              exact Or.inl (bit_or.mpr (Or.inr h3))
            · exact Or.inr ⟨w, u, by omega, h2, h3, h4⟩
    · obtain ⟨b, k1, k2, k3⟩ := ih (i + 1) n a ha (by omega) (by omega)
      refine ⟨b, by rw [if_neg hb, if_neg (by decide), Option.bind_some, Int32.or_zero]; exact k1, k2, fun x => (k3 x).trans ⟨fun q => ?_, fun q => ?_⟩⟩
      · rcases q with q | ⟨w, u, h1, h2⟩
        · exact Or.inl q
        · exact Or.inr ⟨w, u, by omega, h2⟩
      · rcases q with q | ⟨w, u, h1, h2, h3, h4⟩
        · exact Or.inl q
        · by_cases qw : w = i
          · rw [qw] at h4; exact absurd h4 hb
          · exact Or.inr ⟨w, u, by omega, h2, h3, h4⟩
def isSt (G : Gd) (f k s : Nat) : Prop := s < 2 ^ 16 ∧ ∀ x, s.testBit x = true ↔ wr G f k x
theorem m_spr {B f k s : Nat} {G : Gd} {M : Mem} (hw : WG B G) (hs : RS 50 G M) (h : isSt G f k s) : ∃ b, fX6_spread (nI s) M = some (nI b) ∧ isSt G f (k + 1) b := by
  have h16 := hw.1
  obtain ⟨b, e1, e2, e3⟩ := m_sp4' (kx := fun u13 => some u13) hw hs h.1 (4 * gF G) 0 FU s h.1 (Nat.zero_add _) (by unfold FU; omega)
  refine ⟨b, e1, e2, fun x => (e3 x).trans ⟨fun q => ?_, fun q => ?_⟩⟩
  · rcases q with q | ⟨w, u, _, h2, h3, h4⟩
    · exact Or.inl ((h.2 x).mp q)
    · exact Or.inr ⟨w, u, h2, h3, (h.2 _).mp h4⟩
  · rcases q with q | ⟨w, u, h2, h3, h4⟩
    · exact Or.inl ((h.2 x).mpr q)
    · exact Or.inr ⟨w, u, Nat.zero_le _, h2, h3, (h.2 _).mpr h4⟩
theorem st_0 {G : Gd} {f : Nat} (hf : f < 16) : isSt G f 0 (2 ^ f) := by
  refine ⟨p2_lt hf, fun x => ?_⟩
  rw [Nat.testBit_two_pow, decide_eq_true_iff]
  exact ⟨fun q => q.symm, fun q => Eq.symm q⟩
theorem m_fal {B f g : Nat} {G : Gd} {M : Mem} (hw : WG B G) (hs : RS 50 G M) (hg : g < gF G) (m : Nat) : ∀ (i n s : Nat), isSt G f i s → (∀ j, j < i → ¬ wr G f j g) → i + m = 17 → m < n → fX6_farOf_7 (some (1000000 : Int32)) (nI g) M n (nI s) (nI i) = some (nI (df G f g)) := by
  have h16 := hw.1
  have hd := df_wr hw (f := f) (x := g)
  induction m with
  | zero =>
    intro i n s hst hn e h
    obtain rfl : i = 17 := by omega
    obtain ⟨n, rfl⟩ : ∃ k, n = k + 1 := ⟨n - 1, by omega⟩
    rw [fX6_farOf_7, if_pos (by decide)]
    rcases hd.1 with q | q
    · exact absurd ((hd.2 16 (by decide)).mp q) (hn 16 (by decide))
    · rw [q]; rfl
  | succ m ih =>
    intro i n s hst hn e h
    obtain ⟨n, rfl⟩ : ∃ k, n = k + 1 := ⟨n - 1, by omega⟩
    rw [fX6_farOf_7, if_neg (show ¬ (16 : Int32) < nI i from nI_nlt (a := 16) (by omega) (by decide)), i_bit (Nat.lt_trans hst.1 (by decide)) (by omega)]
    by_cases q : s.testBit g = true
    · rw [if_pos q, if_pos rfl]
      have h1 := (hd.2 i (by omega)).mpr ((hst.2 g).mp q)
      have h2 : ¬ df G f g < i := fun z => hn _ z ((hd.2 _ (by omega)).mp (Nat.le_refl _))
      rw [show df G f g = i by omega]
    · obtain ⟨b, e1, e2⟩ := m_spr hw hs hst
      rw [if_neg q, if_neg (by decide), e1, Option.bind_some, nI_1]
      refine ih (i + 1) n b e2 (fun j hj => ?_) (by omega) (by omega)
      by_cases qj : j < i
      · exact hn j qj
      · obtain rfl : j = i := by omega
        exact fun z => q ((hst.2 g).mpr z)
theorem m_far {B f g : Nat} {G : Gd} {M : Mem} (hw : WG B G) (hs : RS 50 G M) (hf : f < gF G) (hg : g < gF G) : fX6_farOf (nI f) (nI g) M = some (nI (df G f g)) := by
  have h16 := hw.1
  unfold fX6_farOf
  rw [ib_one f (by omega)]
  exact m_fal hw hs hg 17 0 FU (2 ^ f) (st_0 (by omega)) (fun j hj => absurd hj (Nat.not_lt_zero _)) (by decide) (by decide)
theorem ok_far {t : Nat} {M : Mem} (ht : t < 512) (hI : Inv t M) (a1 : Int32) (a2 : Int32) : ∃ v w, fX5_far a1 a2 M = some v ∧ fX6_far a1 a2 v.2 = some w ∧ v.1 = w.1 ∧ Inv (t + 1) w.2 := by
  refine ok_of hI (fun G hw hg => ?_)
  have h16 := hw.1
  by_cases h1 : okx (gF G) a1 = true ∧ okx (gF G) a2 = true
  · obtain ⟨f, hf, rfl⟩ := okx_t (by omega) h1.1
    obtain ⟨g, hg2, rfl⟩ := okx_t (by omega) h1.2
    obtain ⟨Ma, r1, o1, e1⟩ := c_least (cst := one1) hw hg (cst_1 G) hf hg2
    have ga := RG_one hw hg o1 (by decide)
    have fa := FC_33 o1 (by decide) (by decide)
    have b8 : Ma.1 48 = M.1 48 := o1.1 48 (by decide)
    have e1 : fX5_least (nI f) (nI g) 0 M = if df G f g = 1000000 then some (fnd 3, tellM 3 Ma) else some (nI (df G f g), Ma) := e1
    have hml : ∀ M1, RS 50 G M1 → fX6_far (nI f) (nI g) M1 = if df G f g = 1000000 then some (fnd 3, findM 3 M1) else some (nI (df G f g), M1) := by
      intro M1 hs
      unfold fX6_far
      rw [m_isField hw hs, Option.bind_some, if_neg (b1 h1.1), m_isField hw hs, Option.bind_some, if_neg (b1 h1.2), m_far hw hs hf hg2, Option.bind_some, m_orN df_le]
    by_cases hz : df G f g = 1000000
    · rw [if_pos hz] at e1
      refine ⟨fnd 3, G, some 3, WG_t hw, o7 (by decide), csp_fin' hw ga fa b8 (by unfold fX5_far; rw [e1]; rfl), fun M1 hs => msp_fin hs ?_⟩
      rw [hml M1 hs, if_pos hz]
    · rw [if_neg hz] at e1
      refine ⟨nI (df G f g), G, none, WG_t hw, o0, ⟨Ma, by unfold fX5_far; rw [e1]; rfl, ga, fa, b8⟩, fun M1 hs => msp_val hs ?_⟩
      rw [hml M1 hs, if_neg hz]
  · refine ⟨fnd 0, G, some 0, WG_t hw, o7 (by decide), csp_fin hw hg ?_, fun M1 hs => msp_fin hs ?_⟩
    · unfold fX5_far; rw [least_b hw hg h1]; rfl
    · unfold fX6_far
      rw [m_isField hw hs, Option.bind_some, m_isField hw hs]
      by_cases q : okx (gF G) a1 = true
      · rw [if_neg (b1 q), Option.bind_some, if_pos (b0 (fun w => h1 ⟨q, w⟩)), mb0]
      · rw [if_pos (b0 q), mb0]
