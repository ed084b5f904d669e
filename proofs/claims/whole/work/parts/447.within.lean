/-! MATHS: within, parts -/
theorem c_rel4 {ρ : Type} {kx : Int32 → Option ρ} {B k : Nat} {G : Gd} {M : Mem} {d : Nat → Nat} (hw : WG B G) (hg : RG 1 G M) (hr : RD 33 16 d M) (hb : Bd d) (hk : k < 2 ^ 30) (m : Nat) : ∀ (i n a : Nat), a < 2 ^ 16 → i + m = gF G → m < n → ∃ b, fX5_reached_4 kx (nI k) M n (nI a) (nI i) = kx (nI b) ∧ b < 2 ^ 16 ∧ ∀ x, b.testBit x = true ↔ (a.testBit x = true ∨ (i ≤ x ∧ x < gF G ∧ d x ≤ k)) := by
  have h16 := hw.1
  induction m with
  | zero =>
    intro i n a ha e h
    obtain rfl : i = gF G := by omega
    obtain ⟨n, rfl⟩ : ∃ k, n = k + 1 := ⟨n - 1, by omega⟩
    refine ⟨a, by rw [fX5_reached_4, hg.1, if_pos (Int32.le_refl _)], ha, fun x => ⟨Or.inl, fun q => ?_⟩⟩
    rcases q with q | ⟨q1, q2, _⟩
    · exact q
    · omega
  | succ m ih =>
    intro i n a ha e h
    obtain ⟨n, rfl⟩ : ∃ k, n = k + 1 := ⟨n - 1, by omega⟩
    have hi : i < gF G := by omega
    have hd := hb i
    have hp : 2 ^ i < 2 ^ 16 := p2_lt (by omega)
    have hlt : nI k < nI (d i) ↔ k < d i := nI_ltI (by omega) (by omega)
    rw [fX5_reached_4, hg.1, if_neg (nI_ge hi (by omega)), ldI_n (by omega) (by decide), Option.bind_some, hr i (by omega), nI_1]
    by_cases q : k < d i
    · obtain ⟨b, k1, k2, k3⟩ := ih (i + 1) n a ha (by omega) (by omega)
      refine ⟨b, by rw [if_pos (hlt.mpr q)]; exact k1, k2, fun x => (k3 x).trans ⟨fun z => ?_, fun z => ?_⟩⟩
      · rcases z with z | ⟨z1, z2⟩
        · exact Or.inl z
        · exact Or.inr ⟨by omega, z2⟩
      · rcases z with z | ⟨z1, z2, z3⟩
        · exact Or.inl z
        · by_cases qx : x = i
          · rw [qx] at z3; omega
          · exact Or.inr ⟨by omega, z2, z3⟩
    · obtain ⟨b, k1, k2, k3⟩ := ih (i + 1) n (a ||| 2 ^ i) (Nat.or_lt_two_pow ha hp) (by omega) (by omega)
      refine ⟨b, by rw [if_neg (fun z => q (hlt.mp z)), ib_one i (by omega), ib_or (by omega) (by omega)]; exact k1, k2, fun x => (k3 x).trans ⟨fun z => ?_, fun z => ?_⟩⟩
      · rcases z with z | ⟨z1, z2⟩
        · rcases bit_or.mp z with z | z
          · exact Or.inl z
          · exact Or.inr ⟨by omega, by omega, by rw [← z]; omega⟩
        · exact Or.inr ⟨by omega, z2⟩
      · rcases z with z | ⟨z1, z2, z3⟩
        · exact Or.inl (bit_or.mpr (Or.inl z))
        · by_cases qx : x = i
          · exact Or.inl (bit_or.mpr (Or.inr qx.symm))
          · exact Or.inr ⟨by omega, z2, z3⟩
theorem c_reach {B f k : Nat} {G : Gd} {M : Mem} (hw : WG B G) (hg : RG 1 G M) (hf : f < gF G) (hr : RD 33 16 (df G f) M) (hk : k < 1000000) : ∃ b, fX5_reached (nI k) M = some (nI b) ∧ isSt G f k b := by
  have h16 := hw.1
  obtain ⟨b, e1, e2, e3⟩ := c_rel4 (kx := fun u5 => some u5) hw hg hr (fun x => df_le) (show k < 2 ^ 30 by omega) (gF G) 0 FU 0 (by decide) (Nat.zero_add _) (by unfold FU; omega)
  refine ⟨b, e1, e2, fun x => (e3 x).trans ⟨fun z => ?_, fun z => ?_⟩⟩
  · rcases z with z | ⟨_, _, z⟩
    · rw [Nat.zero_testBit] at z; exact absurd z (by decide)
    · exact ((df_wr hw).2 k hk).mp z
  · exact Or.inr ⟨Nat.zero_le _, wr_lt hw hf k x z, ((df_wr hw).2 k hk).mpr z⟩
theorem c_spr1 {B f : Nat} {G : Gd} {M : Mem} (hw : WG B G) (hg : RG 1 G M) (hf : f < gF G) : ∃ M', fX0_spread 33 (nI f) 0 M = some M' ∧ RD 33 16 (df G f) M' ∧ One 33 M M' := c_spread (cst := one1) al_33 (by decide) hw hg (cst_1 G) hf
theorem m_wil {ρ : Type} {kx : Int32 → Option ρ} {B f N : Nat} {G : Gd} {M : Mem} (hw : WG B G) (hs : RS 50 G M) (hN : N ≤ 16) (m : Nat) : ∀ (i n s : Nat), isSt G f i s → i + m = N → m < n → ∃ b, fX6_within_34 kx (nI N) M n (nI s) (nI i) = kx (nI b) ∧ isSt G f N b := by
  induction m with
  | zero =>
    intro i n s hst e h
    obtain rfl : i = N := by omega
    obtain ⟨n, rfl⟩ : ∃ k, n = k + 1 := ⟨n - 1, by omega⟩
    exact ⟨s, by rw [fX6_within_34, if_pos (Int32.le_refl _)], hst⟩
  | succ m ih =>
    intro i n s hst e h
    obtain ⟨n, rfl⟩ : ∃ k, n = k + 1 := ⟨n - 1, by omega⟩
    obtain ⟨b, e1, e2⟩ := m_spr hw hs hst
    obtain ⟨b', k1, k2⟩ := ih (i + 1) n b e2 (by omega) (by omega)
    exact ⟨b', by rw [fX6_within_34, if_neg (nI_ge (show i < N by omega) (by omega)), e1, Option.bind_some, nI_1]; exact k1, k2⟩
theorem ok_within {t : Nat} {M : Mem} (ht : t < 512) (hI : Inv t M) (a1 : Int32) (a2 : Int32) : ∃ v w, fX5_within a1 a2 M = some v ∧ fX6_within a1 a2 v.2 = some w ∧ v.1 = w.1 ∧ Inv (t + 1) w.2 := by
  refine ok_of hI (fun G hw hg => ?_)
  have h16 := hw.1
  have e0 : fX6_in a2.toInt64 0 16 = if okx 17 a2 = true then 1 else 0 := in_x a2 (n := 17) rfl
  by_cases h1 : okx (gF G) a1 = true
  · by_cases h2 : okx 17 a2 = true
    · obtain ⟨f, hf, rfl⟩ := okx_t (by omega) h1
      obtain ⟨N, hN, rfl⟩ := okx_t (by decide) h2
      obtain ⟨Ma, p1, r1, o1⟩ := c_spr1 hw hg hf
      have ga := RG_one hw hg o1 (by decide)
      obtain ⟨b, q1, q2⟩ := c_reach (k := N) hw ga hf r1 (by omega)
      refine ⟨fJ6_bitCount_0f7a4 (nI b), G, none, WG_t hw, o0, ⟨Ma, ?_, ga, FC_33 o1 (by decide) (by decide), o1.1 48 (by decide)⟩, fun M1 hs => msp_val hs ?_⟩
      · unfold fX5_within
        rw [c_hasField hw hg, if_neg (b1 h1), if_neg (nI_pos (by omega)), if_pos (show nI N ≤ (16 : Int32) from (nI_leI (b := 16) (by omega) (by decide)).mpr (by omega)), p1, Option.bind_some, q1]; rfl
      · obtain ⟨b', k1, k2⟩ := m_wil (kx := fun u10 => ((fX6_ones u10).bind fun v11 => some (v11, M1))) hw hs (show N ≤ 16 by omega) N 0 FU (2 ^ f) (st_0 (show f < 16 by omega)) (Nat.zero_add _) (by unfold FU; omega)
        have hbb : b' = b := set_eq k2.2 q2.2
        unfold fX6_within
        rw [m_isField hw hs, Option.bind_some, if_neg (b1 h1), e0, if_neg (b1 h2), ib_one f (by omega)]
        refine Eq.trans k1 ?_
        rw [m_ones, hbb]; rfl
    · refine ⟨fnd 0, G, some 0, WG_t hw, o7 (by decide), csp_fin hw hg ?_, fun M1 hs => msp_fin hs ?_⟩
      · unfold fX5_within
        rw [c_hasField hw hg, if_neg (b1 h1)]
        by_cases z : a2 < 0
        · rw [if_pos z, tb0]
        · rw [if_neg z, if_neg (fun z2 => ?_), tb0]
          obtain ⟨j, hj, rfl⟩ := nI_of z
          have := (nI_leI (b := 16) hj (by decide)).mp z2
          exact h2 (okx_tt (by omega) (by decide))
      · unfold fX6_within; rw [m_isField hw hs, Option.bind_some, if_neg (b1 h1), e0, if_pos (b0 h2), mb0]
  · refine ⟨fnd 0, G, some 0, WG_t hw, o7 (by decide), csp_fin hw hg ?_, fun M1 hs => msp_fin hs ?_⟩
    · unfold fX5_within; rw [c_hasField hw hg, if_pos (b0 h1), tb0]
    · unfold fX6_within; rw [m_isField hw hs, Option.bind_some, if_pos (b0 h1), mb0]
/-! parts -/
theorem wr_16 {B : Nat} {G : Gd} (hw : WG B G) {f x : Nat} : wr G f 999999 x ↔ wr G f 16 x := by
  have hd := df_wr hw (f := f) (x := x)
  refine ⟨fun h => ?_, fun h => wr_mono h (by decide)⟩
  have h1 := (hd.2 999999 (by decide)).mpr h
  rcases hd.1 with q | q
  · exact (hd.2 16 (by decide)).mp q
  · omega
theorem st_ex {B : Nat} {G : Gd} {M : Mem} (hw : WG B G) (hs : RS 50 G M) {f : Nat} (hf : f < 16) (k : Nat) : ∃ s, isSt G f k s := by
  induction k with
  | zero => exact ⟨_, st_0 hf⟩
  | succ k ih =>
    obtain ⟨s, h⟩ := ih
    obtain ⟨b, _, h2⟩ := m_spr hw hs h
    exact ⟨b, h2⟩
theorem m_p35 {ρ : Type} {kx : Int32 → Option ρ} {B f : Nat} {G : Gd} {M : Mem} {y1 y2 y3 : Int32} (hw : WG B G) (hs : RS 50 G M) (m : Nat) : ∀ (i n s : Nat), isSt G f i s → i + m = 16 → m < n → ∃ b, fX6_parts_35 kx y1 y2 y3 M n (nI s) (nI i) = kx (nI b) ∧ isSt G f 16 b := by
  induction m with
  | zero =>
    intro i n s hst e h
    obtain rfl : i = 16 := by omega
    obtain ⟨n, rfl⟩ : ∃ k, n = k + 1 := ⟨n - 1, by omega⟩
    exact ⟨s, by rw [fX6_parts_35, if_pos (by decide)], hst⟩
  | succ m ih =>
    intro i n s hst e h
    obtain ⟨n, rfl⟩ : ∃ k, n = k + 1 := ⟨n - 1, by omega⟩
    obtain ⟨b, e1, e2⟩ := m_spr hw hs hst
    obtain ⟨b', k1, k2⟩ := ih (i + 1) n b e2 (by omega) (by omega)
    exact ⟨b', by rw [fX6_parts_35, if_neg (show ¬ (16 : Int32) ≤ nI i from nI_ge (b := 16) (by omega) (by decide)), e1, Option.bind_some, nI_1]; exact k1, k2⟩
def prts (rs : Nat → Nat) : Nat → Nat → Nat → Nat → Nat
  | 0, _, _, c => c
  | m + 1, i, t, c => if t.testBit i = true then prts rs m (i + 1) t c else prts rs m (i + 1) (t ||| rs i) (c + 1)
theorem c_pal {ρ : Type} {kx : Int32 → Mem → Option ρ} {B : Nat} {G : Gd} {rs : Nat → Nat} (hw : WG B G) (hrs : ∀ f, f < gF G → isSt G f 16 (rs f)) (m : Nat) : ∀ (i n t c : Nat) (M : Mem), RG 1 G M → t < 2 ^ 16 → i + m = gF G → m < n → ∃ M', fX5_parts_6 kx n (nI t) (nI c) (nI i) M = kx (nI (prts rs m i t c)) M' ∧ One 33 M M' := by
  have h16 := hw.1
  induction m with
  | zero =>
    intro i n t c M hg ht e h
    obtain rfl : i = gF G := by omega
    obtain ⟨n, rfl⟩ : ∃ k, n = k + 1 := ⟨n - 1, by omega⟩
    exact ⟨M, by rw [fX5_parts_6, hg.1, if_pos (Int32.le_refl _)]; rfl, One_rf _ _⟩
  | succ m ih =>
    intro i n t c M hg ht e h
    obtain ⟨n, rfl⟩ : ∃ k, n = k + 1 := ⟨n - 1, by omega⟩
    have hi : i < gF G := by omega
    rw [fX5_parts_6, hg.1, if_neg (nI_ge hi (by omega)), i_bit (by omega) (by omega), nI_1]
    by_cases q : t.testBit i = true
    · obtain ⟨M', k1, k2⟩ := ih (i + 1) n t c M hg ht (by omega) (by omega)
      refine ⟨M', ?_, k2⟩
      have ez : prts rs (m + 1) i t c = prts rs m (i + 1) t c := if_pos q
      rw [ez, if_pos q, if_neg (by decide), Option.bind_some, nI_1]; exact k1
    · obtain ⟨M1, p1, r1, o1⟩ := c_spr1 hw hg hi
      have g1 := RG_one hw hg o1 (by decide)
      obtain ⟨b, q1, q2⟩ := c_reach (k := 999999) hw g1 hi r1 (by decide)
      have hb : b = rs i := set_eq q2.2 (fun x => ((hrs i hi).2 x).trans (wr_16 hw).symm)
      have hr2 := (hrs i hi).1
      obtain ⟨M', k1, k2⟩ := ih (i + 1) n (t ||| rs i) (c + 1) M1 g1 (Nat.or_lt_two_pow ht hr2) (by omega) (by omega)
      refine ⟨M', ?_, One_tr o1 k2⟩
      have ez : prts rs (m + 1) i t c = prts rs m (i + 1) (t ||| rs i) (c + 1) := if_neg q
      rw [ez, if_neg q, if_pos rfl, p1, Option.bind_some, show (999999 : Int32) = nI 999999 from rfl, q1, Option.bind_some, Option.bind_some, hb, ib_or (by omega) (by omega), nI_1]; exact k1
theorem m_pal {ρ : Type} {kx : Int32 → Option ρ} {B : Nat} {G : Gd} {M : Mem} {rs : Nat → Nat} (hw : WG B G) (hs : RS 50 G M) (hrs : ∀ f, f < gF G → isSt G f 16 (rs f)) (m : Nat) : ∀ (i n t c : Nat), t < 2 ^ 16 → i + m = gF G → m < n → fX6_parts_6 kx M n (nI c) (nI t) (nI i) = kx (nI (prts rs m i t c)) := by
  have h16 := hw.1
  induction m with
  | zero =>
    intro i n t c ht e h
    obtain rfl : i = gF G := by omega
    obtain ⟨n, rfl⟩ : ∃ k, n = k + 1 := ⟨n - 1, by omega⟩
    rw [fX6_parts_6, ld50_0, Option.bind_some, hs.1, if_pos (Int32.le_refl _)]; rfl
  | succ m ih =>
    intro i n t c ht e h
    obtain ⟨n, rfl⟩ : ∃ k, n = k + 1 := ⟨n - 1, by omega⟩
    have hi : i < gF G := by omega
    rw [fX6_parts_6, ld50_0, Option.bind_some, hs.1, if_neg (nI_ge hi (by omega)), i_bit (by omega) (by omega), nI_1, nI_1]
    by_cases q : t.testBit i = true
    · have ez : prts rs (m + 1) i t c = prts rs m (i + 1) t c := if_pos q
      rw [ez, if_pos q, if_neg (by decide), Option.bind_some]
      exact ih (i + 1) n t c ht (by omega) (by omega)
    · have hr2 := (hrs i hi).1
      obtain ⟨b, p1, p2⟩ := m_p35 (kx := fun u11 => some (nI (c + 1), (nI t ||| u11))) (y1 := nI (c + 1)) (y2 := nI t) (y3 := nI i) hw hs 16 0 FU (2 ^ i) (st_0 (show i < 16 by omega)) (by decide) (by decide)
      have hb : b = rs i := set_eq p2.2 (hrs i hi).2
      have ez : prts rs (m + 1) i t c = prts rs m (i + 1) (t ||| rs i) (c + 1) := if_neg q
      rw [ez, if_neg q, if_pos rfl, ib_one i (by omega), show (0 : Int32) = nI 0 from rfl, p1, Option.bind_some, hb, ib_or (by omega) (by omega)]
      exact ih (i + 1) n (t ||| rs i) (c + 1) (Nat.or_lt_two_pow ht hr2) (by omega) (by omega)
theorem Inv_fc {t : Nat} {M M' : Mem} (h : Inv t M) (o : One 33 M M') : Inv (t + 1) M' := by
  obtain ⟨hG, hK, hF, hT, hS⟩ := h
  exact ⟨GE_cg (GE_mono hG (by omega)) (fun c _ _ => o.1 c (by omega)) (o.1 50 (by decide)), KE_c (KE_mono hK (by omega)) (fun c _ => o.1 c (by omega)) (by rw [o.1 0 (by decide)]) (by rw [o.1 49 (by decide)]), FE_c hF (o.1 48 (by decide)) (o.1 54 (by decide)), TE_c hT (o.1 37 (by decide)) (o.1 56 (by decide)) (by rw [o.1 36 (by decide)]) (by rw [o.1 49 (by decide)]), SE_c hS (fun c q => ⟨o.1 c (by omega), by rw [o.2]⟩)⟩
theorem ok_parts {t : Nat} {M : Mem} (ht : t < 512) (hI : Inv t M) : ∃ v w, fX5_parts M = some v ∧ fX6_parts v.2 = some w ∧ v.1 = w ∧ Inv (t + 1) v.2 := by
  have hI' := hI
  obtain ⟨⟨G, hw, hg, hs⟩, hR⟩ := hI
  have h16 := hw.1
  have hex : ∀ f, ∃ s, f < gF G → isSt G f 16 s := fun f => by
    by_cases q : f < gF G
    · obtain ⟨s, h⟩ := st_ex hw hs (show f < 16 by omega) 16
      exact ⟨s, fun _ => h⟩
    · exact ⟨0, fun z => absurd z q⟩
  have hrs : ∀ f, f < gF G → isSt G f 16 (Classical.choose (hex f)) := fun f hf => Classical.choose_spec (hex f) hf
  obtain ⟨Ma, p1, o1⟩ := c_pal (kx := fun u10 M11 => some (u10, M11)) (rs := fun f => Classical.choose (hex f)) hw hrs (gF G) 0 FU 0 0 M hg (by decide) (Nat.zero_add _) (by unfold FU; omega)
  have s1 : RS 50 G Ma := RS_cg hs (o1.1 50 (by decide))
  exact ⟨(_, Ma), _, p1, m_pal (kx := fun u12 => some u12) (rs := fun f => Classical.choose (hex f)) hw s1 hrs (gF G) 0 FU 0 0 (by decide) (Nat.zero_add _) (by unfold FU; omega), rfl, Inv_fc hI' o1⟩
