/-! MATHS: all walkers walk -/
def Rg (lo hi : Nat) (M M' : Mem) : Prop := (∀ a, ¬ (lo ≤ a ∧ a ≤ hi) → M'.1 a = M.1 a) ∧ M'.2 = M.2
theorem Rg_rf (lo hi : Nat) (M : Mem) : Rg lo hi M M := ⟨fun _ _ => rfl, rfl⟩
theorem Rg_tr {lo hi : Nat} {M M1 M2 : Mem} (h : Rg lo hi M M1) (k : Rg lo hi M1 M2) : Rg lo hi M M2 := ⟨fun a ha => (k.1 a ha).trans (h.1 a ha), k.2.trans h.2⟩
theorem Rg_one {lo hi c : Nat} {M M' : Mem} (h : One c M M') (h1 : lo ≤ c) (h2 : c ≤ hi) : Rg lo hi M M' := ⟨fun a ha => h.1 a (fun q => ha (q ▸ ⟨h1, h2⟩)), h.2⟩
theorem FC_rg {lo hi : Nat} {M M' : Mem} (h : Rg lo hi M M') (hc : ∀ c, (11 ≤ c ∧ c ≤ 20) ∨ c = 37 ∨ (40 ≤ c ∧ c ≤ 47) ∨ 49 ≤ c ∨ c = 0 ∨ c = 36 → ¬ (lo ≤ c ∧ c ≤ hi)) : FC M M' :=
  ⟨fun a ha => ⟨h.1 a (hc a (by omega)), by rw [h.2]⟩, by rw [h.1 0 (hc 0 (by omega))], by rw [h.1 36 (hc 36 (by omega))]⟩
def gTo (G : Gd) (i m : Nat) : Gd := gSetK G (gW G) (fun k => if k < i then mvn G m (gK G k) else gK G k)
theorem mvn_to (G : Gd) (i a m : Nat) : ∀ u, mvn (gTo G i a) m u = mvn G m u := by
  induction m with
  | zero => intro u; rfl
  | succ m ih => intro u; exact ih (mv1 G u)
theorem gTo_at (G : Gd) (i m : Nat) : gK (gTo G i m) i = gK G i := if_neg (Nat.lt_irrefl _)
theorem gTo_put (G : Gd) (i m : Nat) : gPut (gTo G i m) i (mvn G m (gK G i)) = gTo G (i + 1) m := by
  have e : va_up (gK (gTo G i m)) i (mvn G m (gK G i)) = fun k => if k < i + 1 then mvn G m (gK G k) else gK G k := by
    funext k
    show (if k = i then mvn G m (gK G i) else if k < i then mvn G m (gK G k) else gK G k) = _
    by_cases q : k = i
    · rw [if_pos q, if_pos (by omega), q]
    · rw [if_neg q]
      by_cases q2 : k < i
      · rw [if_pos q2, if_pos (by omega)]
      · rw [if_neg q2, if_neg (by omega)]
  show gSetK G (gW G) (va_up (gK (gTo G i m)) i (mvn G m (gK G i))) = _
  rw [e]; rfl
theorem gTo_0 (G : Gd) (m : Nat) : gTo G 0 m = G := by
  have e : (fun k => if k < 0 then mvn G m (gK G k) else gK G k) = gK G := by funext k; exact if_neg (Nat.not_lt_zero k)
  unfold gTo; rw [e]; rfl
theorem gTo_z (G : Gd) (i : Nat) : gTo G i 0 = G := by
  have e : (fun k => if k < i then mvn G 0 (gK G k) else gK G k) = gK G := by funext k; split <;> rfl
  unfold gTo; rw [e]; rfl
theorem gTo_to (G : Gd) (m : Nat) : gTo (gTo G (gW G) m) (gW G) 1 = gTo G (gW G) (m + 1) := by
  have e : (fun k => if k < gW G then mvn (gTo G (gW G) m) 1 (gK (gTo G (gW G) m) k) else gK (gTo G (gW G) m) k) = fun k => if k < gW G then mvn G (m + 1) (gK G k) else gK G k := by
    funext k
    by_cases q : k < gW G
    · rw [if_pos q, if_pos q, mvn_to]
      show mv1 G (if k < gW G then mvn G m (gK G k) else gK G k) = _
      rw [if_pos q, mvn_s]
    · rw [if_neg q, if_neg q]; exact if_neg q
  show gSetK G (gW G) (fun k => if k < gW G then mvn (gTo G (gW G) m) 1 (gK (gTo G (gW G) m) k) else gK (gTo G (gW G) m) k) = _
  rw [e]; rfl
theorem WG_to {B : Nat} {G : Gd} (hw : WG B G) (i m : Nat) : WG (B + 13 * m) (gTo G i m) := by
  refine ⟨hw.1, hw.2.1, hw.2.2.1, hw.2.2.2.1, fun k hk => ?_⟩
  have hk : k < gW G := hk
  have hu : okw B G (gK G k) := hw.2.2.2.2 k hk
  show okw (B + 13 * m) G (if k < i then mvn G m (gK G k) else gK G k)
  split
  · exact okw_mvn hw m hu
  · exact okw_mono hu (by omega)
theorem c_own {ρ : Type} {kx : Mem → Option ρ} {k : Nat} (m : Nat) : ∀ (i n B N : Nat) (M : Mem) (G : Gd), WG B G → RG 1 G M → k < gW G → B + 13 * m < 2 ^ 28 → i + m = N → N < 2 ^ 31 → m < n → ∃ M', fX4_moveOften_2 kx (3 + k) (nI N) n (nI i) M = kx M' ∧ RG 1 (gPut G k (mvn G m (gK G k))) M' ∧ One (3 + k) M M' := by
  induction m with
  | zero =>
    intro i n B N M G hw hg hk hB e hN h
    obtain rfl : i = N := by omega
    obtain ⟨n, rfl⟩ : ∃ k, n = k + 1 := ⟨n - 1, by omega⟩
    exact ⟨M, by rw [fX4_moveOften_2, if_pos (Int32.le_refl _)], by show RG 1 (gPut G k (gK G k)) M; rw [gPut_self]; exact hg, One_rf _ _⟩
  | succ m ih =>
    intro i n B N M G hw hg hk hB e hN h
    obtain ⟨n, rfl⟩ : ∃ k, n = k + 1 := ⟨n - 1, by omega⟩
    obtain ⟨M1, e1, r1, o1⟩ := c_move (c := 3 + k) hw hg (show B < 2 ^ 28 by omega) (hw.2.2.2.2 k hk) (show RW (3 + k) _ M from by have := hg.2.2.2.2 k hk; exact this)
    have hw1 : WG (B + 13) (gPut G k (mv1 G (gK G k))) := WG_put (WG_mono hw (by omega)) (okw_mv hw (hw.2.2.2.2 k hk))
    obtain ⟨M', e2, r2, o2⟩ := ih (i + 1) n (B + 13) N M1 _ hw1 (RG_put hw hg hk o1 r1) hk (by omega) (by omega) hN (by omega)
    rw [gPut_at, mvn_put, gPut_put] at r2
    exact ⟨M', by rw [fX4_moveOften_2, if_neg (nI_ge (show i < N by omega) hN), e1, Option.bind_some, nI_1, e2], r2, One_tr o1 o2⟩
theorem c_stl {ρ : Type} {kx : Mem → Option ρ} {B N : Nat} {G : Gd} (hw : WG B G) (hB : B + 26 * N < 2 ^ 28) (hN : N < 500) (m : Nat) : ∀ (i n : Nat) (M : Mem), RG 1 (gTo G i N) M → i + m = gW G → m < n → ∃ M', fX5_steps_20 kx (nI N) n (nI i) M = kx M' ∧ RG 1 (gTo G (gW G) N) M' ∧ Rg 3 8 M M' := by
  have h6 := hw.2.1
  induction m with
  | zero =>
    intro i n M hg e h
    obtain rfl : i = gW G := by omega
    obtain ⟨n, rfl⟩ : ∃ k, n = k + 1 := ⟨n - 1, by omega⟩
    exact ⟨M, by rw [fX5_steps_20, show M.1 1 1 = nI (gW G) from hg.2.1, if_pos (Int32.le_refl (nI (gW G)))], hg, Rg_rf _ _ _⟩
  | succ m ih =>
    intro i n M hg e h
    obtain ⟨n, rfl⟩ : ∃ k, n = k + 1 := ⟨n - 1, by omega⟩
    obtain ⟨M1, e1, r1, o1⟩ := c_own (kx := fun M4 => some M4) (k := i) N 0 FU (B + 13 * N) N M _ (WG_to hw i N) hg (show i < gW G by omega) (by omega) (by omega) (by omega) (by unfold FU; omega)
    rw [gTo_at, mvn_to, gTo_put] at r1
    obtain ⟨M', e2, r2, o2⟩ := ih (i + 1) n M1 r1 (by omega) (by omega)
    refine ⟨M', ?_, r2, Rg_tr (Rg_one o1 (by omega) (by omega)) o2⟩
    rw [fX5_steps_20, show M.1 1 1 = nI (gW G) from hg.2.1, if_neg (show ¬ nI (gW G) ≤ nI i from nI_ge (by omega) (by omega)), ldW_n (by omega), Option.bind_some]
    show ((fX4_moveOften_2 _ (3 + i) (nI N) FU (nI 0) M).bind _) = _
    rw [e1, Option.bind_some, nI_1, e2]
theorem m_all {ρ : Type} {kx : Mem → Option ρ} {B : Nat} {G : Gd} (hw : WG B G) (hB : B + 13 < 2 ^ 28) (m : Nat) : ∀ (i n : Nat) (M : Mem), RS 50 (gTo G i 1) M → i + m = gW G → m < n → ∃ M', fX6_all_2 kx n (nI i) M = kx M' ∧ RS 50 (gTo G (gW G) 1) M' ∧ One 50 M M' := by
  have h6 := hw.2.1
  induction m with
  | zero =>
    intro i n M hs e h
    obtain rfl : i = gW G := by omega
    obtain ⟨n, rfl⟩ : ∃ k, n = k + 1 := ⟨n - 1, by omega⟩
    exact ⟨M, by rw [fX6_all_2, ld50_1, Option.bind_some, show M.1 50 1 = nI (gW G) from hs.2.1, if_pos (Int32.le_refl (nI (gW G)))], hs, One_rf _ _⟩
  | succ m ih =>
    intro i n M hs e h
    obtain ⟨n, rfl⟩ : ∃ k, n = k + 1 := ⟨n - 1, by omega⟩
    obtain ⟨M1, e1, r1, o1⟩ := m_goes (k := i) (WG_to hw i 1) (by omega) hs (show i < gW G by omega)
    rw [gTo_at, show mv1 (gTo G i 1) (gK G i) = mvn G 1 (gK G i) from rfl, gTo_put] at r1
    obtain ⟨M', e2, r2, o2⟩ := ih (i + 1) n M1 r1 (by omega) (by omega)
    refine ⟨M', ?_, r2, One_tr o1 o2⟩
    rw [fX6_all_2, ld50_1, Option.bind_some, show M.1 50 1 = nI (gW G) from hs.2.1, if_neg (show ¬ nI (gW G) ≤ nI i from nI_ge (by omega) (by omega)), e1, Option.bind_some, nI_1, e2]
theorem m_alls {B : Nat} {G : Gd} {M : Mem} (hw : WG B G) (m : Nat) (hB : B + 13 * m + 13 < 2 ^ 28) (hs : RS 50 (gTo G (gW G) m) M) : ∃ M', fX6_all M = some M' ∧ RS 50 (gTo G (gW G) (m + 1)) M' ∧ One 50 M M' := by
  have h6 := hw.2.1
  obtain ⟨M', e1, r1, o1⟩ := m_all (kx := fun M6 => some M6) (WG_to hw (gW G) m) hB (gW G) 0 FU M (by rw [gTo_0]; exact hs) (Nat.zero_add _) (by unfold FU; omega)
  have r1 : RS 50 (gTo (gTo G (gW G) m) (gW G) 1) M' := r1
  rw [gTo_to] at r1
  exact ⟨M', e1, r1, o1⟩
theorem m_stl {ρ : Type} {kx : Mem → Option ρ} {B N : Nat} {G : Gd} (hw : WG B G) (hB : B + 13 * N + 13 < 2 ^ 28) (hN : N < 500) (m : Nat) : ∀ (i n : Nat) (M : Mem), RS 50 (gTo G (gW G) i) M → i + m = N → m < n → ∃ M', fX6_steps_21 kx (nI N) n (nI i) M = kx M' ∧ RS 50 (gTo G (gW G) N) M' ∧ One 50 M M' := by
  induction m with
  | zero =>
    intro i n M hs e h
    obtain rfl : i = N := by omega
    obtain ⟨n, rfl⟩ : ∃ k, n = k + 1 := ⟨n - 1, by omega⟩
    exact ⟨M, by rw [fX6_steps_21, if_pos (Int32.le_refl _)], hs, One_rf _ _⟩
  | succ m ih =>
    intro i n M hs e h
    obtain ⟨n, rfl⟩ : ∃ k, n = k + 1 := ⟨n - 1, by omega⟩
    obtain ⟨M1, e1, r1, o1⟩ := m_alls hw i (by omega) hs
    obtain ⟨M', e2, r2, o2⟩ := ih (i + 1) n M1 r1 (by omega) (by omega)
    exact ⟨M', by rw [fX6_steps_21, if_neg (nI_ge (show i < N by omega) (by omega)), e1, Option.bind_some, nI_1, e2], r2, One_tr o1 o2⟩
/-! the miles of all -/
def smN (G : Gd) : Nat → Nat → Int32 → Int32
  | 0, _, x => x
  | m + 1, i, x => smN G m (i + 1) (x + nI (gK G i).2.2.1)
theorem c_sml {ρ : Type} {kx : Int32 → Option ρ} {G : Gd} {M : Mem} (hg : RG 1 G M) (h6 : gW G ≤ 6) (m : Nat) : ∀ (i n : Nat) (x : Int32), i + m = gW G → m < n → fX0_milesOfAll_4 kx M n x (nI i) = kx (smN G m i x) := by
  induction m with
  | zero =>
    intro i n x e h
    obtain rfl : i = gW G := by omega
    obtain ⟨n, rfl⟩ : ∃ k, n = k + 1 := ⟨n - 1, by omega⟩
    rw [fX0_milesOfAll_4, hg.2.1, if_pos (Int32.le_refl _)]; rfl
  | succ m ih =>
    intro i n x e h
    obtain ⟨n, rfl⟩ : ∃ k, n = k + 1 := ⟨n - 1, by omega⟩
    have c3 : M.1 (1 + 2 + i) 2 = nI (gK G i).2.2.1 := (hg.2.2.2.2 i (by omega)).2.2.1
    rw [fX0_milesOfAll_4, hg.2.1, if_neg (nI_ge (show i < gW G by omega) (by omega)), ldW_n (by omega), Option.bind_some, c3, nI_1, ih (i + 1) n _ (by omega) (by omega)]; rfl
theorem m_sml {ρ : Type} {kx : Int32 → Option ρ} {G : Gd} {M : Mem} (hs : RS 50 G M) (h6 : gW G ≤ 6) (m : Nat) : ∀ (i n : Nat) (x : Int32), i + m = gW G → m < n → fX6_allMiles_4 kx M n x (nI i) = kx (smN G m i x) := by
  induction m with
  | zero =>
    intro i n x e h
    obtain rfl : i = gW G := by omega
    obtain ⟨n, rfl⟩ : ∃ k, n = k + 1 := ⟨n - 1, by omega⟩
    rw [fX6_allMiles_4, ld50_1, Option.bind_some, hs.2.1, if_pos (Int32.le_refl _)]; rfl
  | succ m ih =>
    intro i n x e h
    obtain ⟨n, rfl⟩ : ∃ k, n = k + 1 := ⟨n - 1, by omega⟩
    rw [fX6_allMiles_4, ld50_1, Option.bind_some, hs.2.1, if_neg (nI_ge (show i < gW G by omega) (by omega)), m_part3 (by omega), Option.bind_some, (hs.2.2.2.2 i (by omega)).2.2.2.1, nI_1, ih (i + 1) n _ (by omega) (by omega)]; rfl
theorem ok_steps {t : Nat} {M : Mem} (ht : t < 512) (hI : Inv t M) (a1 : Int32) : ∃ v w, fX5_steps a1 M = some v ∧ fX6_steps a1 v.2 = some w ∧ v.1 = w.1 ∧ Inv (t + 1) w.2 := by
  refine ok_of hI (fun G hw hg => ?_)
  have h16 := hw.1
  have h6 := hw.2.1
  have e1 : fX6_in a1.toInt64 1 100 = if okr 1 100 a1 = true then 1 else 0 := in_r a1 rfl rfl
  have q1 : a1 < 1 ↔ a1.toInt < 1 := Int32.lt_iff_toInt_lt
  have q2 : a1 ≤ 100 ↔ a1.toInt ≤ 100 := Int32.le_iff_toInt_le
  by_cases h1 : okr 1 100 a1 = true
  · have hx : 1 ≤ a1.toInt ∧ a1.toInt ≤ 100 := of_decide_eq_true h1
    have q1' : ¬ a1 < 1 := fun z => by have := q1.mp z; omega
    have q2' : a1 ≤ 100 := q2.mpr hx.2
    obtain ⟨N, hN, rfl⟩ := okx_t (n := 101) (x := a1) (by decide) (decide_eq_true ⟨by omega, by omega⟩)
    refine ⟨smN (gTo G (gW G) N) (gW G) 0 0, gTo G (gW G) N, none, WG_mono (WG_to hw (gW G) N) (by omega), o0, ?_, fun M1 hs => ?_⟩
    · obtain ⟨M', p1, r1, o1⟩ := c_stl (kx := fun M10 => ((fX0_milesOfAll M10).bind fun v11 => some (v11, M10))) hw (show 1400 * t + 26 * N < 2 ^ 28 by omega) (by omega) (gW G) 0 FU M (by rw [gTo_0]; exact hg) (Nat.zero_add _) (by unfold FU; omega)
      refine ⟨M', ?_, r1, FC_rg o1 (fun c hc => by omega), o1.1 48 (by omega)⟩
      unfold fX5_steps
      rw [if_neg q1', if_pos q2', show (0 : Int32) = nI 0 from rfl, p1]
      unfold fX0_milesOfAll
      rw [show (0 : Int32) = nI 0 from rfl, c_sml r1 h6 (gW G) 0 FU _ (Nat.zero_add _) (by unfold FU; omega)]; rfl
    · obtain ⟨M', p1, r1, o1⟩ := m_stl (kx := fun M5 => ((fX6_allMiles M5).bind fun v6 => some (v6, M5))) hw (show 1400 * t + 13 * N + 13 < 2 ^ 28 by omega) (by omega) N 0 FU M1 (by rw [gTo_z]; exact hs) (Nat.zero_add _) (by unfold FU; omega)
      refine ⟨M', ?_, r1, FM_one o1 (by omega) (by omega), o1.1 54 (by omega)⟩
      unfold fX6_steps
      rw [e1, if_neg (b1 h1), show (0 : Int32) = nI 0 from rfl, p1]
      unfold fX6_allMiles
      rw [show (0 : Int32) = nI 0 from rfl, m_sml r1 h6 (gW G) 0 FU _ (Nat.zero_add _) (by unfold FU; omega)]; rfl
  · refine ⟨fnd 0, G, some 0, WG_t hw, o7 (by decide), csp_fin hw hg ?_, fun M1 hs => msp_fin hs ?_⟩
    · unfold fX5_steps
      by_cases z : a1 < 1
      · rw [if_pos z, tb0]
      · rw [if_neg z, if_neg (fun z2 => h1 (decide_eq_true ⟨Int.not_lt.mp (fun y => z (q1.mpr y)), q2.mp z2⟩)), tb0]
    · unfold fX6_steps; rw [e1, if_pos (b0 h1), mb0]
