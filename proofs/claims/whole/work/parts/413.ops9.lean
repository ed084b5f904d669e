/-! MATHS: when a walker comes -/
def whn (p : Wk → Bool) (G : Gd) : Nat → Nat → Wk → Nat
  | 0, i, _ => i
  | m + 1, i, u => if p u = true then i else whn p G m (i + 1) (mv1 G u)
theorem whn_put (p : Wk → Bool) (G : Gd) (k : Nat) (a : Wk) (m : Nat) : ∀ i u, whn p (gPut G k a) m i u = whn p G m i u := by
  induction m with
  | zero => intro i u; rfl
  | succ m ih =>
    intro i u
    show (if p u = true then i else whn p (gPut G k a) m (i + 1) (mv1 G u)) = _
    rw [ih]; rfl
theorem whn_le (p : Wk → Bool) (G : Gd) (m : Nat) : ∀ i u, whn p G m i u ≤ i + m := by
  induction m with
  | zero => intro i u; exact Nat.le_refl _
  | succ m ih =>
    intro i u
    show (if p u = true then i else whn p G m (i + 1) (mv1 G u)) ≤ _
    split
    · omega
    · have := ih (i + 1) (mv1 G u); omega
def pF (f : Nat) (u : Wk) : Bool := decide (u.2.1 / 4 = f)
def pW (w : Nat) (u : Wk) : Bool := decide (u.2.1 = w)
theorem c_whl {kx : Mem → Option (Int32 × Mem)} {B' f : Nat} {G : Gd} (hf : f < gF G) (hw : WG B' G) (m : Nat) : ∀ (i n B : Nat) (M : Mem) (u : Wk), RG 1 G M → RW 31 u M → okw B G u → B + 13 * m < 2 ^ 28 → i + m = 101 → m < n → ∃ M', fX5_when_47 kx (nI f) n (nI i) M = (if whn (pF f) G m i u = 101 then kx M' else some (nI (whn (pF f) G m i u), M')) ∧ One 31 M M' := by
  have h16 := hw.1
  induction m with
  | zero =>
    intro i n B M u hg hr hu hB e h
    obtain rfl : i = 101 := by omega
    obtain ⟨n, rfl⟩ : ∃ k, n = k + 1 := ⟨n - 1, by omega⟩
    exact ⟨M, by rw [fX5_when_47, if_pos (by decide), if_pos (show whn (pF f) G 0 101 u = 101 from rfl)], One_rf _ _⟩
  | succ m ih =>
    intro i n B M u hg hr hu hB e h
    obtain ⟨n, rfl⟩ : ∃ k, n = k + 1 := ⟨n - 1, by omega⟩
    have h2 := hu.2.1
    rw [fX5_when_47, if_neg (show ¬ (100 : Int32) < nI i from fun q => by rw [show (100 : Int32) = nI 100 from rfl, nI_ltI (by decide) (by omega)] at q; omega), hr.2.1, c_fieldOf (by omega)]
    by_cases q : u.2.1 / 4 = f
    · have ez : whn (pF f) G (m + 1) i u = i := if_pos (decide_eq_true q)
      exact ⟨M, by rw [ez, if_pos (by rw [q]), if_neg (show ¬ i = 101 by omega)], One_rf _ _⟩
    · have ez : whn (pF f) G (m + 1) i u = whn (pF f) G m (i + 1) (mv1 G u) := if_neg (fun z => q (of_decide_eq_true z))
      obtain ⟨M1, e1, r1, o1⟩ := c_move hw hg (show B < 2 ^ 28 by omega) hu hr
      obtain ⟨M', e2, o2⟩ := ih (i + 1) n (B + 13) M1 (mv1 G u) (RG_one hw hg o1 (by decide)) r1 (okw_mv hw hu) (by omega) (by omega) (by omega)
      exact ⟨M', by rw [ez, if_neg (fun z => q ((nI_eq (by omega) (by omega)).mp z)), e1, Option.bind_some, nI_1, e2], One_tr o1 o2⟩
theorem m_whl {ρ : Type} {kx : Int32 → Mem → Option ρ} {k f : Nat} (hf : f < 16) (m : Nat) : ∀ (i n B : Nat) (M : Mem) (G : Gd), WG B G → RS 50 G M → k < gW G → B + 13 * m < 2 ^ 28 → i + m = 101 → m < n → ∃ M', fX6_when_29 kx (nI k) (nI f) n (nI i) M = kx (nI (whn (pF f) G m i (gK G k))) M' ∧ One 50 M M' := by
  induction m with
  | zero =>
    intro i n B M G hw hs hk hB e h
    obtain rfl : i = 101 := by omega
    obtain ⟨n, rfl⟩ : ∃ k, n = k + 1 := ⟨n - 1, by omega⟩
    exact ⟨M, by rw [fX6_when_29, if_pos (by decide)]; rfl, One_rf _ _⟩
  | succ m ih =>
    intro i n B M G hw hs hk hB e h
    have h16 := hw.1
    have h6 := hw.2.1
    obtain ⟨n, rfl⟩ : ∃ k, n = k + 1 := ⟨n - 1, by omega⟩
    have h2 := (hw.2.2.2.2 k hk).2.1
    rw [fX6_when_29, if_neg (show ¬ (100 : Int32) < nI i from fun q => by rw [show (100 : Int32) = nI 100 from rfl, nI_ltI (by decide) (by omega)] at q; omega), m_part1 (by omega), Option.bind_some, (hs.2.2.2.2 k hk).2.1]
    by_cases q : (gK G k).2.1 / 4 = f
    · have ez : whn (pF f) G (m + 1) i (gK G k) = i := if_pos (decide_eq_true q)
      rw [ez, if_pos (by rw [q])]
      exact ⟨M, rfl, One_rf _ _⟩
    · have ez : whn (pF f) G (m + 1) i (gK G k) = whn (pF f) G m (i + 1) (mv1 G (gK G k)) := if_neg (fun z => q (of_decide_eq_true z))
      obtain ⟨M1, e1, r1, o1⟩ := m_goes hw (show B < 2 ^ 28 by omega) hs hk
      have hw1 : WG (B + 13) (gPut G k (mv1 G (gK G k))) := WG_put (WG_mono hw (by omega)) (okw_mv hw (hw.2.2.2.2 k hk))
      obtain ⟨M', e2, o2⟩ := ih (i + 1) n (B + 13) M1 _ hw1 r1 hk (by omega) (by omega) (by omega)
      rw [gPut_at, whn_put] at e2
      exact ⟨M', by rw [ez, if_neg (fun z => q ((nI_eq (by omega) (by omega)).mp z)), e1, Option.bind_some, nI_1, e2], One_tr o1 o2⟩
/-- what is found on the array laid aside is told once it is taken back -/
theorem m_told {B L : Nat} {G : Gd} {M : Mem} {x : Nat} (hw : WG B G) (hs : RS 53 G M) (hL : L < 1000) (hx : x ≤ L + 1) : ∃ M', RS 50 G M' ∧ One 50 M M' ∧ ((fX6_takesBack (nI x) M).bind fun w19 => ((fX6_orNone w19.1 (nI L) w19.2).bind fun w21 => some (w21.1, w21.2))) = if x = L + 1 then some (fnd 3, findM 3 M') else some (nI x, M') := by
  obtain ⟨M', e1, r1, o1⟩ := m_takesBack hw hs (nI x)
  refine ⟨M', r1, o1, ?_⟩
  rw [e1, Option.bind_some]
  unfold fX6_orNone
  by_cases q : x = L + 1
  · rw [if_neg (show ¬ (nI x : Int32) ≤ nI L from nI_ge (by omega) (by omega)), if_pos q, mb3]; rfl
  · rw [if_pos (show (nI x : Int32) ≤ nI L from (nI_leI (by omega) (by omega)).mpr (by omega)), if_neg q]; rfl
theorem ok_when {t : Nat} {M : Mem} (ht : t < 512) (hI : Inv t M) (a1 : Int32) (a2 : Int32) : ∃ v w, fX5_when a1 a2 M = some v ∧ fX6_when a1 a2 v.2 = some w ∧ v.1 = w.1 ∧ Inv (t + 1) w.2 := by
  refine ok_of hI (fun G hw hg => ?_)
  have h16 := hw.1
  have h6 := hw.2.1
  by_cases h1 : okx (gW G) a1 = true
  · obtain ⟨k, hk, rfl⟩ := okx_t (by omega) h1
    have hu : okw (1400 * t) G (gK G k) := hw.2.2.2.2 k hk
    by_cases h2 : okx (gF G) a2 = true
    · obtain ⟨f, hf, rfl⟩ := okx_t (by omega) h2
      obtain ⟨Ma, p1, r1, o1⟩ := c_become (B := 0) (c := 31) hg hk h6 (by decide)
      have ga := RG_one hw hg o1 (by decide)
      obtain ⟨Mb, p2, o2⟩ := c_whl (kx := fun M13 => ((fX5_tell (-1000000004 : Int32) M13).bind fun w14 => some (w14.1, w14.2))) hf hw 101 0 FU (1400 * t) Ma (gK G k) ga r1 hu (by omega) (by omega) (by decide)
      have gb := RG_one hw ga o2 (by decide)
      have ob := One_tr o1 o2
      have fb : FC M Mb := FC_one ob (by omega) (by omega) (by omega)
      have b8 : Mb.1 48 = M.1 48 := ob.1 48 (by omega)
      have hcl : fX5_when (nI k) (nI f) M = if whn (pF f) G 101 0 (gK G k) = 101 then some (fnd 3, tellM 3 Mb) else some (nI (whn (pF f) G 101 0 (gK G k)), Mb) := by
        unfold fX5_when
        rw [c_hasWalker hw hg, if_neg (b1 h1), c_hasField hw hg, if_neg (b1 h2), ldW_n (by omega), Option.bind_some, p1, Option.bind_some, show (0 : Int32) = nI 0 from rfl, p2, tb3]
      have hml : ∀ M1, RS 50 G M1 → ∃ M', RS 50 G M' ∧ FM M1 M' ∧ M'.1 54 = M1.1 54 ∧ fX6_when (nI k) (nI f) M1 = if whn (pF f) G 101 0 (gK G k) = 101 then some (fnd 3, findM 3 M') else some (nI (whn (pF f) G 101 0 (gK G k)), M') := by
        intro M1 hs
        obtain ⟨Mc, s1, sc, sd, oc⟩ := m_laysAside hw hs
        obtain ⟨Md, s2, od⟩ := m_whl (kx := fun u17 M18 => ((fX6_takesBack u17 M18).bind fun w19 => ((fX6_orNone w19.1 (100 : Int32) w19.2).bind fun w21 => some (w21.1, w21.2)))) (k := k) (f := f) (by omega) 101 0 FU (1400 * t) Mc G hw sc hk (by omega) (by omega) (by decide)
        obtain ⟨Me, re, oe, s3⟩ := m_told (L := 100) hw (RS_cg sd (od.1 53 (by decide))) (by decide) (whn_le (pF f) G 101 0 (gK G k))
        have oo := One_tr od oe
        refine ⟨Me, re, FM_tr (FM_one oc (by omega) (by omega)) (FM_one oo (by omega) (by omega)), (oo.1 54 (by decide)).trans (oc.1 54 (by decide)), ?_⟩
        unfold fX6_when
        rw [m_isWalker hw hs, Option.bind_some, if_neg (b1 h1), m_isField hw hs, Option.bind_some, if_neg (b1 h2), s1, Option.bind_some, show (0 : Int32) = nI 0 from rfl, s2]
        exact s3
      by_cases hz : whn (pF f) G 101 0 (gK G k) = 101
      · rw [if_pos hz] at hcl
        refine ⟨fnd 3, G, some 3, WG_t hw, o7 (by decide), csp_fin' hw gb fb b8 hcl, fun M1 hs => ?_⟩
        obtain ⟨M', r', f', b', e'⟩ := hml M1 hs
        rw [if_pos hz] at e'
        exact msp_fin' r' f' b' e'
      · rw [if_neg hz] at hcl
        refine ⟨nI (whn (pF f) G 101 0 (gK G k)), G, none, WG_t hw, o0, ⟨Mb, hcl, gb, fb, b8⟩, fun M1 hs => ?_⟩
        obtain ⟨M', r', f', b', e'⟩ := hml M1 hs
        rw [if_neg hz] at e'
        exact ⟨M', e', r', f', b'⟩
    · refine ⟨fnd 0, G, some 0, WG_t hw, o7 (by decide), csp_fin hw hg ?_, fun M1 hs => msp_fin hs ?_⟩
      · unfold fX5_when; rw [c_hasWalker hw hg, if_neg (b1 h1), c_hasField hw hg, if_pos (b0 h2), tb0]
      · unfold fX6_when; rw [m_isWalker hw hs, Option.bind_some, if_neg (b1 h1), m_isField hw hs, Option.bind_some, if_pos (b0 h2), mb0]
  · refine ⟨fnd 0, G, some 0, WG_t hw, o7 (by decide), csp_fin hw hg ?_, fun M1 hs => msp_fin hs ?_⟩
    · unfold fX5_when; rw [c_hasWalker hw hg, if_pos (b0 h1), tb0]
    · unfold fX6_when; rw [m_isWalker hw hs, Option.bind_some, if_pos (b0 h1), mb0]
/-! when a walker comes back -/
theorem c_bkl {kx : Mem → Option (Int32 × Mem)} {B' w : Nat} {G : Gd} (hl : w < 64) (hw : WG B' G) (m : Nat) : ∀ (i n B : Nat) (M : Mem) (u : Wk), RG 1 G M → RW 31 u M → okw B G u → B + 13 * m < 2 ^ 28 → i + m = 201 → m < n → ∃ M', fX5_back_44 kx (nI w) n (nI i) M = (if whn (pW w) G m i (mv1 G u) = 201 then kx M' else some (nI (whn (pW w) G m i (mv1 G u)), M')) ∧ One 31 M M' := by
  have h16 := hw.1
  induction m with
  | zero =>
    intro i n B M u hg hr hu hB e h
    obtain rfl : i = 201 := by omega
    obtain ⟨n, rfl⟩ : ∃ k, n = k + 1 := ⟨n - 1, by omega⟩
    exact ⟨M, by rw [fX5_back_44, if_pos (by decide), if_pos (show whn (pW w) G 0 201 (mv1 G u) = 201 from rfl)], One_rf _ _⟩
  | succ m ih =>
    intro i n B M u hg hr hu hB e h
    obtain ⟨n, rfl⟩ : ∃ k, n = k + 1 := ⟨n - 1, by omega⟩
    obtain ⟨M1, e1, r1, o1⟩ := c_move hw hg (show B < 2 ^ 28 by omega) hu hr
    have h2 := (okw_mv hw hu).2.1
    rw [fX5_back_44, if_neg (show ¬ (200 : Int32) < nI i from fun q => by rw [show (200 : Int32) = nI 200 from rfl, nI_ltI (by decide) (by omega)] at q; omega), e1, Option.bind_some, r1.2.1]
    by_cases q : (mv1 G u).2.1 = w
    · have ez : whn (pW w) G (m + 1) i (mv1 G u) = i := if_pos (decide_eq_true q)
      exact ⟨M1, by rw [ez, if_pos (by rw [q]), if_neg (show ¬ i = 201 by omega)], o1⟩
    · have ez : whn (pW w) G (m + 1) i (mv1 G u) = whn (pW w) G m (i + 1) (mv1 G (mv1 G u)) := if_neg (fun z => q (of_decide_eq_true z))
      obtain ⟨M', e2, o2⟩ := ih (i + 1) n (B + 13) M1 (mv1 G u) (RG_one hw hg o1 (by decide)) r1 (okw_mv hw hu) (by omega) (by omega) (by omega)
      exact ⟨M', by rw [ez, if_neg (fun z => q ((nI_eq (by omega) (by omega)).mp z)), nI_1, e2], One_tr o1 o2⟩
theorem m_bkl {ρ : Type} {kx : Int32 → Mem → Option ρ} {k w : Nat} (hl : w < 64) (m : Nat) : ∀ (i n B : Nat) (M : Mem) (G : Gd), WG B G → RS 50 G M → k < gW G → B + 13 * m < 2 ^ 28 → i + m = 201 → m < n → ∃ M', fX6_back_32 kx (nI k) (nI w) n (nI i) M = kx (nI (whn (pW w) G m i (gK G k))) M' ∧ One 50 M M' := by
  induction m with
  | zero =>
    intro i n B M G hw hs hk hB e h
    obtain rfl : i = 201 := by omega
    obtain ⟨n, rfl⟩ : ∃ k, n = k + 1 := ⟨n - 1, by omega⟩
    exact ⟨M, by rw [fX6_back_32, if_pos (by decide)]; rfl, One_rf _ _⟩
  | succ m ih =>
    intro i n B M G hw hs hk hB e h
    have h16 := hw.1
    have h6 := hw.2.1
    obtain ⟨n, rfl⟩ : ∃ k, n = k + 1 := ⟨n - 1, by omega⟩
    have h2 := (hw.2.2.2.2 k hk).2.1
    rw [fX6_back_32, if_neg (show ¬ (200 : Int32) < nI i from fun q => by rw [show (200 : Int32) = nI 200 from rfl, nI_ltI (by decide) (by omega)] at q; omega), m_wayOf hs hk h6, Option.bind_some]
    by_cases q : (gK G k).2.1 = w
    · have ez : whn (pW w) G (m + 1) i (gK G k) = i := if_pos (decide_eq_true q)
      rw [ez, if_pos (by rw [q])]
      exact ⟨M, rfl, One_rf _ _⟩
    · have ez : whn (pW w) G (m + 1) i (gK G k) = whn (pW w) G m (i + 1) (mv1 G (gK G k)) := if_neg (fun z => q (of_decide_eq_true z))
      obtain ⟨M1, e1, r1, o1⟩ := m_goes hw (show B < 2 ^ 28 by omega) hs hk
      have hw1 : WG (B + 13) (gPut G k (mv1 G (gK G k))) := WG_put (WG_mono hw (by omega)) (okw_mv hw (hw.2.2.2.2 k hk))
      obtain ⟨M', e2, o2⟩ := ih (i + 1) n (B + 13) M1 _ hw1 r1 hk (by omega) (by omega) (by omega)
      rw [gPut_at, whn_put] at e2
      exact ⟨M', by rw [ez, if_neg (fun z => q ((nI_eq (by omega) (by omega)).mp z)), e1, Option.bind_some, nI_1, e2], One_tr o1 o2⟩
theorem ok_back {t : Nat} {M : Mem} (ht : t < 512) (hI : Inv t M) (a1 : Int32) : ∃ v w, fX5_back a1 M = some v ∧ fX6_back a1 v.2 = some w ∧ v.1 = w.1 ∧ Inv (t + 1) w.2 := by
  refine ok_of hI (fun G hw hg => ?_)
  have h16 := hw.1
  have h6 := hw.2.1
  by_cases h1 : okx (gW G) a1 = true
  · obtain ⟨k, hk, rfl⟩ := okx_t (by omega) h1
    have hu : okw (1400 * t) G (gK G k) := hw.2.2.2.2 k hk
    have hl : (gK G k).2.1 < 64 := by have := hu.2.1; omega
    obtain ⟨Ma, p1, r1, o1⟩ := c_become (B := 0) (c := 31) hg hk h6 (by decide)
    have ga := RG_one hw hg o1 (by decide)
    obtain ⟨Mb, p2, o2⟩ := c_bkl (kx := fun M10 => ((fX5_tell (-1000000004 : Int32) M10).bind fun w11 => some (w11.1, w11.2))) hl hw 200 1 FU (1400 * t) Ma (gK G k) ga r1 hu (by omega) (by omega) (by decide)
    have gb := RG_one hw ga o2 (by decide)
    have ob := One_tr o1 o2
    have fb : FC M Mb := FC_one ob (by omega) (by omega) (by omega)
    have b8 : Mb.1 48 = M.1 48 := ob.1 48 (by omega)
    have hcl : fX5_back (nI k) M = if whn (pW (gK G k).2.1) G 200 1 (mv1 G (gK G k)) = 201 then some (fnd 3, tellM 3 Mb) else some (nI (whn (pW (gK G k).2.1) G 200 1 (mv1 G (gK G k))), Mb) := by
      unfold fX5_back
      rw [c_hasWalker hw hg, if_neg (b1 h1), ldW_n (by omega), Option.bind_some, p1, Option.bind_some, r1.2.1, show (1 : Int32) = nI 1 from rfl, p2, tb3]
    have hml : ∀ M1, RS 50 G M1 → ∃ M', RS 50 G M' ∧ FM M1 M' ∧ M'.1 54 = M1.1 54 ∧ fX6_back (nI k) M1 = if whn (pW (gK G k).2.1) G 200 1 (mv1 G (gK G k)) = 201 then some (fnd 3, findM 3 M') else some (nI (whn (pW (gK G k).2.1) G 200 1 (mv1 G (gK G k))), M') := by
      intro M1 hs
      obtain ⟨Mc, s1, sc, sd, oc⟩ := m_laysAside hw hs
      obtain ⟨Mg, sg, rg, og⟩ := m_goes hw (show 1400 * t < 2 ^ 28 by omega) sc hk
      have hw1 : WG (1400 * t + 13) (gPut G k (mv1 G (gK G k))) := WG_put (WG_mono hw (by omega)) (okw_mv hw hu)
      obtain ⟨Md, s2, od⟩ := m_bkl (kx := fun u16 M17 => ((fX6_takesBack u16 M17).bind fun w18 => ((fX6_orNone w18.1 (200 : Int32) w18.2).bind fun w20 => some (w20.1, w20.2)))) (k := k) hl 200 1 FU (1400 * t + 13) Mg _ hw1 rg hk (by omega) (by omega) (by decide)
      rw [gPut_at, whn_put] at s2
      have og2 := One_tr og od
      obtain ⟨Me, re, oe, s3⟩ := m_told (L := 200) hw (RS_cg sd (og2.1 53 (by decide))) (by decide) (show whn (pW (gK G k).2.1) G 200 1 (mv1 G (gK G k)) ≤ 201 from whn_le (pW (gK G k).2.1) G 200 1 (mv1 G (gK G k)))
      have oo := One_tr og2 oe
      refine ⟨Me, re, FM_tr (FM_one oc (by omega) (by omega)) (FM_one oo (by omega) (by omega)), (oo.1 54 (by decide)).trans (oc.1 54 (by decide)), ?_⟩
      unfold fX6_back
      rw [m_isWalker hw hs, Option.bind_some, if_neg (b1 h1), s1, Option.bind_some, m_wayOf sc hk h6, Option.bind_some, sg, Option.bind_some, show (1 : Int32) = nI 1 from rfl, s2]
      exact s3
    by_cases hz : whn (pW (gK G k).2.1) G 200 1 (mv1 G (gK G k)) = 201
    · rw [if_pos hz] at hcl
      refine ⟨fnd 3, G, some 3, WG_t hw, o7 (by decide), csp_fin' hw gb fb b8 hcl, fun M1 hs => ?_⟩
      obtain ⟨M', r', f', b', e'⟩ := hml M1 hs
      rw [if_pos hz] at e'
      exact msp_fin' r' f' b' e'
    · rw [if_neg hz] at hcl
      refine ⟨nI (whn (pW (gK G k).2.1) G 200 1 (mv1 G (gK G k))), G, none, WG_t hw, o0, ⟨Mb, hcl, gb, fb, b8⟩, fun M1 hs => ?_⟩
      obtain ⟨M', r', f', b', e'⟩ := hml M1 hs
      rw [if_neg hz] at e'
      exact ⟨M', e', r', f', b'⟩
  · refine ⟨fnd 0, G, some 0, WG_t hw, o7 (by decide), csp_fin hw hg ?_, fun M1 hs => msp_fin hs ?_⟩
    · unfold fX5_back; rw [c_hasWalker hw hg, if_pos (b0 h1), tb0]
    · unfold fX6_back; rw [m_isWalker hw hs, Option.bind_some, if_pos (b0 h1), mb0]
