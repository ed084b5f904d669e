/-! MATHS: a way written into a sheet -/
def fAt (G : Gd) (u : Wk) (j : Nat) : Int64 := (nI ((mvn G j u).2.1 / 4)).toInt64
theorem c_bkk {ρ : Type} {kx : Mem → Option ρ} {s z B' : Nat} {G : Gd} (hs : s < 4) (hz : z ≤ 40) (hw : WG B' G) (m : Nat) : ∀ (i n B : Nat) (M : Mem) (u : Wk), RG 1 G M → RW 31 u M → okw B G u → B + 13 * m < 2 ^ 28 → M.1 (40 + 2 * s) 1 = nI z → i + m = z → m < n → ∃ M', fX5_book_44 kx (40 + 2 * s) n (nI i) M = kx M' ∧ (∀ a, a ≠ 31 → M'.1 a = M.1 a) ∧ (∀ a, a ≠ 41 + 2 * s → M'.2 a = M.2 a) ∧ (∀ j, j < m → M'.2 (41 + 2 * s) (i + j) = fAt G u j) ∧ ∀ j, j < i ∨ z ≤ j → M'.2 (41 + 2 * s) j = M.2 (41 + 2 * s) j := by
  have h16 := hw.1
  induction m with
  | zero =>
    intro i n B M u hg hr hu hB e1 e h
    obtain rfl : i = z := by omega
    obtain ⟨n, rfl⟩ : ∃ k, n = k + 1 := ⟨n - 1, by omega⟩
    exact ⟨M, by rw [fX5_book_44, e1, if_pos (Int32.le_refl _)], fun _ _ => rfl, fun _ _ => rfl, fun j q => absurd q (Nat.not_lt_zero _), fun _ _ => rfl⟩
  | succ m ih =>
    intro i n B M u hg hr hu hB e1 e h
    obtain ⟨n, rfl⟩ : ∃ k, n = k + 1 := ⟨n - 1, by omega⟩
    have h2 := hu.2.1
    let M1 := setJ M (41 + 2 * s) i (fAt G u 0)
    have g1 : RG 1 G M1 := RG_cg hw hg (fun _ _ _ => rfl)
    have r1 : RW 31 u M1 := hr
    obtain ⟨M2, p2, r2, o2⟩ := c_move hw g1 (show B < 2 ^ 28 by omega) hu r1
    obtain ⟨M', k1, k2, k3, k4, k5⟩ := ih (i + 1) n (B + 13) M2 (mv1 G u) (RG_one hw g1 o2 (by decide)) r2 (okw_mv hw hu) (by omega) (by rw [o2.1 _ (by omega)]; exact e1) (by omega) (by omega)
    refine ⟨M', ?_, fun a q => (k2 a q).trans (o2.1 a q), fun a q => by rw [k3 a q, o2.2]; exact sJ_c _ _ _ q, fun j hj => ?_, fun j hj => ?_⟩
    · rw [fX5_book_44, e1, if_neg (nI_ge (show i < z by omega) (by omega)), hr.2.1, c_fieldOf (by omega), show 40 + 2 * s + 1 = 41 + 2 * s by omega, stJ_n (by omega) (by decide), Option.bind_some]
      show (fX4_move 31 M1).bind _ = _
      rw [p2, Option.bind_some, nI_1, k1]
    · cases j with
      | zero => rw [Nat.add_zero, k5 i (by omega), o2.2]; exact sJ_s _ _ _ _
      | succ j => rw [show i + (j + 1) = i + 1 + j by omega, k4 j (by omega)]; rfl
    · rw [k5 j (by omega), o2.2]; exact sJ_j _ _ (by omega)
theorem m_bkk {ρ : Type} {kx : Mem → Option ρ} {s z k : Nat} (hs : s < 4) (hz : z ≤ 40) (m : Nat) : ∀ (i n B : Nat) (M : Mem) (G : Gd), WG B G → RS 50 G M → k < gW G → B + 13 * m < 2 ^ 28 → M.1 58 s = nI z → i + m = z → m < n → ∃ M', fX6_book_24 kx (nI s) (nI k) n (nI i) M = kx M' ∧ (∀ a, a ≠ 50 → M'.1 a = M.1 a) ∧ (∀ a, a ≠ 59 → M'.2 a = M.2 a) ∧ (∀ j, j < m → M'.2 59 (40 * s + (i + j)) = fAt G (gK G k) j) ∧ ∀ j, j < 40 * s + i ∨ 40 * s + z ≤ j → M'.2 59 j = M.2 59 j := by
  induction m with
  | zero =>
    intro i n B M G hw hs1 hk hB e1 e h
    obtain rfl : i = z := by omega
    obtain ⟨n, rfl⟩ : ∃ k, n = k + 1 := ⟨n - 1, by omega⟩
    exact ⟨M, by rw [fX6_book_24, ldI_n hs (by decide), Option.bind_some, e1, if_pos (Int32.le_refl _)], fun _ _ => rfl, fun _ _ => rfl, fun j q => absurd q (Nat.not_lt_zero _), fun _ _ => rfl⟩
  | succ m ih =>
    intro i n B M G hw hs1 hk hB e1 e h
    have h16 := hw.1
    have h6 := hw.2.1
    obtain ⟨n, rfl⟩ : ∃ k, n = k + 1 := ⟨n - 1, by omega⟩
    let M1 := setJ M 59 (40 * s + i) (fAt G (gK G k) 0)
    have s1 : RS 50 G M1 := RS_cg hs1 rfl
    obtain ⟨M2, p2, r2, o2⟩ := m_goes hw (show B < 2 ^ 28 by omega) s1 hk
    have hw1 : WG (B + 13) (gPut G k (mv1 G (gK G k))) := WG_put (WG_mono hw (by omega)) (okw_mv hw (hw.2.2.2.2 k hk))
    obtain ⟨M', k1, k2, k3, k4, k5⟩ := ih (i + 1) n (B + 13) M2 _ hw1 r2 hk (by omega) (by rw [o2.1 _ (by decide)]; exact e1) (by omega) (by omega)
    refine ⟨M', ?_, fun a q => (k2 a q).trans (o2.1 a q), fun a q => by rw [k3 a q, o2.2]; exact sJ_c _ _ _ q, fun j hj => ?_, fun j hj => ?_⟩
    · rw [fX6_book_24, ldI_n hs (by decide), Option.bind_some, e1, if_neg (nI_ge (show i < z by omega) (by omega)), m_part1 (by omega), Option.bind_some, (hs1.2.2.2.2 k hk).2.1, m_ix5, stJ_n (by omega) (by decide), Option.bind_some]
      show (fX6_goes (nI k) M1).bind _ = _
      rw [p2, Option.bind_some, nI_1, k1]
    · cases j with
      | zero => rw [Nat.add_zero, k5 _ (by omega), o2.2]; exact sJ_s _ _ _ _
      | succ j =>
        rw [show i + (j + 1) = i + 1 + j by omega, k4 j (by omega), gPut_at]
        unfold fAt
        rw [mvn_put]; rfl
    · rw [k5 j (by omega), o2.2]; exact sJ_j _ _ (by omega)
/-- the finding about a sheet and a walker -/
theorem bkf_c {s bt k : Nat} {B : Nat} {G : Gd} {M : Mem} (hw : WG B G) (hg : RG 1 G M) (hs : s < 4) (hb : bt ≤ 64) (h0 : ¬ bt = 0) (e : M.1 (40 + 2 * s) 0 = nI bt) (x : Int32) : fX5_bookFinding (nI s) x M = some (if okx (gW G) x = true then 0 else fnd 0) := by
  unfold fX5_bookFinding
  rw [shf_c hs hb e, Option.bind_some, if_neg h0, if_pos rfl, c_hasWalker hw hg]
  by_cases q : okx (gW G) x = true
  · rw [if_neg (b1 q), if_pos q]
  · rw [if_pos (b0 q), if_neg q]; rfl
theorem bkf_m {s bt k : Nat} {B : Nat} {G : Gd} {M : Mem} (hw : WG B G) (hg : RS 50 G M) (hs : s < 4) (hb : bt ≤ 64) (h0 : ¬ bt = 0) (e : M.1 57 s = nI bt) (x : Int32) : fX6_wrongBook (nI s) x M = some (if okx (gW G) x = true then 0 else fnd 0) := by
  unfold fX6_wrongBook
  rw [shf_m hs hb e, Option.bind_some, if_neg h0, if_pos rfl, m_isWalker hw hg, Option.bind_some]
  by_cases q : okx (gW G) x = true
  · rw [if_neg (b1 q), if_pos q]
  · rw [if_pos (b0 q), if_neg q]; rfl
theorem bkf_c0 {s bt : Nat} {M : Mem} (hs : s < 4) (hb : bt ≤ 64) (h0 : bt = 0) (e : M.1 (40 + 2 * s) 0 = nI bt) (x : Int32) : fX5_bookFinding (nI s) x M = some (fnd 5) := by
  unfold fX5_bookFinding
  rw [shf_c hs hb e, Option.bind_some, if_pos h0, if_neg (fnd_ne 5 (by decide))]
theorem bkf_m0 {s bt : Nat} {M : Mem} (hs : s < 4) (hb : bt ≤ 64) (h0 : bt = 0) (e : M.1 57 s = nI bt) (x : Int32) : fX6_wrongBook (nI s) x M = some (fnd 5) := by
  unfold fX6_wrongBook
  rw [shf_m hs hb e, Option.bind_some, if_pos h0, if_neg (fnd_ne 5 (by decide))]
theorem bkf_cb {x y : Int32} {M : Mem} (h : ¬ okx 4 x = true) : fX5_bookFinding x y M = some (fnd 0) := by
  unfold fX5_bookFinding
  rw [shf_cb h, Option.bind_some, if_neg (fnd_ne 0 (by decide))]
theorem bkf_mb {x y : Int32} {M : Mem} (h : ¬ okx 4 x = true) : fX6_wrongBook x y M = some (fnd 0) := by
  unfold fX6_wrongBook
  rw [shf_mb h, Option.bind_some, if_neg (fnd_ne 0 (by decide))]
theorem ok_book {t : Nat} {M : Mem} (ht : t < 512) (hI : Inv t M) (a1 : Int32) (a2 : Int32) : ∃ v w, fX5_book a1 a2 M = some v ∧ fX6_book a1 a2 v.2 = some w ∧ v.1 = w.1 ∧ Inv (t + 1) w.2 := by
  by_cases h1 : okx 4 a1 = true
  · obtain ⟨s, hs, rfl⟩ := okx_t (by decide) h1
    have hI' := hI
    obtain ⟨⟨G, hw, hg, hsm⟩, hK, hF, hT, hS⟩ := hI
    have h16 := hw.1
    have h6 := hw.2.1
    obtain ⟨bt, z, e1, e2, e3, e4, e5, e6, e7, e8⟩ := hS s hs
    have hb : bt ≤ 64 := by omega
    by_cases q : bt = 0
    · refine ⟨(fnd 5, tellM 5 M), (fnd 5, findM 5 (tellM 5 M)), ?_, ?_, rfl, Inv_fin (i := 5) hI' (by decide)⟩
      · unfold fX5_book; rw [bkf_c0 hs hb q e4, Option.bind_some, if_neg (fnd_ne 5 (by decide)), c_tell (by decide)]; rfl
      · unfold fX6_book; rw [bkf_m0 hs hb q (by rw [tell_1 5 M (by decide)]; exact e5), Option.bind_some, if_neg (fnd_ne 5 (by decide)), m_finds (by decide)]; rfl
    · by_cases h2 : okx (gW G) a2 = true
      · obtain ⟨k, hk, rfl⟩ := okx_t (by omega) h2
        have hu : okw (1400 * t) G (gK G k) := hw.2.2.2.2 k hk
        obtain ⟨Ma, p1, r1, o1⟩ := c_become (B := 0) (c := 31) hg hk h6 (by decide)
        have ga := RG_one hw hg o1 (by decide)
        obtain ⟨Mb, p2, c1, c2, c3, c4⟩ := c_bkk (kx := fun M15 => some ((M15.1 (40 + 2 * s) 1), M15)) hs e2 hw z 0 FU (1400 * t) Ma (gK G k) ga r1 hu (by omega) (by rw [o1.1 _ (by omega)]; exact e6) (Nat.zero_add _) (by unfold FU; omega)
        have b1c : ∀ a, a ≠ 31 → Mb.1 a = M.1 a := fun a w => (c1 a w).trans (o1.1 a w)
        have b2c : ∀ a, a ≠ 41 + 2 * s → Mb.2 a = M.2 a := fun a w => by rw [c2 a w, o1.2]
        have sb : RS 50 G Mb := RS_cg hsm (b1c 50 (by decide))
        obtain ⟨Mc, s1, sc, sd, oc⟩ := m_laysAside hw sb
        obtain ⟨Md, p3, d1, d2, d3, d4⟩ := m_bkk (kx := fun M15 => ((ldI M15 58 4 (nI s)).bind fun v16 => ((fX6_takesBack v16 M15).bind fun w18 => some (w18.1, w18.2)))) (s := s) (k := k) hs e2 z 0 FU (1400 * t) Mc G hw sc hk (by omega) (by rw [oc.1 58 (by decide), b1c 58 (by decide)]; exact e7) (Nat.zero_add _) (by unfold FU; omega)
        obtain ⟨Me, s3, re, oe⟩ := m_takesBack hw (RS_cg sd (d1 53 (by decide))) (nI z)
        have hc : ∀ a, a ≠ 31 → a ≠ 50 → a ≠ 53 → Me.1 a = M.1 a := fun a w1 w2 w3 => by rw [oe.1 a w2, d1 a w2, oc.1 a w3, b1c a w1]
        have hc2 : ∀ a, a ≠ 59 → Me.2 a = Mb.2 a := fun a w => by rw [oe.2, d2 a w, oc.2]
        have h59 : ∀ j, Me.2 59 j = Md.2 59 j := fun j => by rw [oe.2]
        have m59 : ∀ j, Mc.2 59 j = M.2 59 j := fun j => by rw [oc.2, b2c 59 (by omega)]
        have f58 : Md.1 58 s = nI z := by rw [d1 58 (by decide), oc.1 58 (by decide), b1c 58 (by decide)]; exact e7
        have fb : Mb.1 (40 + 2 * s) 1 = nI z := by rw [b1c _ (by omega)]; exact e6
        refine ⟨(nI z, Mb), (nI z, Me), ?_, ?_, rfl, ⟨G, WG_t hw, RG_cg hw hg (fun c w1 w2 => hc c (by omega) (by omega) (by omega)), re⟩, KE_c (KE_mono hK (by omega)) (fun c w => hc c (by omega) (by omega) (by omega)) (by rw [hc 0 (by omega) (by omega) (by omega)]) (by rw [hc 49 (by omega) (by omega) (by omega)]), FE_c hF (hc 48 (by omega) (by omega) (by omega)) (hc 54 (by omega) (by omega) (by omega)), TE_c hT (hc 37 (by omega) (by omega) (by omega)) (hc 56 (by omega) (by omega) (by omega)) (by rw [hc 36 (by omega) (by omega) (by omega)]) (by rw [hc 49 (by omega) (by omega) (by omega)]), SE_up hS hs e1 e2 e3 (fun u hu hn => ⟨hc _ (by omega) (by omega) (by omega), by rw [hc 57 (by omega) (by omega) (by omega)], by rw [hc 58 (by omega) (by omega) (by omega)], by rw [hc2 _ (by omega), b2c _ (by omega)], fun i hi => ?_⟩) (by rw [hc _ (by omega) (by omega) (by omega)]; exact e4) (by rw [hc 57 (by omega) (by omega) (by omega)]; exact e5) (by rw [hc _ (by omega) (by omega) (by omega)]; exact e6) (by rw [hc 58 (by omega) (by omega) (by omega)]; exact e7) (fun i hi => ?_)⟩
        · unfold fX5_book
          rw [bkf_c (k := 0) hw hg hs hb q e4, Option.bind_some, if_pos h2, if_pos rfl, ldS_n hs, Option.bind_some, ldW_n (by omega), Option.bind_some, p1, Option.bind_some]
          refine Eq.trans p2 ?_
          rw [fb]
        · unfold fX6_book
          rw [bkf_m (k := 0) hw sb hs hb q (by rw [b1c 57 (by decide)]; exact e5), Option.bind_some, if_pos h2, if_pos rfl, s1, Option.bind_some]
          refine Eq.trans p3 ?_
          rw [ldI_n hs (by decide), Option.bind_some, f58, s3]; rfl
        · rw [h59, d4 _ (by omega), m59]
        · rw [hc2 _ (by omega), h59]
          by_cases w : i < z
          · have x1 := c3 i w
            have x2 := d3 i w
            rw [Nat.zero_add] at x1 x2
            rw [x1, x2]
          · rw [c4 i (by omega), d4 _ (by omega), m59, o1.2]; exact e8 i hi
      · refine ⟨(fnd 0, tellM 0 M), (fnd 0, findM 0 (tellM 0 M)), ?_, ?_, rfl, Inv_fin (i := 0) hI' (by decide)⟩
        · unfold fX5_book; rw [bkf_c (k := 0) hw hg hs hb q e4, Option.bind_some, if_neg h2, if_neg (fnd_ne 0 (by decide)), c_tell (by decide)]; rfl
        · unfold fX6_book; rw [bkf_m (k := 0) hw (RS_cg hsm (tell_1 0 M (by decide))) hs hb q (by rw [tell_1 0 M (by decide)]; exact e5), Option.bind_some, if_neg h2, if_neg (fnd_ne 0 (by decide)), m_finds (by decide)]; rfl
  · refine ⟨(fnd 0, tellM 0 M), (fnd 0, findM 0 (tellM 0 M)), ?_, ?_, rfl, Inv_fin (i := 0) hI (by decide)⟩
    · unfold fX5_book; rw [bkf_cb h1, Option.bind_some, if_neg (fnd_ne 0 (by decide)), c_tell (by decide)]; rfl
    · unfold fX6_book; rw [bkf_mb h1, Option.bind_some, if_neg (fnd_ne 0 (by decide)), m_finds (by decide)]; rfl
