/-! MATHS: ways that go by a sheet -/
def gbb (f : Nat → Int64) (G : Gd) : Nat → Nat → Wk → Bool
  | 0, _, _ => true
  | m + 1, i, u => if f i = (nI (u.2.1 / 4)).toInt64 then gbb f G m (i + 1) (mv1 G u) else false
theorem gbb_put (f : Nat → Int64) (G : Gd) (k : Nat) (a : Wk) (m : Nat) : ∀ (i : Nat) (u : Wk), gbb f (gPut G k a) m i u = gbb f G m i u := by
  induction m with
  | zero => intro i u; rfl
  | succ m ih =>
    intro i u
    show (if f i = (nI (u.2.1 / 4)).toInt64 then gbb f (gPut G k a) m (i + 1) (mv1 G u) else false) = _
    rw [ih]; rfl
theorem c_gbl {f : Nat → Int64} {s z B' : Nat} {G : Gd} (hs : s < 4) (hz : z ≤ 40) (hw : WG B' G) (m : Nat) : ∀ (i n B : Nat) (M : Mem) (u : Wk), RG 1 G M → RW 31 u M → okw B G u → B + 13 * m < 2 ^ 28 → M.1 (40 + 2 * s) 1 = nI z → (∀ j, j < 40 → M.2 (41 + 2 * s) j = f j) → i + m = z → m < n → ∃ M', fX5_goesByBook_2 (fun M7 => some ((1 : Int32), M7)) (40 + 2 * s) n (nI i) M = some (if gbb f G m i u = true then 1 else 0, M') ∧ One 31 M M' := by
  have h16 := hw.1
  induction m with
  | zero =>
    intro i n B M u hg hr hu hB e1 e2 e h
    obtain rfl : i = z := by omega
    obtain ⟨n, rfl⟩ : ∃ k, n = k + 1 := ⟨n - 1, by omega⟩
    exact ⟨M, by rw [fX5_goesByBook_2, e1, if_pos (Int32.le_refl _), if_pos (show gbb f G 0 i u = true from rfl)], One_rf _ _⟩
  | succ m ih =>
    intro i n B M u hg hr hu hB e1 e2 e h
    obtain ⟨n, rfl⟩ : ∃ k, n = k + 1 := ⟨n - 1, by omega⟩
    have h2 := hu.2.1
    rw [fX5_goesByBook_2, e1, if_neg (nI_ge (show i < z by omega) (by omega)), hr.2.1, c_fieldOf (by omega), show 40 + 2 * s + 1 = 41 + 2 * s by omega, ldJ_n (by omega) (by decide), Option.bind_some, e2 i (by omega)]
    by_cases q : f i = (nI (u.2.1 / 4)).toInt64
    · have ez : gbb f G (m + 1) i u = gbb f G m (i + 1) (mv1 G u) := if_pos q
      obtain ⟨M2, p2, r2, o2⟩ := c_move hw hg (show B < 2 ^ 28 by omega) hu hr
      obtain ⟨M', k1, k2⟩ := ih (i + 1) n (B + 13) M2 (mv1 G u) (RG_one hw hg o2 (by decide)) r2 (okw_mv hw hu) (by omega) (by rw [o2.1 _ (by omega)]; exact e1) (fun j hj => by rw [o2.2]; exact e2 j hj) (by omega) (by omega)
      exact ⟨M', by rw [ez, if_pos ((lg_eq _ _).mpr q), p2, Option.bind_some, nI_1, k1], One_tr o2 k2⟩
    · have ez : gbb f G (m + 1) i u = false := if_neg q
      exact ⟨M, by rw [ez, if_neg (fun w => q ((lg_eq _ _).mp w))]; rfl, One_rf _ _⟩
theorem m_isl {ρ : Type} {kx : Int32 → Mem → Option ρ} {f : Nat → Int64} {s z k : Nat} (hs : s < 4) (hz : z ≤ 40) (m : Nat) : ∀ (i n B : Nat) (M : Mem) (G : Gd), WG B G → RS 50 G M → k < gW G → B + 13 * m < 2 ^ 28 → M.1 58 s = nI z → (∀ j, j < 40 → M.2 59 (40 * s + j) = f j) → i + m = z → m + 1 < n → ∃ M', fX6_isSo_5 kx (nI s) (nI k) n 1 (nI i) M = kx (if gbb f G m i (gK G k) = true then 1 else 0) M' ∧ One 50 M M' := by
  induction m with
  | zero =>
    intro i n B M G hw hs1 hk hB e1 e2 e h
    obtain rfl : i = z := by omega
    obtain ⟨n, rfl⟩ : ∃ k, n = k + 1 := ⟨n - 1, by omega⟩
    exact ⟨M, by rw [fX6_isSo_5, ldI_n hs (by decide), Option.bind_some, e1, if_pos (Int32.le_refl _), if_pos (show gbb f G 0 i (gK G k) = true from rfl)], One_rf _ _⟩
  | succ m ih =>
    intro i n B M G hw hs1 hk hB e1 e2 e h
    have h16 := hw.1
    have h6 := hw.2.1
    obtain ⟨n, rfl⟩ : ∃ k, n = k + 1 := ⟨n - 1, by omega⟩
    obtain ⟨M2, p2, r2, o2⟩ := m_goes hw (show B < 2 ^ 28 by omega) hs1 hk
    have hw1 : WG (B + 13) (gPut G k (mv1 G (gK G k))) := WG_put (WG_mono hw (by omega)) (okw_mv hw (hw.2.2.2.2 k hk))
    rw [fX6_isSo_5, ldI_n hs (by decide), Option.bind_some, e1, if_neg (nI_ge (show i < z by omega) (by omega)), if_neg (by decide), m_ix5, ldJ_n (by omega) (by decide), Option.bind_some, e2 i (by omega), m_part1 (by omega), Option.bind_some, (hs1.2.2.2.2 k hk).2.1, p2, Option.bind_some, nI_1]
    by_cases q : f i = (nI ((gK G k).2.1 / 4)).toInt64
    · have ez : gbb f G (m + 1) i (gK G k) = gbb f G m (i + 1) (mv1 G (gK G k)) := if_pos q
      obtain ⟨M', k1, k2⟩ := ih (i + 1) n (B + 13) M2 _ hw1 r2 hk (by omega) (by rw [o2.1 _ (by decide)]; exact e1) (fun j hj => by rw [o2.2]; exact e2 j hj) (by omega) (by omega)
      rw [gPut_at, gbb_put] at k1
      exact ⟨M', by rw [ez, if_pos ((lg_eq _ _).mpr q), k1], One_tr o2 k2⟩
    · have ez : gbb f G (m + 1) i (gK G k) = false := if_neg q
      obtain ⟨n, rfl⟩ : ∃ k, n = k + 1 := ⟨n - 1, by omega⟩
      refine ⟨M2, ?_, o2⟩
      rw [ez, if_neg (fun w => q ((lg_eq _ _).mp w)), fX6_isSo_5, ldI_n hs (by decide), Option.bind_some, o2.1 58 (by decide), e1]
      by_cases w : nI z ≤ nI (i + 1)
      · rw [if_pos w]; rfl
      · rw [if_neg w, if_pos rfl]; rfl
def rdc (f : Nat → Int64) (G : Gd) (z : Nat) (u : Wk) : Nat → Nat → Nat → Nat
  | 0, _, c => c
  | m + 1, i, c => rdc f G z u m (i + 1) (if gbb f G z 0 (u.1, i, u.2.2) = true then c + 1 else c)
theorem c_rdl {ρ : Type} {kx : Int32 → Mem → Option ρ} {f : Nat → Int64} {s z k B : Nat} {G : Gd} (hs : s < 4) (hz : z ≤ 40) (hw : WG B G) (hk : k < gW G) (hB : B + 13 * z < 2 ^ 28) (m : Nat) : ∀ (i n c : Nat) (M : Mem), RG 1 G M → M.1 (40 + 2 * s) 1 = nI z → (∀ j, j < 40 → M.2 (41 + 2 * s) j = f j) → i + m = 4 * gF G → m < n → ∃ M', fX5_read_23 kx (nI s) (nI k) n (nI c) (nI i) M = kx (nI (rdc f G z (gK G k) m i c)) M' ∧ One 31 M M' := by
  have h16 := hw.1
  have h6 := hw.2.1
  induction m with
  | zero =>
    intro i n c M hg e1 e2 e h
    obtain rfl : i = 4 * gF G := by omega
    obtain ⟨n, rfl⟩ : ∃ k, n = k + 1 := ⟨n - 1, by omega⟩
    exact ⟨M, by rw [fX5_read_23, c_ways hg, if_pos (Int32.le_refl _)]; rfl, One_rf _ _⟩
  | succ m ih =>
    intro i n c M hg e1 e2 e h
    obtain ⟨n, rfl⟩ : ∃ k, n = k + 1 := ⟨n - 1, by omega⟩
    obtain ⟨Ma, p1, r1, o1⟩ := c_become (B := 0) (c := 31) hg hk h6 (by decide)
    obtain ⟨w1, w2, w3, w4⟩ := hw.2.2.2.2 k hk
    have oa := One_tr o1 (One_set Ma 31 1 (nI i))
    have ga := RG_one hw hg oa (by decide)
    have ra : RW 31 ((gK G k).1, i, (gK G k).2.2) (setI Ma 31 1 (nI i)) := ⟨by rw [sI_j _ _ (by decide)]; exact r1.1, sI_s _ _ _ _, by rw [sI_j _ _ (by decide)]; exact r1.2.2.1, by rw [sI_j _ _ (by decide)]; exact r1.2.2.2⟩
    obtain ⟨Mb, p2, o2⟩ := c_gbl (f := f) hs hz hw z 0 FU B (setI Ma 31 1 (nI i)) _ ga ra ⟨w1, show i < 4 * gF G by omega, w3, w4⟩ hB (by rw [oa.1 _ (by omega)]; exact e1) (fun j hj => by rw [oa.2]; exact e2 j hj) (Nat.zero_add _) (by unfold FU; omega)
    have ob := One_tr oa o2
    obtain ⟨M', k1, k2⟩ := ih (i + 1) n (if gbb f G z 0 ((gK G k).1, i, (gK G k).2.2) = true then c + 1 else c) Mb (RG_one hw hg ob (by decide)) (by rw [ob.1 _ (by omega)]; exact e1) (fun j hj => by rw [ob.2]; exact e2 j hj) (by omega) (by omega)
    refine ⟨M', ?_, One_tr ob k2⟩
    rw [fX5_read_23, c_ways hg, if_neg (nI_ge (show i < 4 * gF G by omega) (by omega)), ldW_n (by omega), Option.bind_some, p1, Option.bind_some, ldS_n hs, Option.bind_some]
    have p2' : fX5_goesByBook (40 + 2 * s) (setI Ma 31 1 (nI i)) = _ := p2
    rw [p2', Option.bind_some, nI_1, nI_1]
    refine Eq.trans ?_ k1
    by_cases q : gbb f G z 0 ((gK G k).1, i, (gK G k).2.2) = true
    · rw [if_pos q, if_pos q]; rfl
    · rw [if_neg q, if_neg q]; rfl
theorem m_stands {B : Nat} {G : Gd} {M : Mem} (hw : WG B G) (hs : RS 50 G M) {k w : Nat} (hk : k < gW G) (hl : w < 4 * gF G) : ∃ M', fX6_stands (nI k) (nI w) M = some M' ∧ RS 50 (gPut G k ((gK G k).1, w, (gK G k).2.2)) M' ∧ One 50 M M' := by
  have h16 := hw.1
  have h6 := hw.2.1
  obtain ⟨s1, s2, s3, s4, s5⟩ := hs.2.2.2.2 k hk
  refine ⟨setI (setI M 50 (83 + 5 * k) (nI (w / 4))) 50 (84 + 5 * k) (nI (w % 4)), ?_, RS_wk hs h16 (by omega) (by omega) (Or.inr (Nat.le_refl _)) _ (fun j q1 q2 => by rw [sI_j _ _ (by omega), sI_j _ _ (by omega)]) (by rw [sI_j _ _ (by omega), sI_j _ _ (by omega)]; exact hs.2.1) ⟨by rw [sI_j _ _ (by omega), sI_j _ _ (by omega)]; exact s1, by rw [sI_j _ _ (by omega), sI_s], sI_s _ _ _ _, by rw [sI_j _ _ (by omega), sI_j _ _ (by omega)]; exact s4, by rw [sI_j _ _ (by omega), sI_j _ _ (by omega)]; exact s5⟩, One_tr (One_set _ _ _ _) (One_set _ _ _ _)⟩
  unfold fX6_stands
  rw [rem4 (by omega), div4 (by omega), m_sp1, m_sp2, stI_n (by omega) (by decide), Option.bind_some, stI_n (by omega) (by decide)]; rfl
theorem m_rdl {ρ : Type} {kx : Int32 → Mem → Option ρ} {f : Nat → Int64} {s z k B : Nat} {G : Gd} (hs : s < 4) (hz : z ≤ 40) (hw : WG B G) (hk : k < gW G) (hB : B + 13 * z < 2 ^ 28) (m : Nat) : ∀ (i n c : Nat) (M : Mem), RS 50 G M → RS 53 G M → M.1 58 s = nI z → (∀ j, j < 40 → M.2 59 (40 * s + j) = f j) → i + m = 4 * gF G → m < n → ∃ M', fX6_read_27 kx (nI s) (nI k) n (nI c) (nI i) M = kx (nI (rdc f G z (gK G k) m i c)) M' ∧ RS 50 G M' ∧ One 50 M M' := by
  have h16 := hw.1
  have h6 := hw.2.1
  have e4 : (4 : Int32) * nI (gF G) = nI (4 * gF G) := pk_mul 4 (gF G)
  induction m with
  | zero =>
    intro i n c M h50 h53 e1 e2 e h
    obtain rfl : i = 4 * gF G := by omega
    obtain ⟨n, rfl⟩ : ∃ k, n = k + 1 := ⟨n - 1, by omega⟩
    exact ⟨M, by rw [fX6_read_27, ld50_0, Option.bind_some, h50.1, e4, if_pos (Int32.le_refl _)]; rfl, h50, One_rf _ _⟩
  | succ m ih =>
    intro i n c M h50 h53 e1 e2 e h
    obtain ⟨n, rfl⟩ : ∃ k, n = k + 1 := ⟨n - 1, by omega⟩
    obtain ⟨w1, w2, w3, w4⟩ := hw.2.2.2.2 k hk
    obtain ⟨Ma, p1, r1, o1⟩ := m_stands hw h50 hk (show i < 4 * gF G by omega)
    have hwa : WG B (gPut G k ((gK G k).1, i, (gK G k).2.2)) := WG_put hw ⟨w1, show i < 4 * gF G by omega, w3, w4⟩
    obtain ⟨Mb, p2, o2⟩ := m_isl (kx := fun u12 M13 => (if u12 = 0 then some ((0 : Int32), M13) else some ((1 : Int32), M13))) (f := f) (k := k) hs hz z 0 FU B Ma _ hwa r1 hk hB (by rw [o1.1 _ (by decide)]; exact e1) (fun j hj => by rw [o1.2]; exact e2 j hj) (Nat.zero_add _) (by unfold FU; omega)
    rw [gPut_at, gbb_put] at p2
    have ob := One_tr o1 o2
    obtain ⟨Mc, p3, r3, o3⟩ := m_takesBack hw (RS_cg h53 (ob.1 53 (by decide))) (if gbb f G z 0 ((gK G k).1, i, (gK G k).2.2) = true then 1 else 0)
    have oc := One_tr ob o3
    obtain ⟨M', k1, k2, k3⟩ := ih (i + 1) n (if gbb f G z 0 ((gK G k).1, i, (gK G k).2.2) = true then c + 1 else c) Mc r3 (RS_cg h53 (oc.1 53 (by decide))) (by rw [oc.1 _ (by decide)]; exact e1) (fun j hj => by rw [oc.2]; exact e2 j hj) (by omega) (by omega)
    refine ⟨M', ?_, k2, One_tr oc k3⟩
    have p2' : fX6_isSo (nI s) (nI k) Ma = some (if gbb f G z 0 ((gK G k).1, i, (gK G k).2.2) = true then 1 else 0, Mb) := by
      refine Eq.trans p2 ?_
      by_cases q : gbb f G z 0 ((gK G k).1, i, (gK G k).2.2) = true
      · rw [if_pos q, if_neg (by decide)]
      · rw [if_neg q, if_pos rfl]
    rw [fX6_read_27, ld50_0, Option.bind_some, h50.1, e4, if_neg (nI_ge (show i < 4 * gF G by omega) (by omega)), p1, Option.bind_some, p2', Option.bind_some, p3, Option.bind_some, nI_1]
    refine Eq.trans ?_ k1
    by_cases q : gbb f G z 0 ((gK G k).1, i, (gK G k).2.2) = true
    · rw [if_pos q, if_pos q, nI_1]
    · rw [if_neg q, if_neg q]
      show fX6_read_27 kx (nI s) (nI k) n (nI c + nI 0) (nI (i + 1)) Mc = _
      rw [nI_add]; rfl
theorem ok_read {t : Nat} {M : Mem} (ht : t < 512) (hI : Inv t M) (a1 : Int32) (a2 : Int32) : ∃ v w, fX5_read a1 a2 M = some v ∧ fX6_read a1 a2 v.2 = some w ∧ v.1 = w.1 ∧ Inv (t + 1) w.2 := by
  by_cases h1 : okx 4 a1 = true
  · obtain ⟨s, hs, rfl⟩ := okx_t (by decide) h1
    obtain ⟨bt, z, e1, e2, e3, e4, e5, e6, e7, e8⟩ := hI.2.2.2.2 s hs
    have hb : bt ≤ 64 := by omega
    by_cases q : bt = 0
    · refine ⟨(fnd 5, tellM 5 M), (fnd 5, findM 5 (tellM 5 M)), ?_, ?_, rfl, Inv_fin (i := 5) hI (by decide)⟩
      · unfold fX5_read; rw [bkf_c0 hs hb q e4, Option.bind_some, if_neg (fnd_ne 5 (by decide)), c_tell (by decide)]; rfl
      · unfold fX6_read; rw [bkf_m0 hs hb q (by rw [tell_1 5 M (by decide)]; exact e5), Option.bind_some, if_neg (fnd_ne 5 (by decide)), m_finds (by decide)]; rfl
    · refine ok_of2 hI (fun G hw hg => ?_)
      have h16 := hw.1
      have h6 := hw.2.1
      by_cases h2 : okx (gW G) a2 = true
      · obtain ⟨k, hk, rfl⟩ := okx_t (by omega) h2
        obtain ⟨Ma, p1, o1⟩ := c_rdl (kx := fun u14 M15 => some (u14, M15)) (f := M.2 (41 + 2 * s)) hs e2 hw hk (by omega) (4 * gF G) 0 FU 0 M hg e6 (fun j _ => rfl) (Nat.zero_add _) (by unfold FU; omega)
        refine ⟨nI (rdc (M.2 (41 + 2 * s)) G z (gK G k) (4 * gF G) 0 0), G, none, WG_t hw, o0, ⟨Ma, ?_, RG_one hw hg o1 (by decide), FC_one o1 (by omega) (by omega) (by omega), o1.1 48 (by omega)⟩, fun M1 hs1 fc => ?_⟩
        · unfold fX5_read
          rw [bkf_c (k := 0) hw hg hs hb q e4, Option.bind_some, if_pos h2, if_pos rfl]
          exact p1
        · obtain ⟨Mc, s1, sc, sd, oc⟩ := m_laysAside hw hs1
          obtain ⟨Mb, p2, r2, o2⟩ := m_rdl (kx := fun u15 M16 => some (u15, M16)) (f := M.2 (41 + 2 * s)) hs e2 hw hk (by omega) (4 * gF G) 0 FU 0 Mc sc sd (by rw [oc.1 58 (by decide), (fc.1 58 (by omega)).1]; exact e7) (fun j hj => by rw [oc.2, (fc.1 59 (by omega)).2]; exact (e8 j hj).symm) (Nat.zero_add _) (by unfold FU; omega)
          refine ⟨Mb, ?_, r2, FM_tr (FM_one oc (by omega) (by omega)) (FM_one o2 (by omega) (by omega)), (o2.1 54 (by omega)).trans (oc.1 54 (by omega))⟩
          unfold fX6_read
          rw [bkf_m (k := 0) hw hs1 hs hb q (by rw [(fc.1 57 (by omega)).1]; exact e5), Option.bind_some, if_pos h2, if_pos rfl, s1, Option.bind_some]
          exact p2
      · refine ⟨fnd 0, G, some 0, WG_t hw, o7 (by decide), csp_fin hw hg ?_, fun M1 hs1 fc => msp_fin hs1 ?_⟩
        · unfold fX5_read; rw [bkf_c (k := 0) hw hg hs hb q e4, Option.bind_some, if_neg h2, if_neg (fnd_ne 0 (by decide)), c_tell (by decide)]; rfl
        · unfold fX6_read; rw [bkf_m (k := 0) hw hs1 hs hb q (by rw [(fc.1 57 (by omega)).1]; exact e5), Option.bind_some, if_neg h2, if_neg (fnd_ne 0 (by decide)), m_finds (by decide)]; rfl
  · refine ⟨(fnd 0, tellM 0 M), (fnd 0, findM 0 (tellM 0 M)), ?_, ?_, rfl, Inv_fin (i := 0) hI (by decide)⟩
    · unfold fX5_read; rw [bkf_cb h1, Option.bind_some, if_neg (fnd_ne 0 (by decide)), c_tell (by decide)]; rfl
    · unfold fX6_read; rw [bkf_mb h1, Option.bind_some, if_neg (fnd_ne 0 (by decide)), m_finds (by decide)]; rfl
