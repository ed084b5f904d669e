/-! MATHS: a walker led on -/
theorem gPut_self (G : Gd) (k : Nat) : gPut G k (gK G k) = G := by
  have e : va_up (gK G) k (gK G k) = gK G := by
    funext j; unfold va_up; by_cases q : j = k
    · rw [if_pos q, q]
    · rw [if_neg q]
  show gSetK G (gW G) (va_up (gK G) k (gK G k)) = G
  rw [e]; rfl
theorem csp_fin' {f : Mem → Option (Int32 × Mem)} {M M1 : Mem} {G : Gd} {B i : Nat} (hw : WG B G) (hg : RG 1 G M1) (hf : FC M M1) (h8 : M1.1 48 = M.1 48) (h : f M = some (fnd i, tellM i M1)) : CSp f M (fnd i) G (some i) := by
  refine ⟨_, h, RG_cg hw hg (fun c q1 q2 => sI_c M1 _ _ (by omega)), FC_tr hf (FC_set M1 _ _ (by omega) (by omega) (by omega)), ?_⟩
  rw [← h8]; exact setI_eq M1
theorem msp_fin' {f : Mem → Option (Int32 × Mem)} {M M1 : Mem} {G : Gd} {i : Nat} (hs : RS 50 G M1) (hf : FM M M1) (h8 : M1.1 54 = M.1 54) (h : f M = some (fnd i, findM i M1)) : MSp f M (fnd i) G (some i) := by
  refine ⟨_, h, RS_cg hs (sI_c M1 _ _ (by decide)), FM_tr hf (FM_set M1 _ _ (by omega) (by omega) (by omega)), ?_⟩
  rw [← h8]; exact setI_eq M1
theorem c_often {ρ : Type} {kx : Mem → Option ρ} {B' c : Nat} {G : Gd} (hc : 11 ≤ c) (hw : WG B' G) (m : Nat) : ∀ (i n B N : Nat) (M : Mem) (u : Wk), RG 1 G M → RW c u M → okw B G u → B + 13 * m < 2 ^ 28 → i + m = N → N < 2 ^ 31 → m < n → ∃ M', fX4_moveOften_2 kx c (nI N) n (nI i) M = kx M' ∧ RW c (mvn G m u) M' ∧ One c M M' := by
  induction m with
  | zero =>
    intro i n B N M u hg hr hu hB e hN h
    obtain rfl : i = N := by omega
    obtain ⟨n, rfl⟩ : ∃ k, n = k + 1 := ⟨n - 1, by omega⟩
    exact ⟨M, by rw [fX4_moveOften_2, if_pos (Int32.le_refl _)], hr, One_rf _ _⟩
  | succ m ih =>
    intro i n B N M u hg hr hu hB e hN h
    obtain ⟨n, rfl⟩ : ∃ k, n = k + 1 := ⟨n - 1, by omega⟩
    obtain ⟨M1, e1, r1, o1⟩ := c_move hw hg (show B < 2 ^ 28 by omega) hu hr
    obtain ⟨M', e2, r2, o2⟩ := ih (i + 1) n (B + 13) N M1 (mv1 G u) (RG_one hw hg o1 hc) r1 (okw_mv hw hu) (by omega) (by omega) hN (by omega)
    exact ⟨M', by rw [fX4_moveOften_2, if_neg (nI_ge (show i < N by omega) hN), e1, Option.bind_some, nI_1, e2], r2, One_tr o1 o2⟩
theorem m_onl {ρ : Type} {kx : Mem → Option ρ} {k : Nat} {y : Int32} (m : Nat) : ∀ (i n B N : Nat) (M : Mem) (G : Gd), WG B G → RS 50 G M → k < gW G → B + 13 * m < 2 ^ 28 → i + m = N → N < 2 ^ 31 → m < n → ∃ M', fX6_on_46 kx (nI k) (nI N) y n (nI i) M = kx M' ∧ RS 50 (gPut G k (mvn G m (gK G k))) M' ∧ One 50 M M' := by
  induction m with
  | zero =>
    intro i n B N M G hw hs hk hB e hN h
    obtain rfl : i = N := by omega
    obtain ⟨n, rfl⟩ : ∃ k, n = k + 1 := ⟨n - 1, by omega⟩
    exact ⟨M, by rw [fX6_on_46, if_pos (Int32.le_refl _)], by show RS 50 (gPut G k (gK G k)) M; rw [gPut_self]; exact hs, One_rf _ _⟩
  | succ m ih =>
    intro i n B N M G hw hs hk hB e hN h
    obtain ⟨n, rfl⟩ : ∃ k, n = k + 1 := ⟨n - 1, by omega⟩
    obtain ⟨M1, e1, r1, o1⟩ := m_goes hw (show B < 2 ^ 28 by omega) hs hk
    have hw1 : WG (B + 13) (gPut G k (mv1 G (gK G k))) := WG_put (WG_mono hw (by omega)) (okw_mv hw (hw.2.2.2.2 k hk))
    obtain ⟨M', e2, r2, o2⟩ := ih (i + 1) n (B + 13) N M1 _ hw1 r1 hk (by omega) (by omega) hN (by omega)
    rw [gPut_at, mvn_put, gPut_put] at r2
    exact ⟨M', by rw [fX6_on_46, if_neg (nI_ge (show i < N by omega) hN), e1, Option.bind_some, nI_1, e2], r2, One_tr o1 o2⟩
/-- the parts that `on` asks for -/
def prt (u : Wk) (j : Nat) : Nat := if j = 0 then u.2.1 / 4 else if j = 1 then u.2.1 % 4 else if j = 2 then u.2.2.1 else u.2.2.2
theorem ok_on {t : Nat} {M : Mem} (ht : t < 512) (hI : Inv t M) (a1 : Int32) (a2 : Int32) (a3 : Int32) : ∃ v w, fX5_on a1 a2 a3 M = some v ∧ fX6_on a1 a2 a3 v.2 = some w ∧ v.1 = w.1 ∧ Inv (t + 1) w.2 := by
  refine ok_of hI (fun G hw hg => ?_)
  have h16 := hw.1
  have h6 := hw.2.1
  have e2 : fX6_in a2.toInt64 0 100 = if okx 101 a2 = true then 1 else 0 := in_x a2 (n := 101) rfl
  have e3 : fX6_in a3.toInt64 0 3 = if okx 4 a3 = true then 1 else 0 := in_x a3 (n := 4) rfl
  by_cases h1 : okx (gW G) a1 = true
  · obtain ⟨k, hk, rfl⟩ := okx_t (by omega) h1
    have hu : okw (1400 * t) G (gK G k) := hw.2.2.2.2 k hk
    by_cases h2 : okx 101 a2 = true
    · obtain ⟨N, hN, rfl⟩ := okx_t (by decide) h2
      obtain ⟨Ma, p1, r1, o1⟩ := c_become (B := 0) (c := 31) hg hk h6 (by decide)
      have ga := RG_one hw hg o1 (by decide)
      obtain ⟨Mb, p2, r2, o2⟩ := c_often (kx := fun M4 => some M4) (c := 31) (by decide) hw N 0 FU (1400 * t) N Ma (gK G k) ga r1 hu (by omega) (by omega) (by omega) (by unfold FU; omega)
      have gb := RG_one hw ga o2 (by decide)
      have ob := One_tr o1 o2
      have fb : FC M Mb := FC_one ob (by omega) (by omega) (by omega)
      have b8 : Mb.1 48 = M.1 48 := ob.1 48 (by omega)
      have hm := okw_mvn hw N hu
      have hl : (mvn G N (gK G k)).2.1 < 4 * gF G := hm.2.1
      have p2' : fX4_moveOften 31 (nI N) Ma = some Mb := p2
      by_cases h3 : okx 4 a3 = true
      · obtain ⟨j, hj, rfl⟩ := okx_t (by decide) h3
        refine ⟨nI (prt (mvn G N (gK G k)) j), G, none, WG_t hw, o0, ⟨Mb, ?_, gb, fb, b8⟩, fun M1 hs => ?_⟩
        · unfold fX5_on
          rw [c_hasWalker hw hg, if_neg (b1 h1), c_isStepsOn, if_neg (b1 h2), ldW_n (by omega), Option.bind_some, p1, Option.bind_some, p2', Option.bind_some]
          obtain rfl | rfl | rfl | rfl : j = 0 ∨ j = 1 ∨ j = 2 ∨ j = 3 := by omega
          · rw [if_pos (by decide), r2.2.1, c_fieldOf (by omega)]; rfl
          · rw [if_neg (by decide), if_pos (by decide), r2.2.1, c_headingOf (by omega)]; rfl
          · rw [if_neg (by decide), if_neg (by decide), if_pos (by decide), r2.2.2.1]; rfl
          · rw [if_neg (by decide), if_neg (by decide), if_neg (by decide), if_pos (by decide), r2.2.2.2]; rfl
        · obtain ⟨Mc, s1, sc, sd, oc⟩ := m_laysAside hw hs
          obtain ⟨Md, s2, rd, od⟩ := m_onl (kx := fun M15 => ((fX6_partOf (nI k) (nI j + (1 : Int32)) M15).bind fun v16 => ((fX6_takesBack v16 M15).bind fun w18 => some (w18.1, w18.2)))) (k := k) (y := nI j) N 0 FU (1400 * t) N Mc G hw sc hk (by omega) (by omega) (by omega) (by unfold FU; omega)
          obtain ⟨Me, s3, re, oe⟩ := m_takesBack hw (RS_cg sd (od.1 53 (by decide))) (nI (prt (mvn G N (gK G k)) j))
          have oo := One_tr od oe
          refine ⟨Me, ?_, re, FM_tr (FM_one oc (by omega) (by omega)) (FM_one oo (by omega) (by omega)), (oo.1 54 (by decide)).trans (oc.1 54 (by decide))⟩
          have k5 := rd.2.2.2.2 k hk
          rw [gPut_at] at k5
          have hp : fX6_partOf (nI k) (nI j + (1 : Int32)) Md = some (nI (prt (mvn G N (gK G k)) j)) := by
            obtain rfl | rfl | rfl | rfl : j = 0 ∨ j = 1 ∨ j = 2 ∨ j = 3 := by omega
            · rw [show nI 0 + (1 : Int32) = 1 from rfl, m_part1 (by omega), k5.2.1]; rfl
            · rw [show nI 1 + (1 : Int32) = 2 by decide, m_part2 (by omega), k5.2.2.1]; rfl
            · rw [show nI 2 + (1 : Int32) = 3 by decide, m_part3 (by omega), k5.2.2.2.1]; rfl
            · rw [show nI 3 + (1 : Int32) = 4 by decide, m_part4 (by omega), k5.2.2.2.2]; rfl
          unfold fX6_on
          rw [m_isWalker hw hs, Option.bind_some, if_neg (b1 h1), e2, if_neg (b1 h2), e3, if_neg (b1 h3), s1, Option.bind_some, show (0 : Int32) = nI 0 from rfl, s2, hp, Option.bind_some, s3]; rfl
      · have n (x : Int32) (hx : okx 4 x = true) : ¬ a3 = x := fun q => h3 (by rw [q]; exact hx)
        refine ⟨fnd 0, G, some 0, WG_t hw, o7 (by decide), csp_fin' hw gb fb b8 ?_, fun M1 hs => msp_fin hs ?_⟩
        · unfold fX5_on
          rw [c_hasWalker hw hg, if_neg (b1 h1), c_isStepsOn, if_neg (b1 h2), ldW_n (by omega), Option.bind_some, p1, Option.bind_some, p2', Option.bind_some, if_neg (n _ (by decide)), if_neg (n _ (by decide)), if_neg (n _ (by decide)), if_neg (n _ (by decide)), tb0]
        · unfold fX6_on
          rw [m_isWalker hw hs, Option.bind_some, if_neg (b1 h1), e2, if_neg (b1 h2), e3, if_pos (b0 h3), mb0]
    · refine ⟨fnd 0, G, some 0, WG_t hw, o7 (by decide), csp_fin hw hg ?_, fun M1 hs => msp_fin hs ?_⟩
      · unfold fX5_on; rw [c_hasWalker hw hg, if_neg (b1 h1), c_isStepsOn, if_pos (b0 h2), tb0]
      · unfold fX6_on; rw [m_isWalker hw hs, Option.bind_some, if_neg (b1 h1), e2, if_pos (b0 h2), mb0]
  · refine ⟨fnd 0, G, some 0, WG_t hw, o7 (by decide), csp_fin hw hg ?_, fun M1 hs => msp_fin hs ?_⟩
    · unfold fX5_on; rw [c_hasWalker hw hg, if_pos (b0 h1), tb0]
    · unfold fX6_on; rw [m_isWalker hw hs, Option.bind_some, if_pos (b0 h1), mb0]
