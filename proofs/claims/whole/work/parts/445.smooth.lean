/-! MATHS: the smoothest way -/
theorem m_q25 {ρ : Type} {kx : Mem → Option ρ} {B f : Nat} {G : Gd} {y2 : Int32} (hw : WG B G) (hf : f < gF G) (m : Nat) : ∀ (i n : Nat) (M : Mem), RS 50 G M → i + m = gF G → m < n → ∃ M', fX6_smooth_25 kx (nI f) y2 n (nI i) M = kx M' ∧ One 55 M M' ∧ (∀ j, i ≤ j → j < gF G → M'.1 55 j = nI (ini f j)) ∧ ∀ j, j < i → M'.1 55 j = M.1 55 j := by
  have h16 := hw.1
  induction m with
  | zero =>
    intro i n M hs e h
    obtain rfl : i = gF G := by omega
    obtain ⟨n, rfl⟩ : ∃ k, n = k + 1 := ⟨n - 1, by omega⟩
    exact ⟨M, by rw [fX6_smooth_25, ld50_0, Option.bind_some, hs.1, if_pos (Int32.le_refl _)], One_rf _ _, fun j q1 q2 => absurd q1 (by omega), fun j q => rfl⟩
  | succ m ih =>
    intro i n M hs e h
    obtain ⟨n, rfl⟩ : ∃ k, n = k + 1 := ⟨n - 1, by omega⟩
    have hv : (if nI i = nI f then (0 : Int32) else 1000000) = nI (ini f i) := by
      unfold ini va_up far0
      by_cases q : i = f
      · rw [if_pos (by rw [q]), if_pos q]; rfl
      · rw [if_neg (fun z => q ((nI_eq (by omega) (by omega)).mp z)), if_neg q]; rfl
    obtain ⟨M', e1, o1, a1, z1⟩ := ih (i + 1) n (setI M 55 i (nI (ini f i))) (RS_cg hs (sI_c _ _ _ (by decide))) (by omega) (by omega)
    refine ⟨M', ?_, One_tr (One_set _ _ _ _) o1, fun j q1 q2 => ?_, fun j q => ?_⟩
    · rw [fX6_smooth_25, ld50_0, Option.bind_some, hs.1, if_neg (nI_ge (show i < gF G by omega) (by omega)), hv, stI_n (by omega) (by decide), Option.bind_some, nI_1, e1]
    · by_cases q : j = i
      · rw [q, z1 i (by omega), sI_s]
      · exact a1 j (by omega) q2
    · rw [z1 j (by omega), sI_j _ _ (by omega)]
theorem trn_4 (u q : Nat) : trn u q / 4 = u / 4 := by unfold trn; omega
theorem on1_s {G : Gd} {w u : Nat} (h : gG G w = some u) : on1 G w = some (trn u 2) := by unfold on1; rw [h]; rfl
theorem on1_n {G : Gd} {w : Nat} (h : gG G w = none) : on1 G w = none := by unfold on1; rw [h]; rfl
theorem RD_same {c n i : Nat} {d : Nat → Nat} {M : Mem} (h : RD c n d M) (v : Int32) (hv : v = nI (d i)) : RD c n d (setI M c i v) := fun x hx => by
  rw [sI_if]
  by_cases q : x = i
  · rw [if_pos ⟨rfl, q⟩, hv, q]
  · rw [if_neg (fun z => q z.2)]; exact h x hx
theorem m_q69 {ρ : Type} {kx : Mem → Option ρ} {B : Nat} {G : Gd} {y2 y3 : Int32} (hw : WG B G) (m : Nat) : ∀ (i n : Nat) (M : Mem) (d : Nat → Nat), RS 50 G M → RD 55 (gF G) d M → Bd d → i + m = 4 * gF G → m < n → ∃ M', fX6_smooth_69 kx y2 y3 n (nI i) M = kx M' ∧ RD 55 (gF G) (rdw (eF G (gR G)) m i d) M' ∧ One 55 M M' := by
  have h16 := hw.1
  have e4 : (4 : Int32) * nI (gF G) = nI (4 * gF G) := pk_mul 4 (gF G)
  induction m with
  | zero =>
    intro i n M d hs hr hb e h
    obtain rfl : i = 4 * gF G := by omega
    obtain ⟨n, rfl⟩ : ∃ k, n = k + 1 := ⟨n - 1, by omega⟩
    exact ⟨M, by rw [fX6_smooth_69, ld50_0, Option.bind_some, hs.1, e4, if_pos (Int32.le_refl _)], hr, One_rf _ _⟩
  | succ m ih =>
    intro i n M d hs hr hb e h
    obtain ⟨n, rfl⟩ : ∃ k, n = k + 1 := ⟨n - 1, by omega⟩
    have hl : i < 4 * gF G := by omega
    have hd := hb (i / 4)
    rw [fX6_smooth_69, ld50_0, Option.bind_some, hs.1, e4, if_neg (nI_ge hl (by omega)), m_ix3, m_glued hs (by omega), Option.bind_some, Option.bind_some, div4 (by omega), ldI_n (M := M) (c := 55) (k := i / 4) (by omega) (by decide), hr (i / 4) (by omega), nI_1]
    cases ho : gG G i with
    | none =>
      have er : rdw (eF G (gR G)) (m + 1) i d = rdw (eF G (gR G)) m (i + 1) d := by
        show rdw (eF G (gR G)) m (i + 1) ((eF G (gR G) i).foldl rel d) = _
        rw [eF_n (on1_n ho)]; rfl
      obtain ⟨M', k1, k2, k3⟩ := ih (i + 1) n (setI M 55 (i / 4) (nI (d (i / 4)))) d (RS_cg hs (sI_c _ _ _ (by decide))) (RD_same hr _ rfl) hb (by omega) (by omega)
      rw [er]
      refine ⟨M', ?_, k2, One_tr (One_set _ _ _ _) k3⟩
      rw [if_pos (show gm none = 0 from rfl), Option.bind_some, Option.bind_some, m_ix4, ldI_n (by omega) (by decide), Option.bind_some, Option.bind_some, if_pos (show gm none ≤ 0 by decide), ldI_n (by omega) (by decide), hr (i / 4) (by omega), Option.bind_some, Option.bind_some, stI_n (by omega) (by decide), Option.bind_some, k1]
    | some u =>
      have hu := (hw.2.2.2.1 i u ho).2.1
      have hd2 := hb (u / 4)
      have hR := hw.2.2.1 (u / 4) (by omega)
      have er : rdw (eF G (gR G)) (m + 1) i d = rdw (eF G (gR G)) m (i + 1) (rel d (i / 4, u / 4, gR G (u / 4))) := by
        show rdw (eF G (gR G)) m (i + 1) ((eF G (gR G) i).foldl rel d) = _
        rw [eF_s (on1_s ho), trn_4]; rfl
      have hle : nI (d (u / 4)) ≤ nI (d (i / 4) + gR G (u / 4)) ↔ d (u / 4) ≤ d (i / 4) + gR G (u / 4) := nI_leI (by omega) (by omega)
      rw [er, show gm (some u) = nI (u + 1) from rfl, if_neg (nI_ne0 (by omega) (by omega)), Option.bind_some, nI_pred, div4 (by omega), Option.bind_some, m_ix4, ldI_n (M := M) (c := 50) (by omega) (by decide), Option.bind_some, hs.2.2.1 (u / 4) (by omega), Option.bind_some, if_neg (nI_nle (by omega) (by omega)), ldI_n (M := M) (c := 55) (k := u / 4) (by omega) (by decide), Option.bind_some, Option.bind_some, hr (u / 4) (by omega), nI_add]
      by_cases q : d (u / 4) ≤ d (i / 4) + gR G (u / 4)
      · have e1 : rel d (i / 4, u / 4, gR G (u / 4)) = d := if_neg (show ¬ d (i / 4) + gR G (u / 4) < d (u / 4) by omega)
        obtain ⟨M', k1, k2, k3⟩ := ih (i + 1) n (setI M 55 (u / 4) (nI (d (u / 4)))) d (RS_cg hs (sI_c _ _ _ (by decide))) (RD_same hr _ rfl) hb (by omega) (by omega)
        rw [e1]
        refine ⟨M', ?_, k2, One_tr (One_set _ _ _ _) k3⟩
        rw [if_pos (hle.mpr q), Option.bind_some, stI_n (by omega) (by decide), Option.bind_some, k1]
      · have e1 : rel d (i / 4, u / 4, gR G (u / 4)) = va_up d (u / 4) (d (i / 4) + gR G (u / 4)) := if_pos (show d (i / 4) + gR G (u / 4) < d (u / 4) by omega)
        obtain ⟨M', k1, k2, k3⟩ := ih (i + 1) n (setI M 55 (u / 4) (nI (d (i / 4) + gR G (u / 4)))) (rel d (i / 4, u / 4, gR G (u / 4))) (RS_cg hs (sI_c _ _ _ (by decide))) (by rw [e1]; exact RD_set hr) (Bd_rel hb _) (by omega) (by omega)
        refine ⟨M', ?_, k2, One_tr (One_set _ _ _ _) k3⟩
        rw [if_neg (fun z => q (hle.mp z)), Option.bind_some, stI_n (by omega) (by decide), Option.bind_some, k1]
theorem m_q60 {ρ : Type} {kx : Mem → Option ρ} {B : Nat} {G : Gd} {y2 : Int32} (hw : WG B G) (m : Nat) : ∀ (r n : Nat) (M : Mem) (d : Nat → Nat), RS 50 G M → RD 55 (gF G) d M → Bd d → r + m = 16 → m < n → ∃ M', fX6_smooth_60 kx y2 n (nI r) M = kx M' ∧ RD 55 (gF G) (itR (eF G (gR G)) (4 * gF G) m d) M' ∧ One 55 M M' := by
  have h16 := hw.1
  induction m with
  | zero =>
    intro r n M d hs hr hb e h
    obtain rfl : r = 16 := by omega
    obtain ⟨n, rfl⟩ : ∃ k, n = k + 1 := ⟨n - 1, by omega⟩
    exact ⟨M, by rw [fX6_smooth_60, if_pos (by decide)], hr, One_rf _ _⟩
  | succ m ih =>
    intro r n M d hs hr hb e h
    obtain ⟨n, rfl⟩ : ∃ k, n = k + 1 := ⟨n - 1, by omega⟩
    rw [fX6_smooth_60, if_neg (show ¬ (16 : Int32) ≤ nI r from nI_ge (b := 16) (by omega) (by decide))]
    obtain ⟨M1, p1, r1, o1⟩ := m_q69 (kx := fun M47 => (fX6_smooth_60 kx y2 n (nI r + (1 : Int32)) M47)) (y2 := y2) (y3 := nI r) hw (4 * gF G) 0 FU M d hs hr hb (Nat.zero_add _) (by unfold FU; omega)
    obtain ⟨M', p2, r2, o2⟩ := ih (r + 1) n M1 (rdw (eF G (gR G)) (4 * gF G) 0 d) (RS_cg hs (o1.1 50 (by decide))) r1 (Bd_rdw hb _ _ _) (by omega) (by omega)
    refine ⟨M', ?_, r2, One_tr o1 o2⟩
    refine Eq.trans p1 ?_
    rw [nI_1]; exact p2
theorem Bd_it {d : Nat → Nat} (h : Bd d) (es : Nat → List Ed) (N k : Nat) : Bd (itR es N k d) := fun x => Nat.le_trans (itR_mono es N d x (Nat.zero_le k)) (h x)
theorem m_orN {x : Nat} (hx : x ≤ 1000000) (M : Mem) : ((fX6_orNone (nI x) (999999 : Int32) M).bind fun w => some (w.1, w.2)) = if x = 1000000 then some (fnd 3, findM 3 M) else some (nI x, M) := by
  unfold fX6_orNone
  by_cases q : x = 1000000
  · rw [if_neg (show ¬ nI x ≤ (999999 : Int32) from nI_ge (a := 999999) (by omega) (by omega)), if_pos q, mb3]; rfl
  · rw [if_pos (show nI x ≤ (999999 : Int32) from (nI_leI (b := 999999) (by omega) (by omega)).mpr (by omega)), if_neg q]; rfl
theorem FC_33 {c : Nat} {M M' : Mem} (h : One c M M') (hc : 31 ≤ c) (hc2 : c ≤ 35) : FC M M' := FC_one h (by omega) (by omega) (by omega)
theorem c_least {B f g : Nat} {G : Gd} {cst : Nat → Nat} {y3 : Int32} {M : Mem} (hw : WG B G) (hg : RG 1 G M) (hk : isCst G cst y3) (hf : f < gF G) (hg2 : g < gF G) : ∃ M', RD 33 16 (itR (eF G cst) (4 * gF G) 16 (ini f)) M' ∧ One 33 M M' ∧ fX5_least (nI f) (nI g) y3 M = if itR (eF G cst) (4 * gF G) 16 (ini f) g = 1000000 then some (fnd 3, tellM 3 M') else some (nI (itR (eF G cst) (4 * gF G) 16 (ini f) g), M') := by
  have h16 := hw.1
  obtain ⟨M', e1, r1, o1⟩ := c_spread al_33 (by decide) hw hg hk hf
  refine ⟨M', r1, o1, ?_⟩
  have hb := Bd_it (Bd_ini f) (eF G cst) (4 * gF G) 16 g
  unfold fX5_least
  rw [c_hasField hw hg, if_neg (b1 (okx_tt hf (by omega))), c_hasField hw hg, if_neg (b1 (okx_tt hg2 (by omega))), e1, Option.bind_some, ldI_n (by omega) (by decide), Option.bind_some, r1 g (by omega), tb3]
  by_cases q : itR (eF G cst) (4 * gF G) 16 (ini f) g = 1000000
  · rw [if_pos q, if_pos (by rw [q]; rfl)]
  · rw [if_neg q, if_neg (show ¬ nI (itR (eF G cst) (4 * gF G) 16 (ini f) g) = (1000000 : Int32) from fun w => q ((nI_eq (b := 1000000) (by omega) (by decide)).mp w))]
theorem least_b {x y z : Int32} {M : Mem} {B : Nat} {G : Gd} (hw : WG B G) (hg : RG 1 G M) (h : ¬ (okx (gF G) x = true ∧ okx (gF G) y = true)) : fX5_least x y z M = some (fnd 0, tellM 0 M) := by
  unfold fX5_least
  rw [c_hasField hw hg, c_hasField hw hg, tb0]
  by_cases q : okx (gF G) x = true
  · rw [if_neg (b1 q), if_pos (b0 (fun w => h ⟨q, w⟩))]
  · rw [if_pos (b0 q)]
theorem ok_smooth {t : Nat} {M : Mem} (ht : t < 512) (hI : Inv t M) (a1 : Int32) (a2 : Int32) : ∃ v w, fX5_smooth a1 a2 M = some v ∧ fX6_smooth a1 a2 v.2 = some w ∧ v.1 = w.1 ∧ Inv (t + 1) w.2 := by
  refine ok_of hI (fun G hw hg => ?_)
  have h16 := hw.1
  by_cases h1 : okx (gF G) a1 = true ∧ okx (gF G) a2 = true
  · obtain ⟨f, hf, rfl⟩ := okx_t (by omega) h1.1
    obtain ⟨g, hg2, rfl⟩ := okx_t (by omega) h1.2
    obtain ⟨Ma, r1, o1, e1⟩ := c_least hw hg (cst_R hw) hf hg2
    have ga := RG_one hw hg o1 (by decide)
    have fa := FC_33 o1 (by decide) (by decide)
    have b8 : Ma.1 48 = M.1 48 := o1.1 48 (by decide)
    have hb := Bd_it (Bd_ini f) (eF G (gR G)) (4 * gF G) 16 g
    have hml : ∀ M1, RS 50 G M1 → ∃ M', RS 50 G M' ∧ FM M1 M' ∧ M'.1 54 = M1.1 54 ∧ fX6_smooth (nI f) (nI g) M1 = if itR (eF G (gR G)) (4 * gF G) 16 (ini f) g = 1000000 then some (fnd 3, findM 3 M') else some (nI (itR (eF G (gR G)) (4 * gF G) 16 (ini f) g), M') := by
      intro M1 hs
      obtain ⟨Mc, s1, oc, ac, _⟩ := m_q25 (kx := fun M15 => (fX6_smooth_60 (fun M48 => ((ldI M48 55 64 (nI g)).bind fun v49 => ((fX6_orNone v49 (999999 : Int32) M48).bind fun w51 => some (w51.1, w51.2)))) (nI g) FU (0 : Int32) M15)) (y2 := nI g) hw hf (gF G) 0 FU M1 hs (Nat.zero_add _) (by unfold FU; omega)
      have sc : RS 50 G Mc := RS_cg hs (oc.1 50 (by decide))
      obtain ⟨Md, s2, rd, od⟩ := m_q60 (kx := fun M48 => ((ldI M48 55 64 (nI g)).bind fun v49 => ((fX6_orNone v49 (999999 : Int32) M48).bind fun w51 => some (w51.1, w51.2)))) (y2 := nI g) hw 16 0 FU Mc (ini f) sc (fun x hx => ac x (Nat.zero_le _) hx) (Bd_ini f) (by decide) (by decide)
      have oo := One_tr oc od
      refine ⟨Md, RS_cg hs (oo.1 50 (by decide)), FM_one oo (by omega) (by omega), oo.1 54 (by decide), ?_⟩
      unfold fX6_smooth
      rw [m_isField hw hs, Option.bind_some, if_neg (b1 h1.1), m_isField hw hs, Option.bind_some, if_neg (b1 h1.2)]
      refine Eq.trans s1 (Eq.trans s2 ?_)
      rw [ldI_n (by omega) (by decide), Option.bind_some, rd g hg2, m_orN hb]
    by_cases hz : itR (eF G (gR G)) (4 * gF G) 16 (ini f) g = 1000000
    · rw [if_pos hz] at e1
      refine ⟨fnd 3, G, some 3, WG_t hw, o7 (by decide), csp_fin' hw ga fa b8 (by unfold fX5_smooth; rw [e1]; rfl), fun M1 hs => ?_⟩
      obtain ⟨M', r', f', b', e'⟩ := hml M1 hs
      rw [if_pos hz] at e'
      exact msp_fin' r' f' b' e'
    · rw [if_neg hz] at e1
      refine ⟨nI (itR (eF G (gR G)) (4 * gF G) 16 (ini f) g), G, none, WG_t hw, o0, ⟨Ma, by unfold fX5_smooth; rw [e1]; rfl, ga, fa, b8⟩, fun M1 hs => ?_⟩
      obtain ⟨M', r', f', b', e'⟩ := hml M1 hs
      rw [if_neg hz] at e'
      exact ⟨M', e', r', f', b'⟩
  · refine ⟨fnd 0, G, some 0, WG_t hw, o7 (by decide), csp_fin hw hg ?_, fun M1 hs => msp_fin hs ?_⟩
    · unfold fX5_smooth; rw [least_b hw hg h1]; rfl
    · unfold fX6_smooth
      rw [m_isField hw hs, Option.bind_some, m_isField hw hs]
      by_cases q : okx (gF G) a1 = true
      · rw [if_neg (b1 q), Option.bind_some, if_pos (b0 (fun w => h1 ⟨q, w⟩)), mb0]
      · rw [if_pos (b0 q), mb0]
