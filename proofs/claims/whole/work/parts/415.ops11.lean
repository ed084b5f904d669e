/-! MATHS: two walkers meet; who spares himself most -/
def mtn (G : Gd) : Nat → Nat → Wk → Wk → Nat
  | 0, i, _, _ => i
  | m + 1, i, u, v => if u.2.1 / 4 = v.2.1 / 4 then i else mtn G m (i + 1) (mv1 G u) (mv1 G v)
theorem mtn_le (G : Gd) (m : Nat) : ∀ i u v, mtn G m i u v ≤ i + m := by
  induction m with
  | zero => intro i u v; exact Nat.le_refl _
  | succ m ih =>
    intro i u v
    show (if u.2.1 / 4 = v.2.1 / 4 then i else mtn G m (i + 1) (mv1 G u) (mv1 G v)) ≤ _
    split
    · omega
    · have := ih (i + 1) (mv1 G u) (mv1 G v); omega
theorem RG_rg {B lo hi : Nat} {G : Gd} {M M' : Mem} (hw : WG B G) (hg : RG 1 G M) (ho : Rg lo hi M M') (hc : 11 ≤ lo) : RG 1 G M' := RG_cg hw hg (fun a q1 q2 => ho.1 a (by omega))
theorem RW_one {c d : Nat} {u : Wk} {M M' : Mem} (h : RW d u M) (ho : One c M M') (hc : d ≠ c) : RW d u M' := by unfold RW; rw [ho.1 d hc]; exact h
theorem c_mtl {kx : Mem → Option (Int32 × Mem)} {B' : Nat} {G : Gd} (hw : WG B' G) (m : Nat) : ∀ (i n B : Nat) (M : Mem) (u v : Wk), RG 1 G M → RW 31 u M → RW 32 v M → okw B G u → okw B G v → B + 13 * m < 2 ^ 28 → i + m = 101 → m < n → ∃ M', fX5_meet_68 kx n (nI i) M = (if mtn G m i u v = 101 then kx M' else some (nI (mtn G m i u v), M')) ∧ Rg 31 32 M M' := by
  have h16 := hw.1
  induction m with
  | zero =>
    intro i n B M u v hg hr hr2 hu hv hB e h
    obtain rfl : i = 101 := by omega
    obtain ⟨n, rfl⟩ : ∃ k, n = k + 1 := ⟨n - 1, by omega⟩
    exact ⟨M, by rw [fX5_meet_68, if_pos (by decide), if_pos (show mtn G 0 101 u v = 101 from rfl)], Rg_rf _ _ _⟩
  | succ m ih =>
    intro i n B M u v hg hr hr2 hu hv hB e h
    obtain ⟨n, rfl⟩ : ∃ k, n = k + 1 := ⟨n - 1, by omega⟩
    have h2 := hu.2.1
    have h3 := hv.2.1
    rw [fX5_meet_68, if_neg (show ¬ (100 : Int32) < nI i from fun q => by rw [show (100 : Int32) = nI 100 from rfl, nI_ltI (by decide) (by omega)] at q; omega), hr.2.1, c_fieldOf (by omega), hr2.2.1, c_fieldOf (by omega)]
    by_cases q : u.2.1 / 4 = v.2.1 / 4
    · have ez : mtn G (m + 1) i u v = i := if_pos q
      exact ⟨M, by rw [ez, if_pos (by rw [q]), if_neg (show ¬ i = 101 by omega)], Rg_rf _ _ _⟩
    · have ez : mtn G (m + 1) i u v = mtn G m (i + 1) (mv1 G u) (mv1 G v) := if_neg q
      obtain ⟨M1, e1, r1, o1⟩ := c_move hw hg (show B < 2 ^ 28 by omega) hu hr
      have g1 := RG_one hw hg o1 (by decide)
      obtain ⟨M2, e2, r2, o2⟩ := c_move hw g1 (show B < 2 ^ 28 by omega) hv (RW_one hr2 o1 (by decide))
      have g2 := RG_one hw g1 o2 (by decide)
      obtain ⟨M', e3, o3⟩ := ih (i + 1) n (B + 13) M2 (mv1 G u) (mv1 G v) g2 (RW_one r1 o2 (by decide)) r2 (okw_mv hw hu) (okw_mv hw hv) (by omega) (by omega) (by omega)
      exact ⟨M', by rw [ez, if_neg (fun z => q ((nI_eq (by omega) (by omega)).mp z)), e1, Option.bind_some, e2, Option.bind_some, nI_1, e3], Rg_tr (Rg_tr (Rg_one o1 (by decide) (by decide)) (Rg_one o2 (by decide) (by decide))) o3⟩
theorem gTo_lt (G : Gd) (m : Nat) {k : Nat} (hk : k < gW G) : gK (gTo G (gW G) m) k = mvn G m (gK G k) := if_pos hk
theorem m_mtl {ρ : Type} {kx : Int32 → Mem → Option ρ} {B k l : Nat} {G : Gd} (hw : WG B G) (hB : B + 1400 < 2 ^ 28) (hk : k < gW G) (hl : l < gW G) (m : Nat) : ∀ (i n : Nat) (M : Mem), RS 50 (gTo G (gW G) i) M → i + m = 101 → m < n → ∃ M', fX6_meet_34 kx (nI k) (nI l) n (nI i) M = kx (nI (mtn G m i (mvn G i (gK G k)) (mvn G i (gK G l)))) M' ∧ One 50 M M' := by
  have h16 := hw.1
  have h6 := hw.2.1
  induction m with
  | zero =>
    intro i n M hs e h
    obtain rfl : i = 101 := by omega
    obtain ⟨n, rfl⟩ : ∃ k, n = k + 1 := ⟨n - 1, by omega⟩
    exact ⟨M, by rw [fX6_meet_34, if_pos (by decide)]; rfl, One_rf _ _⟩
  | succ m ih =>
    intro i n M hs e h
    obtain ⟨n, rfl⟩ : ∃ k, n = k + 1 := ⟨n - 1, by omega⟩
    have k2 := (hs.2.2.2.2 k hk).2.1
    have l2 := (hs.2.2.2.2 l hl).2.1
    rw [gTo_lt G i hk] at k2
    rw [gTo_lt G i hl] at l2
    have hu := (okw_mvn hw i (hw.2.2.2.2 k hk)).2.1
    have hv := (okw_mvn hw i (hw.2.2.2.2 l hl)).2.1
    rw [fX6_meet_34, if_neg (show ¬ (100 : Int32) < nI i from fun q => by rw [show (100 : Int32) = nI 100 from rfl, nI_ltI (by decide) (by omega)] at q; omega), m_part1 (by omega), Option.bind_some, k2, m_part1 (by omega), Option.bind_some, l2]
    by_cases q : (mvn G i (gK G k)).2.1 / 4 = (mvn G i (gK G l)).2.1 / 4
    · have ez : mtn G (m + 1) i (mvn G i (gK G k)) (mvn G i (gK G l)) = i := if_pos q
      rw [ez, if_pos (by rw [q])]
      exact ⟨M, rfl, One_rf _ _⟩
    · have ez : mtn G (m + 1) i (mvn G i (gK G k)) (mvn G i (gK G l)) = mtn G m (i + 1) (mv1 G (mvn G i (gK G k))) (mv1 G (mvn G i (gK G l))) := if_neg q
      rw [← mvn_s, ← mvn_s] at ez
      obtain ⟨M1, e1, r1, o1⟩ := m_alls hw i (by omega) hs
      obtain ⟨M', e2, o2⟩ := ih (i + 1) n M1 r1 (by omega) (by omega)
      exact ⟨M', by rw [ez, if_neg (fun z => q ((nI_eq (by omega) (by omega)).mp z)), e1, Option.bind_some, nI_1, e2], One_tr o1 o2⟩
theorem ok_meet {t : Nat} {M : Mem} (ht : t < 512) (hI : Inv t M) (a1 : Int32) (a2 : Int32) : ∃ v w, fX5_meet a1 a2 M = some v ∧ fX6_meet a1 a2 v.2 = some w ∧ v.1 = w.1 ∧ Inv (t + 1) w.2 := by
  refine ok_of hI (fun G hw hg => ?_)
  have h16 := hw.1
  have h6 := hw.2.1
  by_cases h1 : okx (gW G) a1 = true
  · by_cases h2 : okx (gW G) a2 = true
    · by_cases h3 : a1 = a2
      · refine ⟨fnd 0, G, some 0, WG_t hw, o7 (by decide), csp_fin hw hg ?_, fun M1 hs => msp_fin hs ?_⟩
        · unfold fX5_meet; rw [c_hasWalker hw hg, if_neg (b1 h1), c_hasWalker hw hg, if_neg (b1 h2), if_pos h3, tb0]
        · unfold fX6_meet; rw [m_isWalker hw hs, Option.bind_some, if_neg (b1 h1), m_isWalker hw hs, Option.bind_some, if_neg (b1 h2), if_pos h3, mb0]
      · obtain ⟨k, hk, rfl⟩ := okx_t (by omega) h1
        obtain ⟨l, hl, rfl⟩ := okx_t (by omega) h2
        have hu : okw (1400 * t) G (gK G k) := hw.2.2.2.2 k hk
        have hv : okw (1400 * t) G (gK G l) := hw.2.2.2.2 l hl
        obtain ⟨Ma, p1, r1, o1⟩ := c_become (B := 0) (c := 31) hg hk h6 (by decide)
        have ga := RG_one hw hg o1 (by decide)
        obtain ⟨Ma2, p1', r1', o1'⟩ := c_become (B := 0) (c := 32) ga hl h6 (by decide)
        have ga2 := RG_one hw ga o1' (by decide)
        obtain ⟨Mb, p2, o2⟩ := c_mtl (kx := fun M22 => ((fX5_tell (-1000000004 : Int32) M22).bind fun w23 => some (w23.1, w23.2))) hw 101 0 FU (1400 * t) Ma2 (gK G k) (gK G l) ga2 (RW_one r1 o1' (by decide)) r1' hu hv (by omega) (by omega) (by decide)
        have gb := RG_rg hw ga2 o2 (by decide)
        have ob := Rg_tr (Rg_tr (Rg_one o1 (lo := 31) (hi := 32) (by decide) (by decide)) (Rg_one o1' (by decide) (by decide))) o2
        have fb : FC M Mb := FC_rg ob (fun c hc => by omega)
        have b8 : Mb.1 48 = M.1 48 := ob.1 48 (by omega)
        have hcl : fX5_meet (nI k) (nI l) M = if mtn G 101 0 (gK G k) (gK G l) = 101 then some (fnd 3, tellM 3 Mb) else some (nI (mtn G 101 0 (gK G k) (gK G l)), Mb) := by
          unfold fX5_meet
          rw [c_hasWalker hw hg, if_neg (b1 h1), c_hasWalker hw hg, if_neg (b1 h2), if_neg h3, ldW_n (by omega), Option.bind_some, p1, Option.bind_some, ldW_n (by omega), Option.bind_some, p1', Option.bind_some, show (0 : Int32) = nI 0 from rfl, p2, tb3]
        have hml : ∀ M1, RS 50 G M1 → ∃ M', RS 50 G M' ∧ FM M1 M' ∧ M'.1 54 = M1.1 54 ∧ fX6_meet (nI k) (nI l) M1 = if mtn G 101 0 (gK G k) (gK G l) = 101 then some (fnd 3, findM 3 M') else some (nI (mtn G 101 0 (gK G k) (gK G l)), M') := by
          intro M1 hs
          obtain ⟨Mc, s1, sc, sd, oc⟩ := m_laysAside hw hs
          obtain ⟨Md, s2, od⟩ := m_mtl (kx := fun u22 M23 => ((fX6_takesBack u22 M23).bind fun w24 => ((fX6_orNone w24.1 (100 : Int32) w24.2).bind fun w26 => some (w26.1, w26.2)))) hw (by omega) hk hl 101 0 FU Mc (by rw [gTo_z]; exact sc) (by omega) (by decide)
          obtain ⟨Me, re, oe, s3⟩ := m_told (L := 100) hw (RS_cg sd (od.1 53 (by decide))) (by decide) (mtn_le G 101 0 (gK G k) (gK G l))
          have oo := One_tr od oe
          refine ⟨Me, re, FM_tr (FM_one oc (by omega) (by omega)) (FM_one oo (by omega) (by omega)), (oo.1 54 (by decide)).trans (oc.1 54 (by decide)), ?_⟩
          unfold fX6_meet
          rw [m_isWalker hw hs, Option.bind_some, if_neg (b1 h1), m_isWalker hw hs, Option.bind_some, if_neg (b1 h2), if_neg h3, s1, Option.bind_some, show (0 : Int32) = nI 0 from rfl, s2]
          exact s3
        by_cases hz : mtn G 101 0 (gK G k) (gK G l) = 101
        · rw [if_pos hz] at hcl
          refine ⟨fnd 3, G, some 3, WG_t hw, o7 (by decide), csp_fin' hw gb fb b8 hcl, fun M1 hs => ?_⟩
          obtain ⟨M', r', f', b', e'⟩ := hml M1 hs
          rw [if_pos hz] at e'
          exact msp_fin' r' f' b' e'
        · rw [if_neg hz] at hcl
          refine ⟨nI (mtn G 101 0 (gK G k) (gK G l)), G, none, WG_t hw, o0, ⟨Mb, hcl, gb, fb, b8⟩, fun M1 hs => ?_⟩
          obtain ⟨M', r', f', b', e'⟩ := hml M1 hs
          rw [if_neg hz] at e'
          exact ⟨M', e', r', f', b'⟩
    · refine ⟨fnd 0, G, some 0, WG_t hw, o7 (by decide), csp_fin hw hg ?_, fun M1 hs => msp_fin hs ?_⟩
      · unfold fX5_meet; rw [c_hasWalker hw hg, if_neg (b1 h1), c_hasWalker hw hg, if_pos (b0 h2), tb0]
      · unfold fX6_meet; rw [m_isWalker hw hs, Option.bind_some, if_neg (b1 h1), m_isWalker hw hs, Option.bind_some, if_pos (b0 h2), mb0]
  · refine ⟨fnd 0, G, some 0, WG_t hw, o7 (by decide), csp_fin hw hg ?_, fun M1 hs => msp_fin hs ?_⟩
    · unfold fX5_meet; rw [c_hasWalker hw hg, if_pos (b0 h1), tb0]
    · unfold fX6_meet; rw [m_isWalker hw hs, Option.bind_some, if_pos (b0 h1), mb0]
