/-! MATHS: about a corner -/
theorem bes_lt {B : Nat} {G : Gd} (hw : WG B G) {w v : Nat} (h : bes G w = some v) : v < 4 * gF G := (inj_bes hw).1 w v h
/-- the corners about one, as a set; 0 if it is open -/
def rnd (f : Nat → Option Nat) (w0 : Nat) : Nat → Nat → Nat → Nat
  | 0, _, _ => 0
  | m + 1, n, w => match f w with
    | none => 0
    | some v => if v = w0 then n ||| 2 ^ w else rnd f w0 m (n ||| 2 ^ w) v
theorem rnd_n {f : Nat → Option Nat} {w0 m n w : Nat} (h : f w = none) : rnd f w0 (m + 1) n w = 0 := by rw [rnd, h]
theorem rnd_v {f : Nat → Option Nat} {w0 m n w v : Nat} (h : f w = some v) : rnd f w0 (m + 1) n w = if v = w0 then n ||| 2 ^ w else rnd f w0 m (n ||| 2 ^ w) v := by rw [rnd, h]
theorem p2_lt {w k : Nat} (h : w < k) : 2 ^ w < 2 ^ k := Nat.pow_lt_pow_right (by decide) h
theorem rnd_lt {f : Nat → Option Nat} {w0 : Nat} (hf : ∀ w v, f w = some v → v < 64) (m : Nat) : ∀ n w, w < 64 → n < 2 ^ 64 → rnd f w0 m n w < 2 ^ 64 := by
  induction m with
  | zero => intro n w _ _; exact Nat.two_pow_pos 64
  | succ m ih =>
    intro n w h1 h2
    cases hx : f w with
    | none => rw [rnd_n hx]; exact Nat.two_pow_pos 64
    | some v =>
      rw [rnd_v hx]
      have h3 := Nat.or_lt_two_pow h2 (p2_lt h1)
      split
      · exact h3
      · exact ih _ v (hf w v hx) h3
/-- what the set holds, and how many -/
theorem rnd_clo {f : Nat → Option Nat} {w0 : Nat} (hf : Inj 64 f) (h0 : w0 < 64) (m : Nat) : ∀ (i n w : Nat), itr f i w0 = some w → pc 64 n = i → (∀ x, n.testBit x = true ↔ ∃ j, j < i ∧ itr f j w0 = some x) → (∀ j, j < i → itr f (j + 1) w0 ≠ some w0) → (clo f w0 m (i + 1) (f w) = 0 ∧ rnd f w0 m n w = 0) ∨ (clo f w0 m (i + 1) (f w) ≠ 0 ∧ pc 64 (rnd f w0 m n w) = clo f w0 m (i + 1) (f w) ∧ (∀ x, (rnd f w0 m n w).testBit x = true ↔ ∃ j, j < clo f w0 m (i + 1) (f w) ∧ itr f j w0 = some x) ∧ itr f (clo f w0 m (i + 1) (f w)) w0 = some w0) := by
  induction m with
  | zero => intro i n w _ _ _ _; exact Or.inl ⟨rfl, rfl⟩
  | succ m ih =>
    intro i n w hi hp hb hr
    have hw64 : w < 64 := itr_lt hf h0 i hi
    have hnot : n.testBit w = false := by
      cases hz : n.testBit w with
      | false => rfl
      | true =>
        exfalso
        obtain ⟨j, hj, e⟩ := (hb w).mp hz
        obtain ⟨d, hd⟩ : ∃ d, i = d + 1 + j := ⟨i - j - 1, by omega⟩
        rw [hd, itr_add] at hi
        cases hx : itr f (d + 1) w0 with
        | none => rw [hx] at hi; cases hi
        | some x =>
          rw [hx] at hi
          have := itr_inj hf j x w0 w hi e
          rw [this] at hx
          exact hr d (by omega) hx
    have hp1 : pc 64 (n ||| 2 ^ w) = i + 1 := by rw [pc_or 64 n w hw64 hnot, hp]
    have hb1 : ∀ x, (n ||| 2 ^ w).testBit x = true ↔ ∃ j, j < i + 1 ∧ itr f j w0 = some x := by
      intro x
      rw [Nat.testBit_or, Nat.testBit_two_pow, Bool.or_eq_true, hb x]
      constructor
      · rintro (⟨j, hj, e⟩ | e)
        · exact ⟨j, by omega, e⟩
        · have := of_decide_eq_true e
          exact ⟨i, by omega, by rw [hi, this]⟩
      · rintro ⟨j, hj, e⟩
        by_cases q : j < i
        · exact Or.inl ⟨j, q, e⟩
        · obtain rfl : j = i := by omega
          rw [hi] at e
          cases e
          exact Or.inr (decide_eq_true rfl)
    cases hx : f w with
    | none => exact Or.inl ⟨rfl, rnd_n hx⟩
    | some v =>
      have hs : itr f (i + 1) w0 = some v := by rw [itr_s, hi]; exact hx
      rw [rnd_v hx]
      by_cases q : v = w0
      · subst q
        have ez : clo f v (m + 1) (i + 1) (some v) = i + 1 := if_pos rfl
        rw [ez, if_pos rfl]
        exact Or.inr ⟨by omega, hp1, hb1, hs⟩
      · have ez : clo f w0 (m + 1) (i + 1) (some v) = clo f w0 m (i + 1 + 1) (f v) := if_neg q
        rw [ez, if_neg q]
        refine ih (i + 1) (n ||| 2 ^ w) v hs hp1 hb1 (fun j hj => ?_)
        by_cases qj : j < i
        · exact hr j qj
        · obtain rfl : j = i := by omega
          rw [hs]; exact fun z => q (Option.some.inj z)
def abt (G : Gd) (w : Nat) : Nat := clo (bes G) w 64 1 (bes G w)
def rn (G : Gd) (w : Nat) : Nat := rnd (bes G) w 64 0 w
theorem inj64 {n : Nat} {f : Nat → Option Nat} (h : Inj n f) (hn : n ≤ 64) : Inj 64 f := ⟨fun w v e => Nat.lt_of_lt_of_le (h.1 w v e) hn, h.2⟩
theorem rn_abt {B : Nat} {G : Gd} (hw : WG B G) {w : Nat} (hl : w < 4 * gF G) : (abt G w = 0 ∧ rn G w = 0) ∨ (abt G w ≠ 0 ∧ pc 64 (rn G w) = abt G w ∧ (∀ x, (rn G w).testBit x = true ↔ ∃ j, j < abt G w ∧ itr (bes G) j w = some x) ∧ itr (bes G) (abt G w) w = some w) := by
  have h16 := hw.1
  refine rnd_clo (inj64 (inj_bes hw) (by omega)) (by omega) 64 0 0 w rfl (pc_z 64) (fun x => ?_) (fun j hj => absurd hj (Nat.not_lt_zero _))
  rw [Nat.zero_testBit]
  exact ⟨fun q => absurd q (by decide), fun ⟨j, hj, _⟩ => absurd hj (Nat.not_lt_zero _)⟩
theorem rn_lt {B : Nat} {G : Gd} (hw : WG B G) {w : Nat} (hl : w < 4 * gF G) : rn G w < 2 ^ 64 := by
  have h16 := hw.1
  exact rnd_lt (fun a b e => by have := bes_lt hw e; omega) 64 0 w (by omega) (Nat.two_pow_pos 64)
theorem c_rnl {B : Nat} {G : Gd} {M : Mem} {w0 : Nat} (hw : WG B G) (hg : RG 1 G M) (h0 : w0 < 4 * gF G) (m : Nat) : ∀ (i fu n w : Nat), w < 4 * gF G → n < 2 ^ 64 → i + m = 64 → m < fu → fX0_roundCorner_8 (some (0 : Int64)) (nI w0) M fu (lN n) (nI w) (nI i) = some (lN (rnd (bes G) w0 m n w)) := by
  have h16 := hw.1
  induction m with
  | zero =>
    intro i fu n w hl hn e h
    obtain rfl : i = 64 := by omega
    obtain ⟨fu, rfl⟩ : ∃ k, fu = k + 1 := ⟨fu - 1, by omega⟩
    rw [fX0_roundCorner_8, if_pos (by decide)]; rfl
  | succ m ih =>
    intro i fu n w hl hn e h
    obtain ⟨fu, rfl⟩ : ∃ k, fu = k + 1 := ⟨fu - 1, by omega⟩
    rw [fX0_roundCorner_8, if_neg (show ¬ (64 : Int32) ≤ nI i from nI_ge (b := 64) (by omega) (by decide)), c_gluedTo hw hg hl, Option.bind_some]
    cases hx : gG G w with
    | none =>
      have hb : bes G w = none := by unfold bes; rw [hx]; rfl
      rw [if_pos (show gl none = -1 from rfl), rnd_n hb]; rfl
    | some u =>
      have hu := (hw.2.2.2.1 w u hx).2.1
      have hb : bes G w = some (trn u 3) := by unfold bes; rw [hx]; rfl
      have ht := bes_lt hw hb
      rw [show gl (some u) = nI u from rfl, if_neg (nI_m1 u (by omega)), show (3 : Int32) = nI 3 from rfl, c_turned (by omega) (by decide), ib_lone w (by omega), wb_or hn (p2_lt (by omega)), rnd_v hb]
      by_cases q : trn u 3 = w0
      · rw [if_pos (by rw [q]), if_pos q]
      · rw [if_neg (fun z => q ((nI_eq (by omega) (by omega)).mp z)), if_neg q, nI_1, ih (i + 1) fu _ (trn u 3) ht (Nat.or_lt_two_pow hn (p2_lt (by omega))) (by omega) (by omega)]
theorem c_round {B : Nat} {G : Gd} {M : Mem} (hw : WG B G) (hg : RG 1 G M) {w : Nat} (hl : w < 4 * gF G) : fX0_roundCorner (nI w) M = some (lN (rn G w)) := c_rnl hw hg hl 64 0 FU 0 w hl (by decide) (by decide) (by decide)
theorem m_abl {ρ : Type} {kx : Int32 → Int32 → Option ρ} {B : Nat} {G : Gd} {M : Mem} {w0 : Nat} (hw : WG B G) (hs : RS 50 G M) (h0 : w0 < 4 * gF G) (m : Nat) : ∀ (i n : Nat) (o : Option Nat), (∀ v, o = some v → v < 4 * gF G) → 1 ≤ i → m < n → stp (bes G) w0 m o → ∃ y j, fX6_aboutOf_8 kx (nI w0) M n (gl o) (nI i) = kx y (nI j) ∧ ((clo (bes G) w0 m i o = 0 ∧ ¬ 0 ≤ y) ∨ (clo (bes G) w0 m i o = j ∧ ¬ j = 0 ∧ 0 ≤ y)) := by
  have h16 := hw.1
  induction m with
  | zero => intro i n o _ _ _ h; exact absurd h id
  | succ m ih =>
    intro i n o hv h1 h hst
    obtain ⟨n, rfl⟩ : ∃ k, n = k + 1 := ⟨n - 1, by omega⟩
    cases o with
    | none => exact ⟨-1, i, by rw [fX6_aboutOf_8, if_pos (show gl none < 0 by decide)]; rfl, Or.inl ⟨rfl, by decide⟩⟩
    | some v =>
      have hl := hv v rfl
      rw [fX6_aboutOf_8, show gl (some v) = nI v from rfl, if_neg (nI_pos (by omega))]
      by_cases q : v = w0
      · have ez : clo (bes G) w0 (m + 1) i (some v) = i := if_pos q
        exact ⟨nI v, i, by rw [if_pos (by rw [q])], Or.inr ⟨ez, by omega, nI_pos' (by omega)⟩⟩
      · have ez : clo (bes G) w0 (m + 1) i (some v) = clo (bes G) w0 m (i + 1) (bes G v) := if_neg q
        have hst : stp (bes G) w0 m (bes G v) := by
          cases hst with
          | inl z => exact absurd z q
          | inr z => exact z
        obtain ⟨y, j, e1, e2⟩ := ih (i + 1) n (bes G v) (fun u e => bes_lt hw e) (by omega) (by omega) hst
        exact ⟨y, j, by rw [if_neg (fun z => q ((nI_eq (by omega) (by omega)).mp z)), m_beside hw hs (by omega), Option.bind_some, nI_1, e1], by rw [ez]; exact e2⟩
theorem m_about {B : Nat} {G : Gd} {M : Mem} (hw : WG B G) (hs : RS 50 G M) {w : Nat} (hl : w < 4 * gF G) : fX6_aboutOf (nI w) M = some (nI (abt G w)) := by
  have h16 := hw.1
  obtain ⟨y, j, e1, e2⟩ := m_abl (kx := fun u7 u8 => (if 0 ≤ u7 then some u8 else some (0 : Int32))) hw hs hl 64 1 FU (bes G w) (fun v e => bes_lt hw e) (by decide) (by decide) (stp_64 (inj_bes hw) (by omega) hl)
  unfold fX6_aboutOf
  rw [m_beside hw hs (by omega), Option.bind_some]
  refine Eq.trans e1 ?_
  unfold abt
  rcases e2 with ⟨z, y0⟩ | ⟨z, j0, y0⟩
  · rw [z, if_neg y0]; rfl
  · rw [z, if_pos y0]
theorem abt_le {B : Nat} {G : Gd} (hw : WG B G) {w : Nat} (hl : w < 4 * gF G) : abt G w ≤ 64 := by
  rcases rn_abt hw hl with ⟨h, _⟩ | ⟨_, h, _⟩
  · omega
  · rw [← h]; exact pc_le 64 _
theorem ok_about {t : Nat} {M : Mem} (ht : t < 512) (hI : Inv t M) (a1 : Int32) (a2 : Int32) : ∃ v w, fX5_about a1 a2 M = some v ∧ fX6_about a1 a2 v.2 = some w ∧ v.1 = w.1 ∧ Inv (t + 1) w.2 := by
  refine ok_of hI (fun G hw hg => ?_)
  have h16 := hw.1
  by_cases h1 : okx (gF G) a1 = true ∧ okx 4 a2 = true
  · obtain ⟨a, d, ha, hd, rfl, rfl⟩ := way_t h16 h1
    have hl : 4 * a + d < 4 * gF G := by omega
    have hr := rn_lt hw hl
    have h64 := abt_le hw hl
    rcases rn_abt hw hl with ⟨z1, z2⟩ | ⟨z1, z2, _⟩
    · refine ⟨fnd 3, G, some 3, WG_t hw, o7 (by decide), csp_fin hw hg ?_, fun M1 hs => msp_fin hs ?_⟩
      · unfold fX5_about; rw [c_hasWay hw hg, if_neg (b1 h1), c_wayOf, c_round hw hg hl, Option.bind_some, z2, if_pos (show lg_cmp (lN 0) 0 = 0 by decide), tb3]
      · unfold fX6_about; rw [m_isWay hw hs, Option.bind_some, if_neg (b1 h1), m_ix2, m_about hw hs hl, Option.bind_some, z1, if_pos (show nI 0 = 0 from rfl), mb3]
    · have hn : ¬ rn G (4 * a + d) = 0 := fun q => by rw [q, pc_z] at z2; omega
      refine ⟨nI (abt G (4 * a + d)), G, none, WG_t hw, o0, csp_val hg ?_, fun M1 hs => msp_val hs ?_⟩
      · unfold fX5_about; rw [c_hasWay hw hg, if_neg (b1 h1), c_wayOf, c_round hw hg hl, Option.bind_some, if_neg (fun q => hn ((nz64 hr).mp ((lg_eq _ _).mp q))), bc_l hr, z2]
      · unfold fX6_about; rw [m_isWay hw hs, Option.bind_some, if_neg (b1 h1), m_ix2, m_about hw hs hl, Option.bind_some, if_neg (nI_ne0 (by omega) (by omega))]
  · refine ⟨fnd 0, G, some 0, WG_t hw, o7 (by decide), csp_fin hw hg ?_, fun M1 hs => msp_fin hs ?_⟩
    · unfold fX5_about; rw [c_hasWay hw hg, if_pos (b0 h1), tb0]
    · unfold fX6_about; rw [m_isWay hw hs, Option.bind_some, if_pos (b0 h1), mb0]
/-! where it is bent -/
def ben (G : Gd) : Nat → Nat → Int32 → Int32
  | 0, _, x => x
  | m + 1, i, x => ben G m (i + 1) (if abt G i = 0 ∨ abt G i = 4 then x else x ||| fbit i)
theorem c_bel {ρ : Type} {kx : Int32 → Option ρ} {B : Nat} {G : Gd} {M : Mem} (hw : WG B G) (hg : RG 1 G M) (m : Nat) : ∀ (i n : Nat) (x : Int32), i + m = 4 * gF G → m < n → fX5_bent_4 kx M n x (nI i) = kx (ben G m i x) := by
  have h16 := hw.1
  induction m with
  | zero =>
    intro i n x e h
    obtain rfl : i = 4 * gF G := by omega
    obtain ⟨n, rfl⟩ : ∃ k, n = k + 1 := ⟨n - 1, by omega⟩
    rw [fX5_bent_4, c_ways hg, if_pos (Int32.le_refl _)]; rfl
  | succ m ih =>
    intro i n x e h
    obtain ⟨n, rfl⟩ : ∃ k, n = k + 1 := ⟨n - 1, by omega⟩
    have hl : i < 4 * gF G := by omega
    have hr := rn_lt hw hl
    have h64 := abt_le hw hl
    rw [fX5_bent_4, c_ways hg, if_neg (nI_ge hl (by omega)), c_round hw hg hl, Option.bind_some, nI_1, ih (i + 1) n _ (by omega) (by omega), c_fieldOf (by omega)]
    show _ = kx (ben G m (i + 1) (if abt G i = 0 ∨ abt G i = 4 then x else x ||| fbit i))
    rcases rn_abt hw hl with ⟨z1, z2⟩ | ⟨z1, z2, _⟩
    · rw [z2, if_pos (show lg_cmp (lN 0) 0 = 0 by decide), if_pos (Or.inl z1)]
    · have hn : ¬ rn G i = 0 := fun q => by rw [q, pc_z] at z2; omega
      rw [if_neg (fun q => hn ((nz64 hr).mp ((lg_eq _ _).mp q))), bc_l hr, z2]
      by_cases q : abt G i = 4
      · rw [if_pos (by rw [q]; rfl), if_pos (Or.inr q)]
      · rw [if_neg (show ¬ nI (abt G i) = (4 : Int32) from fun w => q ((nI_eq (b := 4) (by omega) (by decide)).mp w)), if_neg (fun w => w.elim z1 q)]; rfl
theorem m_bel {ρ : Type} {kx : Int32 → Option ρ} {B : Nat} {G : Gd} {M : Mem} (hw : WG B G) (hs : RS 50 G M) (m : Nat) : ∀ (i n : Nat) (x : Int32), i + m = 4 * gF G → m < n → fX6_bent_4 kx M n x (nI i) = kx (ben G m i x) := by
  have h16 := hw.1
  have e4 : (4 : Int32) * nI (gF G) = nI (4 * gF G) := pk_mul 4 (gF G)
  induction m with
  | zero =>
    intro i n x e h
    obtain rfl : i = 4 * gF G := by omega
    obtain ⟨n, rfl⟩ : ∃ k, n = k + 1 := ⟨n - 1, by omega⟩
    rw [fX6_bent_4, ld50_0, Option.bind_some, hs.1, e4, if_pos (Int32.le_refl _)]; rfl
  | succ m ih =>
    intro i n x e h
    obtain ⟨n, rfl⟩ : ∃ k, n = k + 1 := ⟨n - 1, by omega⟩
    have hl : i < 4 * gF G := by omega
    have h64 := abt_le hw hl
    rw [fX6_bent_4, ld50_0, Option.bind_some, hs.1, e4, if_neg (nI_ge hl (by omega)), m_about hw hs hl, Option.bind_some, Option.bind_some, div4 (by omega), nI_1]
    show _ = kx (ben G m (i + 1) (if abt G i = 0 ∨ abt G i = 4 then x else x ||| fbit i))
    rw [← ih (i + 1) n _ (by omega) (by omega)]
    by_cases z1 : abt G i = 0
    · rw [if_pos (show nI (abt G i) ≤ 0 by rw [z1]; decide), Option.bind_some, if_pos (Or.inl z1), Int32.or_zero]
    · rw [if_neg (nI_nle (by omega) (by omega))]
      by_cases q : abt G i = 4
      · rw [if_pos (show nI (abt G i) = 4 by rw [q]; rfl), Option.bind_some, if_pos (Or.inr q), Int32.or_zero]
      · rw [if_neg (show ¬ nI (abt G i) = (4 : Int32) from fun w => q ((nI_eq (b := 4) (by omega) (by decide)).mp w)), Option.bind_some, if_neg (fun w => w.elim z1 q)]; rfl
theorem ok_bent {t : Nat} {M : Mem} (ht : t < 512) (hI : Inv t M) : ∃ v w, fX5_bent M = some v ∧ fX6_bent M = some w ∧ v = w ∧ Inv (t + 1) M := by
  have hI' := hI
  obtain ⟨⟨G, hw, hg, hs⟩, hR⟩ := hI
  have h16 := hw.1
  exact ⟨_, _, c_bel (kx := fun u6 => some u6) hw hg (4 * gF G) 0 FU 0 (Nat.zero_add _) (by unfold FU; omega), m_bel (kx := fun u13 => some u13) hw hs (4 * gF G) 0 FU 0 (Nat.zero_add _) (by unfold FU; omega), rfl, Inv_next hI'⟩
