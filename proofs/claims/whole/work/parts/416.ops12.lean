/-! MATHS: ways come round -/
theorem php (n : Nat) : ∀ g : Nat → Nat, (∀ i, i ≤ n → g i < n) → ∃ i j, i < j ∧ j ≤ n ∧ g i = g j := by
  induction n with
  | zero => intro g h; exact absurd (h 0 (Nat.le_refl _)) (Nat.not_lt_zero _)
  | succ n ih =>
    intro g h
    by_cases hc : ∃ i, i ≤ n ∧ g i = g (n + 1)
    · obtain ⟨i, hi, e⟩ := hc
      exact ⟨i, n + 1, by omega, Nat.le_refl _, e⟩
    · have hn : ∀ i, i ≤ n → g i ≠ g (n + 1) := fun i hi e => hc ⟨i, hi, e⟩
      have hl := h (n + 1) (Nat.le_refl _)
      obtain ⟨i, j, hij, hj, e⟩ := ih (fun i => if g (n + 1) < g i then g i - 1 else g i) (fun i hi => by
        have h1 := h i (by omega)
        have h2 := hn i hi
        show (if g (n + 1) < g i then g i - 1 else g i) < n
        split <;> omega)
      refine ⟨i, j, hij, by omega, ?_⟩
      have h1 := hn i (by omega)
      have h2 := hn j hj
      have e : (if g (n + 1) < g i then g i - 1 else g i) = (if g (n + 1) < g j then g j - 1 else g j) := e
      split at e <;> split at e <;> omega
def itr (f : Nat → Option Nat) : Nat → Nat → Option Nat
  | 0, w => some w
  | m + 1, w => (f w).bind (itr f m)
theorem itr_s (f : Nat → Option Nat) (m : Nat) : ∀ w, itr f (m + 1) w = (itr f m w).bind f := by
  induction m with
  | zero => intro w; show (f w).bind (itr f 0) = (some w).bind f; rw [Option.bind_some]; cases f w <;> rfl
  | succ m ih =>
    intro w
    show (f w).bind (itr f (m + 1)) = ((f w).bind (itr f m)).bind f
    cases f w with
    | none => rfl
    | some v => exact ih v
theorem itr_add (f : Nat → Option Nat) (a : Nat) : ∀ b w, itr f (a + b) w = (itr f a w).bind (itr f b) := by
  induction a with
  | zero => intro b w; rw [Nat.zero_add]; rfl
  | succ a ih =>
    intro b w
    rw [Nat.add_right_comm]
    show (f w).bind (itr f (a + b)) = ((f w).bind (itr f a)).bind (itr f b)
    cases f w with
    | none => rfl
    | some v => exact ih b v
/-- a partial map of 0 .. n - 1 to itself, one to one -/
def Inj (n : Nat) (f : Nat → Option Nat) : Prop := (∀ w v, f w = some v → v < n) ∧ ∀ w u v, f w = some v → f u = some v → w = u
theorem itr_inj {n : Nat} {f : Nat → Option Nat} (h : Inj n f) (m : Nat) : ∀ w u v, itr f m w = some v → itr f m u = some v → w = u := by
  induction m with
  | zero => intro w u v a b; exact Option.some.inj (a.trans b.symm)
  | succ m ih =>
    intro w u v a b
    rw [itr_s] at a b
    cases ha : itr f m w with
    | none => rw [ha] at a; cases a
    | some x =>
      cases hb : itr f m u with
      | none => rw [hb] at b; cases b
      | some y =>
        rw [ha] at a; rw [hb] at b
        have : x = y := h.2 x y v a b
        subst this
        exact ih w u x ha hb
theorem itr_none {f : Nat → Option Nat} {a b w : Nat} (h : itr f a w = none) (hb : a ≤ b) : itr f b w = none := by
  obtain ⟨c, rfl⟩ : ∃ c, b = a + c := ⟨b - a, by omega⟩
  rw [itr_add, h]; rfl
theorem itr_lt {n : Nat} {f : Nat → Option Nat} (h : Inj n f) {w : Nat} (hw : w < n) (m : Nat) {v : Nat} (e : itr f m w = some v) : v < n := by
  cases m with
  | zero => cases e; exact hw
  | succ m =>
    rw [itr_s] at e
    cases hx : itr f m w with
    | none => rw [hx] at e; cases e
    | some x => rw [hx] at e; exact h.1 x v e
theorem cyc {n : Nat} {f : Nat → Option Nat} (h : Inj n f) {w : Nat} (hw : w < n) : ∃ m, m + 1 ≤ n ∧ (itr f (m + 1) w = none ∨ itr f (m + 1) w = some w) := by
  by_cases hz : itr f n w = none
  · exact ⟨n - 1, by omega, Or.inl (by rw [show n - 1 + 1 = n by omega]; exact hz)⟩
  · have hs : ∀ i, i ≤ n → itr f i w = some ((itr f i w).getD 0) := fun i hi => by
      cases hx : itr f i w with
      | none => exact absurd (itr_none hx hi) hz
      | some v => rfl
    obtain ⟨i, j, hij, hj, e⟩ := php n (fun i => (itr f i w).getD 0) (fun i hi => itr_lt h hw i (hs i hi))
    have e : (itr f i w).getD 0 = (itr f j w).getD 0 := e
    have hi := hs i (by omega)
    have hjj := hs j hj
    rw [← e] at hjj
    obtain ⟨d, rfl⟩ : ∃ d, j = d + 1 + i := ⟨j - i - 1, by omega⟩
    rw [itr_add] at hjj
    refine ⟨d, by omega, ?_⟩
    cases hd : itr f (d + 1) w with
    | none => exact Or.inl rfl
    | some x =>
      rw [hd] at hjj
      have := itr_inj h i x w _ hjj hi
      rw [this]; exact Or.inr rfl
theorem trn_inj {a b q : Nat} (h : trn a q = trn b q) : a = b := by unfold trn at h; omega
theorem inj_trn {B : Nat} {G : Gd} (hw : WG B G) (q : Nat) : Inj (4 * gF G) (fun w => (gG G w).map (fun v => trn v q)) := by
  refine ⟨fun w v e => ?_, fun w u v e1 e2 => ?_⟩
  · have e : (gG G w).map (fun v => trn v q) = some v := e
    cases hx : gG G w with
    | none => rw [hx] at e; cases e
    | some x =>
      rw [hx] at e; cases e
      exact trn_lt (hw.2.2.2.1 w x hx).2.1
  · have e1 : (gG G w).map (fun v => trn v q) = some v := e1
    have e2 : (gG G u).map (fun v => trn v q) = some v := e2
    cases hx : gG G w with
    | none => rw [hx] at e1; cases e1
    | some x =>
      cases hy : gG G u with
      | none => rw [hy] at e2; cases e2
      | some y =>
        rw [hx] at e1; rw [hy] at e2
        have : x = y := trn_inj (q := q) ((Option.some.inj e1).trans (Option.some.inj e2).symm)
        subst this
        have a1 := (hw.2.2.2.1 w x hx).2.2.2
        have a2 := (hw.2.2.2.1 u x hy).2.2.2
        rw [a1] at a2; exact Option.some.inj a2
theorem inj_on {B : Nat} {G : Gd} (hw : WG B G) : Inj (4 * gF G) (on1 G) := inj_trn hw 2
theorem inj_bes {B : Nat} {G : Gd} (hw : WG B G) : Inj (4 * gF G) (bes G) := inj_trn hw 3
/-! coming to a stop -/
def stp (f : Nat → Option Nat) (w0 : Nat) : Nat → Option Nat → Prop
  | 0, _ => False
  | _ + 1, none => True
  | m + 1, some v => v = w0 ∨ stp f w0 m (f v)
theorem stp_of {f : Nat → Option Nat} {w0 : Nat} (m : Nat) : ∀ o, (o.bind (itr f m) = none ∨ o.bind (itr f m) = some w0) → stp f w0 (m + 1) o := by
  induction m with
  | zero =>
    intro o h
    cases o with
    | none => trivial
    | some v =>
      cases h with
      | inl h => cases h
      | inr h => exact Or.inl (Option.some.inj h)
  | succ m ih =>
    intro o h
    cases o with
    | none => trivial
    | some v => exact Or.inr (ih (f v) h)
theorem stp_mono {f : Nat → Option Nat} {w0 : Nat} (a : Nat) : ∀ b o, a ≤ b → stp f w0 a o → stp f w0 b o := by
  induction a with
  | zero => intro b o _ h; exact absurd h id
  | succ a ih =>
    intro b o hb h
    obtain ⟨b, rfl⟩ : ∃ c, b = c + 1 := ⟨b - 1, by omega⟩
    cases o with
    | none => trivial
    | some v =>
      cases h with
      | inl h => exact Or.inl h
      | inr h => exact Or.inr (ih b (f v) (by omega) h)
theorem stp_64 {n : Nat} {f : Nat → Option Nat} (h : Inj n f) (hn : n ≤ 64) {w : Nat} (hw : w < n) : stp f w 64 (f w) := by
  obtain ⟨m, hm, e⟩ := cyc h hw
  exact stp_mono (m + 1) 64 _ (by omega) (stp_of m (f w) e)
/-- after how many steps a way closes; 0: it does not -/
def clo (f : Nat → Option Nat) (w0 : Nat) : Nat → Nat → Option Nat → Nat
  | 0, _, _ => 0
  | _ + 1, _, none => 0
  | m + 1, i, some v => if v = w0 then i else clo f w0 m (i + 1) (f v)
theorem c_cln {kx : Option (Int32 × Mem)} {M : Mem} {w0 : Nat} (h0 : w0 < 64) (m : Nat) : ∀ (i n : Nat), i + m = 65 → m < n → fX5_closes_31 kx (nI w0) M n (-1) (nI i) = kx := by
  induction m with
  | zero =>
    intro i n e h
    obtain rfl : i = 65 := by omega
    obtain ⟨n, rfl⟩ : ∃ k, n = k + 1 := ⟨n - 1, by omega⟩
    rw [fX5_closes_31, if_pos (by decide)]
  | succ m ih =>
    intro i n e h
    obtain ⟨n, rfl⟩ : ∃ k, n = k + 1 := ⟨n - 1, by omega⟩
    rw [fX5_closes_31, if_neg (show ¬ (64 : Int32) < nI i from nI_nlt (a := 64) (by omega) (by decide)), show fX0_goOn (-1) M = some (-1) from rfl, Option.bind_some, if_neg (fun q => nI_m1 w0 (by omega) q.symm), nI_1, ih (i + 1) n (by omega) (by omega)]
theorem c_cll {kx : Option (Int32 × Mem)} {B : Nat} {G : Gd} {M : Mem} {w0 : Nat} (hw : WG B G) (hg : RG 1 G M) (h0 : w0 < 4 * gF G) (m : Nat) : ∀ (i n w : Nat), w < 4 * gF G → 1 ≤ i → i + m = 65 → m < n → fX5_closes_31 kx (nI w0) M n (nI w) (nI i) = if clo (on1 G) w0 m i (on1 G w) = 0 then kx else some (nI (clo (on1 G) w0 m i (on1 G w)), M) := by
  have h16 := hw.1
  induction m with
  | zero =>
    intro i n w hl h1 e h
    obtain rfl : i = 65 := by omega
    obtain ⟨n, rfl⟩ : ∃ k, n = k + 1 := ⟨n - 1, by omega⟩
    rw [fX5_closes_31, if_pos (by decide), if_pos (show clo (on1 G) w0 0 65 (on1 G w) = 0 from rfl)]
  | succ m ih =>
    intro i n w hl h1 e h
    obtain ⟨n, rfl⟩ : ∃ k, n = k + 1 := ⟨n - 1, by omega⟩
    rw [fX5_closes_31, if_neg (show ¬ (64 : Int32) < nI i from nI_nlt (a := 64) (by omega) (by decide)), c_goOn hw hg hl, Option.bind_some]
    cases ho : on1 G w with
    | none =>
      rw [show gl none = (-1 : Int32) from rfl, if_neg (fun q => nI_m1 w0 (by omega) q.symm), nI_1, c_cln (by omega) m (i + 1) n (by omega) (by omega), if_pos (show clo (on1 G) w0 (m + 1) i none = 0 from rfl)]
    | some v =>
      have hv := (on1_lt hw ho).1
      rw [show gl (some v) = nI v from rfl]
      by_cases q : v = w0
      · have ez : clo (on1 G) w0 (m + 1) i (some v) = i := if_pos q
        rw [ez, if_pos (by rw [q]), if_neg (by omega)]
      · have ez : clo (on1 G) w0 (m + 1) i (some v) = clo (on1 G) w0 m (i + 1) (on1 G v) := if_neg q
        rw [ez, if_neg (fun z => q ((nI_eq (by omega) (by omega)).mp z)), nI_1, ih (i + 1) n v hv (by omega) (by omega) (by omega)]
theorem m_cll {ρ : Type} {kx : Int32 → Int32 → Option ρ} {B : Nat} {G : Gd} {M : Mem} {w0 : Nat} (hw : WG B G) (hs : RS 50 G M) (h0 : w0 < 4 * gF G) (m : Nat) : ∀ (i n : Nat) (o : Option Nat), (∀ v, o = some v → v < 4 * gF G) → 1 ≤ i → m < n → stp (on1 G) w0 m o → ∃ y j, fX6_closes_32 kx (nI w0) M n (gl o) (nI i) = kx y (nI j) ∧ ((clo (on1 G) w0 m i o = 0 ∧ ¬ 0 ≤ y) ∨ (clo (on1 G) w0 m i o = j ∧ ¬ j = 0 ∧ 0 ≤ y)) := by
  have h16 := hw.1
  induction m with
  | zero => intro i n o _ _ _ h; exact absurd h id
  | succ m ih =>
    intro i n o hv h1 h hst
    obtain ⟨n, rfl⟩ : ∃ k, n = k + 1 := ⟨n - 1, by omega⟩
    cases o with
    | none => exact ⟨-1, i, by rw [fX6_closes_32, if_pos (show gl none < 0 by decide)]; rfl, Or.inl ⟨rfl, by decide⟩⟩
    | some v =>
      have hl := hv v rfl
      rw [fX6_closes_32, show gl (some v) = nI v from rfl, if_neg (nI_pos (by omega))]
      by_cases q : v = w0
      · have ez : clo (on1 G) w0 (m + 1) i (some v) = i := if_pos q
        exact ⟨nI v, i, by rw [if_pos (by rw [q])], Or.inr ⟨ez, by omega, nI_pos' (by omega)⟩⟩
      · have ez : clo (on1 G) w0 (m + 1) i (some v) = clo (on1 G) w0 m (i + 1) (on1 G v) := if_neg q
        have hst : stp (on1 G) w0 m (on1 G v) := by
          cases hst with
          | inl z => exact absurd z q
          | inr z => exact z
        obtain ⟨y, j, e1, e2⟩ := ih (i + 1) n (on1 G v) (fun u e => (on1_lt hw e).1) (by omega) (by omega) hst
        exact ⟨y, j, by rw [if_neg (fun z => q ((nI_eq (by omega) (by omega)).mp z)), m_onward hw hs (by omega), Option.bind_some, nI_1, e1], by rw [ez]; exact e2⟩
theorem ok_closes {t : Nat} {M : Mem} (ht : t < 512) (hI : Inv t M) (a1 : Int32) (a2 : Int32) : ∃ v w, fX5_closes a1 a2 M = some v ∧ fX6_closes a1 a2 v.2 = some w ∧ v.1 = w.1 ∧ Inv (t + 1) w.2 := by
  refine ok_of hI (fun G hw hg => ?_)
  have h16 := hw.1
  by_cases h1 : okx (gF G) a1 = true ∧ okx 4 a2 = true
  · obtain ⟨a, d, ha, hd, rfl, rfl⟩ := way_t h16 h1
    have hl : 4 * a + d < 4 * gF G := by omega
    have hcl : fX5_closes (nI a) (nI d) M = if clo (on1 G) (4 * a + d) 64 1 (on1 G (4 * a + d)) = 0 then some (fnd 3, tellM 3 M) else some (nI (clo (on1 G) (4 * a + d) 64 1 (on1 G (4 * a + d))), M) := by
      unfold fX5_closes
      rw [c_hasWay hw hg, if_neg (b1 h1), c_wayOf, show (1 : Int32) = nI 1 from rfl, c_cll hw hg hl 64 1 FU _ hl (by decide) (by decide) (by decide), tb3]
    have hml : ∀ M1, RS 50 G M1 → fX6_closes (nI a) (nI d) M1 = if clo (on1 G) (4 * a + d) 64 1 (on1 G (4 * a + d)) = 0 then some (fnd 3, findM 3 M1) else some (nI (clo (on1 G) (4 * a + d) 64 1 (on1 G (4 * a + d))), M1) := by
      intro M1 hs
      obtain ⟨y, j, e1, e2⟩ := m_cll (kx := fun u10 u11 => (if 0 ≤ u10 then some (u11, M1) else ((fX6_finds (-1000000004 : Int32) M1).bind fun w13 => some (w13.1, w13.2)))) hw hs hl 64 1 FU (on1 G (4 * a + d)) (fun v e => (on1_lt hw e).1) (by decide) (by decide) (stp_64 (inj_on hw) (by omega) hl)
      unfold fX6_closes
      rw [m_isWay hw hs, Option.bind_some, if_neg (b1 h1), m_ix2, m_onward hw hs (by omega), Option.bind_some, show (1 : Int32) = nI 1 from rfl, e1]
      rcases e2 with ⟨z, y0⟩ | ⟨z, j0, y0⟩
      · rw [if_pos z, if_neg y0, mb3]
      · rw [z, if_neg j0, if_pos y0]
    by_cases hz : clo (on1 G) (4 * a + d) 64 1 (on1 G (4 * a + d)) = 0
    · refine ⟨fnd 3, G, some 3, WG_t hw, o7 (by decide), csp_fin hw hg ?_, fun M1 hs => msp_fin hs ?_⟩
      · rw [hcl, if_pos hz]
      · rw [hml M1 hs, if_pos hz]
    · refine ⟨nI (clo (on1 G) (4 * a + d) 64 1 (on1 G (4 * a + d))), G, none, WG_t hw, o0, csp_val hg ?_, fun M1 hs => msp_val hs ?_⟩
      · rw [hcl, if_neg hz]
      · rw [hml M1 hs, if_neg hz]
  · refine ⟨fnd 0, G, some 0, WG_t hw, o7 (by decide), csp_fin hw hg ?_, fun M1 hs => msp_fin hs ?_⟩
    · unfold fX5_closes; rw [c_hasWay hw hg, if_pos (b0 h1), tb0]
    · unfold fX6_closes; rw [m_isWay hw hs, Option.bind_some, if_pos (b0 h1), mb0]
