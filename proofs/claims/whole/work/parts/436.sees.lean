/-! MATHS: what is seen along a way -/
def fbit (w : Nat) : Int32 := (1 : Int32) <<< (nI (w / 4) &&& 31)
def seeC (f : Nat → Option Nat) : Nat → Int32 → Option Nat → Int32
  | 0, x, _ => x
  | _ + 1, x, none => x
  | m + 1, x, some w => seeC f m (x ||| fbit w) (f w)
def seeM (f : Nat → Option Nat) (w0 : Nat) : Nat → Int32 → Option Nat → Int32
  | 0, x, _ => x
  | _ + 1, x, none => x
  | m + 1, x, some w => if w = w0 then x else seeM f w0 m (x ||| fbit w) (f w)
theorem seeC_0 {f : Nat → Option Nat} {m : Nat} {x : Int32} : seeC f m x none = x := by cases m <;> rfl
theorem seeM_0 {f : Nat → Option Nat} {w0 m : Nat} {x : Int32} : seeM f w0 m x none = x := by cases m <;> rfl
theorem or_sub {x y z : Int32} (h : x ||| y = x) : (x ||| z) ||| y = x ||| z := by
  rw [Int32.or_assoc, Int32.or_comm z y, ← Int32.or_assoc, h]
theorem seeC_st {f : Nat → Option Nat} {x : Int32} (m : Nat) : ∀ o : Option Nat, (∀ j v, o.bind (itr f j) = some v → x ||| fbit v = x) → seeC f m x o = x := by
  induction m with
  | zero => intro o _; rfl
  | succ m ih =>
    intro o h
    cases o with
    | none => rfl
    | some w =>
      show seeC f m (x ||| fbit w) (f w) = x
      rw [h 0 w rfl]
      exact ih (f w) (fun j v e => h (j + 1) v e)
theorem itr_per {f : Nat → Option Nat} {w0 p : Nat} (hp : itr f (p + 1) w0 = some w0) {P : Nat → Prop} (h : ∀ j, j < p + 1 → ∀ v, itr f j w0 = some v → P v) : ∀ j v, itr f j w0 = some v → P v := by
  intro j
  induction j using Nat.strongRecOn with
  | _ j ih =>
    intro v e
    by_cases q : j < p + 1
    · exact h j q v e
    · obtain ⟨c, rfl⟩ : ∃ c, j = p + 1 + c := ⟨j - (p + 1), by omega⟩
      rw [itr_add, hp] at e
      exact ih c (by omega) v e
theorem see_eq {f : Nat → Option Nat} {w0 : Nat} (m : Nat) : ∀ (i : Nat) (x : Int32) (o : Option Nat), o = itr f (i + 1) w0 → (∀ j, j < i + 1 → ∀ v, itr f j w0 = some v → x ||| fbit v = x) → stp f w0 (m + 1) o → seeM f w0 (m + 1) x o = seeC f m x o := by
  induction m with
  | zero =>
    intro i x o ho hx hst
    cases o with
    | none => rfl
    | some v =>
      have : v = w0 := by
        cases hst with
        | inl h => exact h
        | inr h => exact absurd h id
      show (if v = w0 then x else _) = x
      rw [if_pos this]
  | succ m ih =>
    intro i x o ho hx hst
    cases o with
    | none => rfl
    | some v =>
      by_cases q : v = w0
      · subst q
        show (if v = v then x else _) = _
        rw [if_pos rfl]
        refine (seeC_st (m + 1) (some v) (fun j u e => ?_)).symm
        exact itr_per ho.symm hx j u e
      · have hst : stp f w0 (m + 1) (f v) := by
          cases hst with
          | inl h => exact absurd h q
          | inr h => exact h
        show (if v = w0 then x else seeM f w0 (m + 1) (x ||| fbit v) (f v)) = seeC f m (x ||| fbit v) (f v)
        rw [if_neg q]
        refine ih (i + 1) (x ||| fbit v) (f v) ?_ (fun j hj u e => ?_) hst
        · rw [itr_s, ← ho]; rfl
        · by_cases hj' : j < i + 1
          · exact or_sub (hx j hj' u e)
          · obtain rfl : j = i + 1 := by omega
            rw [← ho] at e
            cases e
            rw [Int32.or_assoc, Int32.or_self]
def see (G : Gd) (w : Nat) : Int32 := seeC (on1 G) 64 0 (some w)
theorem c_sel {ρ : Type} {kx : Int32 → Option ρ} {B : Nat} {G : Gd} {M : Mem} (hw : WG B G) (hg : RG 1 G M) (m : Nat) : ∀ (i n : Nat) (x : Int32) (o : Option Nat), (∀ v, o = some v → v < 4 * gF G) → i + m = 64 → m < n → fX0_seenFrom_7 kx M n x (gl o) (nI i) = kx (seeC (on1 G) m x o) := by
  have h16 := hw.1
  induction m with
  | zero =>
    intro i n x o ho e h
    obtain rfl : i = 64 := by omega
    obtain ⟨n, rfl⟩ : ∃ k, n = k + 1 := ⟨n - 1, by omega⟩
    rw [fX0_seenFrom_7, if_pos (by decide)]; rfl
  | succ m ih =>
    intro i n x o ho e h
    obtain ⟨n, rfl⟩ : ∃ k, n = k + 1 := ⟨n - 1, by omega⟩
    rw [fX0_seenFrom_7, if_neg (show ¬ (64 : Int32) ≤ nI i from nI_ge (b := 64) (by omega) (by decide))]
    cases o with
    | none => rw [if_pos (show gl none = -1 from rfl)]; rfl
    | some w =>
      have hl := ho w rfl
      rw [show gl (some w) = nI w from rfl, if_neg (nI_m1 w (by omega)), c_goOn hw hg hl, Option.bind_some, c_fieldOf (by omega), nI_1, ih (i + 1) n _ (on1 G w) (fun v e => (on1_lt hw e).1) (by omega) (by omega)]; rfl
theorem c_seen {B : Nat} {G : Gd} {M : Mem} (hw : WG B G) (hg : RG 1 G M) {w : Nat} (hl : w < 4 * gF G) : fX0_seenFrom (nI w) M = some (see G w) := c_sel (kx := fun u5 => some u5) hw hg 64 0 FU 0 (some w) (fun v e => by cases e; exact hl) (by decide) (by decide)
theorem m_sel {ρ : Type} {kx : Int32 → Option ρ} {B : Nat} {G : Gd} {M : Mem} {w0 : Nat} (hw : WG B G) (hs : RS 50 G M) (h0 : w0 < 4 * gF G) (m : Nat) : ∀ (n : Nat) (x : Int32) (o : Option Nat), (∀ v, o = some v → v < 4 * gF G) → m < n → stp (on1 G) w0 m o → fX6_seen_12 kx (nI w0) M n x (gl o) = kx (seeM (on1 G) w0 m x o) := by
  have h16 := hw.1
  induction m with
  | zero => intro n x o _ _ h; exact absurd h id
  | succ m ih =>
    intro n x o hv h hst
    obtain ⟨n, rfl⟩ : ∃ k, n = k + 1 := ⟨n - 1, by omega⟩
    cases o with
    | none => rw [fX6_seen_12, if_pos (show gl none < 0 by decide)]; rfl
    | some v =>
      have hl := hv v rfl
      rw [fX6_seen_12, show gl (some v) = nI v from rfl, if_neg (nI_pos (by omega))]
      by_cases q : v = w0
      · rw [if_pos (by rw [q])]
        show _ = kx (if v = w0 then x else _)
        rw [if_pos q]
      · have hst : stp (on1 G) w0 m (on1 G v) := by
          cases hst with
          | inl z => exact absurd z q
          | inr z => exact z
        rw [if_neg (fun z => q ((nI_eq (by omega) (by omega)).mp z)), m_onward hw hs (by omega), Option.bind_some, div4 (by omega), ih n _ (on1 G v) (fun u e => (on1_lt hw e).1) (by omega) hst]
        show _ = kx (if v = w0 then x else _)
        rw [if_neg q]; rfl
theorem m_seen {B : Nat} {G : Gd} {M : Mem} (hw : WG B G) (hs : RS 50 G M) {w : Nat} (hl : w < 4 * gF G) : fX6_seen (nI w) M = some (see G w) := by
  have h16 := hw.1
  have hst := stp_64 (inj_on hw) (by omega) hl
  unfold fX6_seen
  rw [m_onward hw hs (by omega), Option.bind_some, div4 (by omega)]
  refine Eq.trans (m_sel (kx := fun u7 => some u7) hw hs hl 64 FU (fbit w) (on1 G w) (fun v e => (on1_lt hw e).1) (by decide) hst) ?_
  rw [see_eq 63 0 (fbit w) (on1 G w) (by rw [itr_s]; rfl) (fun j hj v e => ?_) hst]
  · show some (seeC (on1 G) 63 (fbit w) (on1 G w)) = some (seeC (on1 G) 63 (0 ||| fbit w) (on1 G w))
    rw [Int32.zero_or]
  · obtain rfl : j = 0 := by omega
    cases e
    exact Int32.or_self
theorem ok_sees {t : Nat} {M : Mem} (ht : t < 512) (hI : Inv t M) (a1 : Int32) (a2 : Int32) : ∃ v w, fX5_sees a1 a2 M = some v ∧ fX6_sees a1 a2 v.2 = some w ∧ v.1 = w.1 ∧ Inv (t + 1) w.2 := by
  refine ok_of hI (fun G hw hg => ?_)
  have h16 := hw.1
  by_cases h1 : okx (gF G) a1 = true ∧ okx 4 a2 = true
  · obtain ⟨a, d, ha, hd, rfl, rfl⟩ := way_t h16 h1
    have hl : 4 * a + d < 4 * gF G := by omega
    refine ⟨see G (4 * a + d), G, none, WG_t hw, o0, csp_val hg ?_, fun M1 hs => msp_val hs ?_⟩
    · unfold fX5_sees; rw [c_hasWay hw hg, if_neg (b1 h1), c_wayOf, c_seen hw hg hl]; rfl
    · unfold fX6_sees; rw [m_isWay hw hs, Option.bind_some, if_neg (b1 h1), m_ix2, m_seen hw hs hl]; rfl
  · refine ⟨fnd 0, G, some 0, WG_t hw, o7 (by decide), csp_fin hw hg ?_, fun M1 hs => msp_fin hs ?_⟩
    · unfold fX5_sees; rw [c_hasWay hw hg, if_pos (b0 h1), tb0]
    · unfold fX6_sees; rw [m_isWay hw hs, Option.bind_some, if_pos (b0 h1), mb0]
