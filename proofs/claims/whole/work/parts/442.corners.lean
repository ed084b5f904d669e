/-! MATHS: all corners -/
def fs1 (f : Nat → Option Nat) (w0 : Nat) : Nat → Option Nat → Bool
  | 0, _ => true
  | _ + 1, none => true
  | m + 1, some v => if v = w0 then true else if w0 < v then fs1 f w0 m (f v) else false
theorem clo_ge {f : Nat → Option Nat} {w0 : Nat} (m : Nat) : ∀ i o, clo f w0 m i o ≠ 0 → i ≤ clo f w0 m i o := by
  induction m with
  | zero => intro i o h; exact absurd rfl h
  | succ m ih =>
    intro i o h
    cases o with
    | none => exact absurd rfl h
    | some v =>
      by_cases q : v = w0
      · have ez : clo f w0 (m + 1) i (some v) = i := if_pos q
        rw [ez]; exact Nat.le_refl _
      · have ez : clo f w0 (m + 1) i (some v) = clo f w0 m (i + 1) (f v) := if_neg q
        rw [ez] at h ⊢
        exact Nat.le_trans (Nat.le_succ _) (ih (i + 1) (f v) h)
theorem clo_z {f : Nat → Option Nat} {w0 : Nat} (m : Nat) : ∀ i o, 1 ≤ i → stp f w0 m o → clo f w0 m i o = 0 → ∃ j, o.bind (itr f j) = none := by
  induction m with
  | zero => intro i o _ h; exact absurd h id
  | succ m ih =>
    intro i o h1 hst h
    cases o with
    | none => exact ⟨0, rfl⟩
    | some v =>
      by_cases q : v = w0
      · have ez : clo f w0 (m + 1) i (some v) = i := if_pos q
        rw [ez] at h; omega
      · have ez : clo f w0 (m + 1) i (some v) = clo f w0 m (i + 1) (f v) := if_neg q
        rw [ez] at h
        have hst : stp f w0 m (f v) := by
          cases hst with
          | inl z => exact absurd z q
          | inr z => exact z
        obtain ⟨j, hj⟩ := ih (i + 1) (f v) (by omega) hst h
        exact ⟨j + 1, hj⟩
theorem fs1_clo {f : Nat → Option Nat} {w0 : Nat} (m : Nat) : ∀ i o, clo f w0 m i o ≠ 0 → o = itr f i w0 → (fs1 f w0 m o = true ↔ ∀ j, i ≤ j → j < clo f w0 m i o → ∀ v, itr f j w0 = some v → w0 ≤ v) := by
  induction m with
  | zero => intro i o h; exact absurd rfl h
  | succ m ih =>
    intro i o h ho
    cases o with
    | none => exact absurd rfl h
    | some v =>
      by_cases q : v = w0
      · have ez : clo f w0 (m + 1) i (some v) = i := if_pos q
        have ef : fs1 f w0 (m + 1) (some v) = true := if_pos q
        rw [ez, ef]
        exact ⟨fun _ j h1 h2 => absurd h1 (by omega), fun _ => rfl⟩
      · have ez : clo f w0 (m + 1) i (some v) = clo f w0 m (i + 1) (f v) := if_neg q
        have ef : fs1 f w0 (m + 1) (some v) = if w0 < v then fs1 f w0 m (f v) else false := if_neg q
        rw [ez] at h
        have hge := clo_ge m (i + 1) (f v) h
        have ho' : f v = itr f (i + 1) w0 := by rw [itr_s, ← ho]; rfl
        have hi := ih (i + 1) (f v) h ho'
        rw [ez, ef]
        by_cases q2 : w0 < v
        · rw [if_pos q2, hi]
          constructor
          · intro hh j h1 h2 u e
            by_cases qj : j = i
            · rw [qj, ← ho] at e; cases e; omega
            · exact hh j (by omega) h2 u e
          · intro hh j h1 h2 u e
            exact hh j (by omega) h2 u e
        · rw [if_neg q2]
          constructor
          · intro z; exact absurd z (by decide)
          · intro hh
            have := hh i (Nat.le_refl _) (by omega) v ho.symm
            omega
def frs (G : Gd) (w : Nat) : Bool := fs1 (bes G) w 64 (bes G w)
theorem m_fsl {ρ : Type} {kx : Int32 → Option ρ} {B : Nat} {G : Gd} {M : Mem} {w0 : Nat} (hw : WG B G) (hs : RS 50 G M) (h0 : w0 < 4 * gF G) (m : Nat) : ∀ (i n : Nat) (o : Option Nat), (∀ v, o = some v → v < 4 * gF G) → m + 1 < n → clo (bes G) w0 m i o ≠ 0 → fX6_isFirst_8 kx (nI w0) M n 1 (gl o) = kx (if fs1 (bes G) w0 m o = true then 1 else 0) := by
  have h16 := hw.1
  induction m with
  | zero => intro i n o _ _ h; exact absurd rfl h
  | succ m ih =>
    intro i n o hv h hc
    obtain ⟨n, rfl⟩ : ∃ k, n = k + 1 := ⟨n - 1, by omega⟩
    cases o with
    | none => exact absurd rfl hc
    | some v =>
      have hl := hv v rfl
      rw [fX6_isFirst_8, show gl (some v) = nI v from rfl]
      by_cases q : v = w0
      · have ef : fs1 (bes G) w0 (m + 1) (some v) = true := if_pos q
        rw [if_pos (by rw [q]), ef]; rfl
      · have ez : clo (bes G) w0 (m + 1) i (some v) = clo (bes G) w0 m (i + 1) (bes G v) := if_neg q
        have ef : fs1 (bes G) w0 (m + 1) (some v) = if w0 < v then fs1 (bes G) w0 m (bes G v) else false := if_neg q
        rw [ez] at hc
        rw [if_neg (fun z => q ((nI_eq (by omega) (by omega)).mp z)), if_neg (by decide), m_beside hw hs (by omega), Option.bind_some, ef]
        by_cases q2 : w0 < v
        · rw [if_neg (nI_ge q2 (by omega)), if_pos q2, ih (i + 1) n (bes G v) (fun u e => bes_lt hw e) (by omega) hc]
        · rw [if_pos ((nI_leI (by omega) (by omega)).mpr (by omega)), if_neg q2]
          obtain ⟨n, rfl⟩ : ∃ k, n = k + 1 := ⟨n - 1, by omega⟩
          rw [fX6_isFirst_8]
          by_cases q3 : gl (bes G v) = nI w0
          · rw [if_pos q3]; rfl
          · rw [if_neg q3, if_pos rfl]; rfl
theorem m_first {B : Nat} {G : Gd} {M : Mem} (hw : WG B G) (hs : RS 50 G M) {w : Nat} (hl : w < 4 * gF G) (ha : abt G w ≠ 0) : fX6_isFirst (nI w) M = some (if frs G w = true then 1 else 0) := by
  have h16 := hw.1
  unfold fX6_isFirst
  rw [m_beside hw hs (by omega), Option.bind_some]
  refine Eq.trans (m_fsl (kx := fun u8 => (zck u8).bind fun v9 => some v9) hw hs hl 64 1 FU (bes G w) (fun v e => bes_lt hw e) (by decide) ha) ?_
  unfold frs
  by_cases q : fs1 (bes G) w 64 (bes G w) = true
  · rw [if_pos q]; rfl
  · rw [if_neg q]; rfl
theorem itr_mul {f : Nat → Option Nat} {w p : Nat} (h : itr f (p + 1) w = some w) (k : Nat) : itr f (k * (p + 1)) w = some w := by
  induction k with
  | zero => rw [Nat.zero_mul]; rfl
  | succ k ih => rw [Nat.succ_mul, itr_add, ih]; exact h
/-- on a round one comes back, and every round is as long -/
theorem on_sym {f : Nat → Option Nat} {w x p : Nat} (hp : itr f (p + 1) w = some w) (hx : ∃ j, itr f j w = some x) : (∃ j, itr f j x = some w) ∧ itr f (p + 1) x = some x := by
  obtain ⟨j, hj⟩ := hx
  have := itr_per (P := fun v => (∃ j, itr f j v = some w) ∧ itr f (p + 1) v = some v) hp (fun a ha v e => ?_) j x hj
  · exact this
  · have e1 : itr f (p + 1 - a) v = some w := by
      have := itr_add f a (p + 1 - a) w
      rw [show a + (p + 1 - a) = p + 1 by omega, hp, e] at this
      exact this.symm
    refine ⟨⟨_, e1⟩, ?_⟩
    have := itr_add f (p + 1 - a) a v
    rw [show p + 1 - a + a = p + 1 by omega, e1] at this
    rw [this]; exact e
theorem abt_ne {B : Nat} {G : Gd} (hw : WG B G) {x p : Nat} (hl : x < 4 * gF G) (hp : itr (bes G) (p + 1) x = some x) : abt G x ≠ 0 := by
  have h16 := hw.1
  intro hz
  obtain ⟨j, hj⟩ := clo_z 64 1 (bes G x) (by decide) (stp_64 (inj_bes hw) (by omega) hl) hz
  have h1 : itr (bes G) (j + 1) x = none := hj
  have h2 := itr_mul hp (j + 1)
  rw [itr_none h1 (Nat.le_mul_of_pos_right _ (Nat.succ_pos p))] at h2
  cases h2
theorem abt_on {B : Nat} {G : Gd} (hw : WG B G) {w : Nat} (hl : w < 4 * gF G) (ha : abt G w ≠ 0) : itr (bes G) (abt G w - 1 + 1) w = some w := by
  rcases rn_abt hw hl with ⟨h, _⟩ | ⟨_, _, _, h⟩
  · exact absurd h ha
  · rw [show abt G w - 1 + 1 = abt G w by omega]; exact h
theorem on_lt {B : Nat} {G : Gd} (hw : WG B G) {w x : Nat} (hl : w < 4 * gF G) (ha : abt G w ≠ 0) (hx : ∃ j, itr (bes G) j w = some x) : ∃ j, j < abt G w ∧ itr (bes G) j w = some x := by
  obtain ⟨j, hj⟩ := hx
  exact itr_per (P := fun v => ∃ j, j < abt G w ∧ itr (bes G) j w = some v) (abt_on hw hl ha) (fun a h v e => ⟨a, by omega, e⟩) j x hj
def Tp (G : Gd) (c n : Nat) : Prop := ∀ x, n.testBit x = true ↔ ∃ c', c' < c ∧ abt G c' ≠ 0 ∧ ∃ j, j < abt G c' ∧ itr (bes G) j c' = some x
theorem frs_ge {B : Nat} {G : Gd} (hw : WG B G) {c : Nat} (hl : c < 4 * gF G) (ha : abt G c ≠ 0) (hf : frs G c = true) {x : Nat} (hx : ∃ j, itr (bes G) j c = some x) : c ≤ x := by
  obtain ⟨j, hj⟩ := hx
  refine itr_per (P := fun v => c ≤ v) (abt_on hw hl ha) (fun a h v e => ?_) j x hj
  cases a with
  | zero => cases e; exact Nat.le_refl _
  | succ a => exact (fs1_clo 64 1 (bes G c) ha (by rw [itr_s]; rfl)).mp hf (a + 1) (by omega) (show a + 1 < abt G c by omega) v e
theorem told_frs {B : Nat} {G : Gd} (hw : WG B G) {c n : Nat} (hl : c < 4 * gF G) (ha : abt G c ≠ 0) (ht : Tp G c n) : n.testBit c = true ↔ ¬ frs G c = true := by
  rw [ht c]
  constructor
  · rintro ⟨c', h1, h2, j, _, hj⟩ hf
    have := on_sym (abt_on hw (by omega) h2) ⟨j, hj⟩
    have := frs_ge hw hl ha hf this.1
    omega
  · intro hf
    have hex : ∃ j, 1 ≤ j ∧ j < abt G c ∧ ∃ v, itr (bes G) j c = some v ∧ v < c := Classical.byContradiction fun hn => hf ((fs1_clo 64 1 (bes G c) ha (by rw [itr_s]; rfl)).mpr (fun j h1 h2 v e => Nat.not_lt.mp (fun hv => hn ⟨j, h1, h2, v, e, hv⟩)))
    obtain ⟨j, h1, h2, v, e, hv⟩ := hex
    obtain ⟨b1, b2⟩ := on_sym (abt_on hw hl ha) ⟨j, e⟩
    have hvl : v < 4 * gF G := by omega
    have hav := abt_ne hw hvl b2
    exact ⟨v, hv, hav, on_lt hw hvl hav b1⟩
theorem Tp_not {B : Nat} {G : Gd} (hw : WG B G) {c n : Nat} (hl : c < 4 * gF G) (ht : Tp G c n) : Tp G (c + 1) (n ||| rn G c) := by
  intro x
  rw [Nat.testBit_or, Bool.or_eq_true, ht x]
  constructor
  · rintro (⟨c', h1, h2⟩ | h)
    · exact ⟨c', by omega, h2⟩
    · rcases rn_abt hw hl with ⟨_, z⟩ | ⟨z1, _, z3, _⟩
      · rw [z, Nat.zero_testBit] at h; exact absurd h (by decide)
      · exact ⟨c, by omega, z1, (z3 x).mp h⟩
  · rintro ⟨c', h1, h2, h3⟩
    by_cases q : c' < c
    · exact Or.inl ⟨c', q, h2, h3⟩
    · obtain rfl : c' = c := by omega
      rcases rn_abt hw hl with ⟨z, _⟩ | ⟨z1, _, z3, _⟩
      · exact absurd z h2
      · exact Or.inr ((z3 x).mpr h3)
theorem Tp_told {B : Nat} {G : Gd} (hw : WG B G) {c n : Nat} (hl : c < 4 * gF G) (ht : Tp G c n) (hc : n.testBit c = true) : Tp G (c + 1) n := by
  intro x
  rw [ht x]
  constructor
  · rintro ⟨c', h1, h2⟩
    exact ⟨c', by omega, h2⟩
  · rintro ⟨c', h1, h2, h3⟩
    by_cases q : c' < c
    · exact ⟨c', q, h2, h3⟩
    · obtain rfl : c' = c := by omega
      obtain ⟨d, d1, d2, i, _, hi⟩ := (ht c').mp hc
      obtain ⟨j, _, hj⟩ := h3
      exact ⟨d, d1, d2, on_lt hw (by omega) d2 ⟨i + j, by rw [itr_add, hi]; exact hj⟩⟩
theorem j_bit {n c : Nat} (hn : n < 2 ^ 64) (hc : c < 64) : ((lN n >>> ((nI c).toInt64 &&& 63)) &&& 1) = 0 ↔ n.testBit c = false := by
  rw [wb_c c hc]
  have e1 : (lN n >>> lN c).toBitVec = (BitVec.ofNat 64 n).sshiftRight c := by
    show (BitVec.ofNat 64 n).sshiftRight ((BitVec.ofNat 64 c).smod 64).toNat = _
    rw [wb_sm c hc, BitVec.toNat_ofNat, Nat.mod_eq_of_lt (by omega)]
  have e2 : ((BitVec.ofNat 64 n).sshiftRight c).getLsbD 0 = n.testBit c := by
    rw [BitVec.getLsbD_sshiftRight]
    simp [hc]
    rw [← BitVec.getLsbD_eq_getElem, BitVec.getLsbD_ofNat]
    simp [hc]
  constructor
  · intro h
    have h2 := congrArg (fun x : Int64 => x.toBitVec.getLsbD 0) h
    have h3 : ((lN n >>> lN c) &&& 1).toBitVec.getLsbD 0 = (0 : Int64).toBitVec.getLsbD 0 := h2
    rw [Int64.toBitVec_and, BitVec.getLsbD_and, e1, e2] at h3
    rw [show (1 : Int64).toBitVec.getLsbD 0 = true by decide, show (0 : Int64).toBitVec.getLsbD 0 = false by decide, Bool.and_true] at h3
    exact h3
  · intro h
    apply Int64.toBitVec_inj.mp
    rw [Int64.toBitVec_and, e1]
    apply BitVec.eq_of_getLsbD_eq
    intro i hi
    rw [BitVec.getLsbD_and]
    cases i with
    | zero => rw [e2, h]; rfl
    | succ i =>
      have : (1 : Int64).toBitVec.getLsbD (i + 1) = false := by
        show (BitVec.ofNat 64 1).getLsbD (i + 1) = false
        simp [BitVec.getLsbD_ofNat, Nat.testBit_succ]
      rw [this, Bool.and_false]
      show false = (BitVec.ofNat 64 0).getLsbD (i + 1)
      simp
def scs (g : Nat → Int32) : Nat → Nat → Int32 → Int32
  | 0, _, s => s
  | m + 1, i, s => scs g m (i + 1) (s + g i)
def gCo (G : Gd) (y1 y2 : Int32) (i : Nat) : Int32 := if abt G i ≠ 0 ∧ frs G i = true then y1 - y2 * nI (abt G i) else 0
theorem c_scl {ρ : Type} {kx : Int32 → Option ρ} {y1 y2 : Int32} {B : Nat} {G : Gd} {M : Mem} (hw : WG B G) (hg : RG 1 G M) (m : Nat) : ∀ (i fu n : Nat) (s : Int32), Tp G i n → n < 2 ^ 64 → i + m = 4 * gF G → m < fu → fX0_sumOfCorners_8 kx y1 y2 M fu (lN n) s (nI i) = kx (scs (gCo G y1 y2) m i s) := by
  have h16 := hw.1
  induction m with
  | zero =>
    intro i fu n s ht hn e h
    obtain rfl : i = 4 * gF G := by omega
    obtain ⟨fu, rfl⟩ : ∃ k, fu = k + 1 := ⟨fu - 1, by omega⟩
    rw [fX0_sumOfCorners_8, c_ways hg, if_pos (Int32.le_refl _)]; rfl
  | succ m ih =>
    intro i fu n s ht hn e h
    obtain ⟨fu, rfl⟩ : ∃ k, fu = k + 1 := ⟨fu - 1, by omega⟩
    have hl : i < 4 * gF G := by omega
    have hr := rn_lt hw hl
    rw [fX0_sumOfCorners_8, c_ways hg, if_neg (nI_ge hl (by omega)), nI_1]
    show _ = kx (scs (gCo G y1 y2) m (i + 1) (s + gCo G y1 y2 i))
    by_cases q : n.testBit i = false
    · rw [if_pos ((lg_eq _ _).mpr ((j_bit hn (by omega)).mpr q)), c_round hw hg hl, Option.bind_some, Option.bind_some, wb_or hn hr, ih (i + 1) fu _ _ (Tp_not hw hl ht) (Nat.or_lt_two_pow hn hr) (by omega) (by omega)]
      refine congrArg (fun y => kx (scs (gCo G y1 y2) m (i + 1) (s + y))) ?_
      unfold gCo
      rcases rn_abt hw hl with ⟨z1, z2⟩ | ⟨z1, z2, _⟩
      · rw [z2, if_pos (show lg_cmp (lN 0) 0 = 0 by decide), if_neg (fun w => w.1 z1)]
      · have hnz : ¬ rn G i = 0 := fun q => by rw [q, pc_z] at z2; omega
        have hfr : frs G i = true := Classical.byContradiction fun w => by
          have := (told_frs hw hl z1 ht).mpr w
          rw [q] at this; exact absurd this (by decide)
        rw [if_neg (fun w => hnz ((nz64 hr).mp ((lg_eq _ _).mp w))), bc_l hr, z2, if_pos ⟨z1, hfr⟩]
    · have q' : n.testBit i = true := by
        cases hz : n.testBit i with
        | true => rfl
        | false => exact absurd hz q
      rw [if_neg (fun w => q ((j_bit hn (by omega)).mp ((lg_eq _ _).mp w))), Option.bind_some, ih (i + 1) fu _ _ (Tp_told hw hl ht q') hn (by omega) (by omega)]
      have hz : gCo G y1 y2 i = 0 := if_neg (fun w => (told_frs hw hl w.1 ht).mp q' w.2)
      rw [hz, Int32.add_zero]
theorem c_corn {y1 y2 : Int32} {B : Nat} {G : Gd} {M : Mem} (hw : WG B G) (hg : RG 1 G M) : fX0_sumOfCorners y1 y2 M = some (scs (gCo G y1 y2) (4 * gF G) 0 0) := by
  have h16 := hw.1
  refine c_scl (kx := fun u9 => some u9) hw hg (4 * gF G) 0 FU 0 0 (fun x => ?_) (by decide) (Nat.zero_add _) (by unfold FU; omega)
  rw [Nat.zero_testBit]
  exact ⟨fun q => absurd q (by decide), fun ⟨j, hj, _⟩ => absurd hj (Nat.not_lt_zero _)⟩
theorem m_col {ρ : Type} {kx : Int32 → Option ρ} {B : Nat} {G : Gd} {M : Mem} (hw : WG B G) (hs : RS 50 G M) (m : Nat) : ∀ (i n : Nat) (x : Int32), i + m = 4 * gF G → m < n → fX6_corners_4 kx M n x (nI i) = kx (scs (gCo G 1 0) m i x) := by
  have h16 := hw.1
  have e4 : (4 : Int32) * nI (gF G) = nI (4 * gF G) := pk_mul 4 (gF G)
  induction m with
  | zero =>
    intro i n x e h
    obtain rfl : i = 4 * gF G := by omega
    obtain ⟨n, rfl⟩ : ∃ k, n = k + 1 := ⟨n - 1, by omega⟩
    rw [fX6_corners_4, ld50_0, Option.bind_some, hs.1, e4, if_pos (Int32.le_refl _)]; rfl
  | succ m ih =>
    intro i n x e h
    obtain ⟨n, rfl⟩ : ∃ k, n = k + 1 := ⟨n - 1, by omega⟩
    have hl : i < 4 * gF G := by omega
    have h64 := abt_le hw hl
    rw [fX6_corners_4, ld50_0, Option.bind_some, hs.1, e4, if_neg (nI_ge hl (by omega)), m_about hw hs hl, Option.bind_some, nI_1]
    show _ = kx (scs (gCo G 1 0) m (i + 1) (x + gCo G 1 0 i))
    rw [← ih (i + 1) n _ (by omega) (by omega)]
    unfold gCo
    by_cases z1 : abt G i = 0
    · rw [if_pos (show nI (abt G i) ≤ 0 by rw [z1]; decide), Option.bind_some, if_neg (fun w => w.1 z1)]
    · rw [if_neg (nI_nle (by omega) (by omega)), m_first hw hs hl z1, Option.bind_some]
      by_cases q : frs G i = true
      · rw [if_neg (b1 q), Option.bind_some, if_pos ⟨z1, q⟩, Int32.zero_mul, Int32.sub_zero]
      · rw [if_pos (b0 q), Option.bind_some, if_neg (fun w => q w.2)]
theorem m_exl {ρ : Type} {kx : Int32 → Option ρ} {B : Nat} {G : Gd} {M : Mem} (hw : WG B G) (hs : RS 50 G M) (m : Nat) : ∀ (i n : Nat) (x : Int32), i + m = 4 * gF G → m < n → fX6_excess_4 kx M n x (nI i) = kx (scs (gCo G 4 1) m i x) := by
  have h16 := hw.1
  have e4 : (4 : Int32) * nI (gF G) = nI (4 * gF G) := pk_mul 4 (gF G)
  induction m with
  | zero =>
    intro i n x e h
    obtain rfl : i = 4 * gF G := by omega
    obtain ⟨n, rfl⟩ : ∃ k, n = k + 1 := ⟨n - 1, by omega⟩
    rw [fX6_excess_4, ld50_0, Option.bind_some, hs.1, e4, if_pos (Int32.le_refl _)]; rfl
  | succ m ih =>
    intro i n x e h
    obtain ⟨n, rfl⟩ : ∃ k, n = k + 1 := ⟨n - 1, by omega⟩
    have hl : i < 4 * gF G := by omega
    have h64 := abt_le hw hl
    rw [fX6_excess_4, ld50_0, Option.bind_some, hs.1, e4, if_neg (nI_ge hl (by omega)), m_about hw hs hl, Option.bind_some, nI_1]
    show _ = kx (scs (gCo G 4 1) m (i + 1) (x + gCo G 4 1 i))
    rw [← ih (i + 1) n _ (by omega) (by omega)]
    unfold gCo
    by_cases z1 : abt G i = 0
    · rw [if_pos (show nI (abt G i) ≤ 0 by rw [z1]; decide), Option.bind_some, if_neg (fun w => w.1 z1)]
    · rw [if_neg (nI_nle (by omega) (by omega)), m_first hw hs hl z1, Option.bind_some]
      by_cases q : frs G i = true
      · rw [if_neg (b1 q), Option.bind_some, Option.bind_some, if_pos ⟨z1, q⟩, Int32.one_mul]
      · rw [if_pos (b0 q), Option.bind_some, if_neg (fun w => q w.2)]
theorem ok_corners {t : Nat} {M : Mem} (ht : t < 512) (hI : Inv t M) : ∃ v w, fX5_corners M = some v ∧ fX6_corners M = some w ∧ v = w ∧ Inv (t + 1) M := by
  have hI' := hI
  obtain ⟨⟨G, hw, hg, hs⟩, hR⟩ := hI
  have h16 := hw.1
  refine ⟨scs (gCo G 1 0) (4 * gF G) 0 0, scs (gCo G 1 0) (4 * gF G) 0 0, ?_, m_col (kx := fun u13 => some u13) hw hs (4 * gF G) 0 FU 0 (Nat.zero_add _) (by unfold FU; omega), rfl, Inv_next hI'⟩
  unfold fX5_corners; rw [c_corn hw hg]; rfl
theorem ok_excess {t : Nat} {M : Mem} (ht : t < 512) (hI : Inv t M) : ∃ v w, fX5_excess M = some v ∧ fX6_excess M = some w ∧ v = w ∧ Inv (t + 1) M := by
  have hI' := hI
  obtain ⟨⟨G, hw, hg, hs⟩, hR⟩ := hI
  have h16 := hw.1
  refine ⟨scs (gCo G 4 1) (4 * gF G) 0 0, scs (gCo G 4 1) (4 * gF G) 0 0, ?_, m_exl (kx := fun u15 => some u15) hw hs (4 * gF G) 0 FU 0 (Nat.zero_add _) (by unfold FU; omega), rfl, Inv_next hI'⟩
  unfold fX5_excess; rw [c_corn hw hg]; rfl
