/-! MATHS: a ground, and what the two memories hold of it -/
abbrev Gd : Type := (Nat × Nat) × (Nat → Nat) × (Nat → Option Nat) × (Nat → Nat × Nat × Nat × Nat)
def gF (G : Gd) : Nat := G.1.1
def gW (G : Gd) : Nat := G.1.2
def gR (G : Gd) : Nat → Nat := G.2.1
def gG (G : Gd) : Nat → Option Nat := G.2.2.1
/-- a walker: kind, way, miles, bumps -/
def gK (G : Gd) : Nat → Nat × Nat × Nat × Nat := G.2.2.2
def WG (B : Nat) (G : Gd) : Prop := gF G ≤ 16 ∧ gW G ≤ 6 ∧ (∀ f, f < gF G → gR G f ≤ 9) ∧ (∀ w v, gG G w = some v → w < 4 * gF G ∧ v < 4 * gF G ∧ v ≠ w ∧ gG G v = some w) ∧ ∀ k, k < gW G → (gK G k).1 ≤ 5 ∧ (gK G k).2.1 < 4 * gF G ∧ (gK G k).2.2.1 ≤ B ∧ (gK G k).2.2.2 ≤ B
theorem WG_mono {B B' : Nat} {G : Gd} (h : WG B G) (hb : B ≤ B') : WG B' G := ⟨h.1, h.2.1, h.2.2.1, h.2.2.2.1, fun k hk => ⟨(h.2.2.2.2 k hk).1, (h.2.2.2.2 k hk).2.1, Nat.le_trans (h.2.2.2.2 k hk).2.2.1 hb, Nat.le_trans (h.2.2.2.2 k hk).2.2.2 hb⟩⟩
def gl : Option Nat → Int32
  | none => -1
  | some v => nI v
def gm : Option Nat → Int32
  | none => 0
  | some v => nI (v + 1)
def RW (c : Nat) (u : Nat × Nat × Nat × Nat) (M : Mem) : Prop := M.1 c 0 = nI u.1 ∧ M.1 c 1 = nI u.2.1 ∧ M.1 c 2 = nI u.2.2.1 ∧ M.1 c 3 = nI u.2.2.2
def RG (b : Nat) (G : Gd) (M : Mem) : Prop := M.1 b 0 = nI (gF G) ∧ M.1 b 1 = nI (gW G) ∧ (∀ f, f < gF G → M.1 (b + 8) f = nI (gR G f)) ∧ (∀ w, w < 4 * gF G → M.1 (b + 9) w = gl (gG G w)) ∧ ∀ k, k < gW G → RW (b + 2 + k) (gK G k) M
def RK (a k : Nat) (u : Nat × Nat × Nat × Nat) (M : Mem) : Prop := M.1 a (82 + 5 * k) = nI u.1 ∧ M.1 a (83 + 5 * k) = nI (u.2.1 / 4) ∧ M.1 a (84 + 5 * k) = nI (u.2.1 % 4) ∧ M.1 a (85 + 5 * k) = nI u.2.2.1 ∧ M.1 a (86 + 5 * k) = nI u.2.2.2
def RS (a : Nat) (G : Gd) (M : Mem) : Prop := M.1 a 0 = nI (gF G) ∧ M.1 a 1 = nI (gW G) ∧ (∀ f, f < gF G → M.1 a (2 + f) = nI (gR G f)) ∧ (∀ w, w < 64 → M.1 a (18 + w) = gm (gG G w)) ∧ ∀ k, k < gW G → RK a k (gK G k) M
/-- the relations look at few cells -/
theorem RG_cg {b B : Nat} {G : Gd} {M M' : Mem} (hw : WG B G) (h : RG b G M) (hc : ∀ c, b ≤ c → c < b + 10 → M'.1 c = M.1 c) : RG b G M' := by
  obtain ⟨h1, h2, h3, h4, h5⟩ := h
  refine ⟨by rw [hc b (by omega) (by omega)]; exact h1, by rw [hc b (by omega) (by omega)]; exact h2, fun f hf => by rw [hc _ (by omega) (by omega)]; exact h3 f hf, fun w hw => by rw [hc _ (by omega) (by omega)]; exact h4 w hw, fun k hk => ?_⟩
  have := hw.2.1
  unfold RW; rw [hc _ (by omega) (by omega)]; exact h5 k hk
theorem RS_cg {a : Nat} {G : Gd} {M M' : Mem} (h : RS a G M) (hc : M'.1 a = M.1 a) : RS a G M' := by
  unfold RS RK at *
  rw [hc]; exact h
/-! class: the ground's questions -/
def trn (v q : Nat) : Nat := v / 4 * 4 + (v + q) % 4
def on1 (G : Gd) (w : Nat) : Option Nat := (gG G w).map (fun v => trn v 2)
theorem c_fieldOf {w : Nat} (h : w < 2 ^ 31) : fX5_fieldOf (nI w) = nI (w / 4) := pk_div (d := 4) h (by decide) (by decide)
theorem c_headingOf {w : Nat} (h : w < 2 ^ 31) : fX5_headingOf (nI w) = nI (w % 4) := pk_rem (d := 4) h (by decide) (by decide)
theorem c_wayOf (f d : Nat) : fX5_wayOf (nI f) (nI d) = nI (4 * f + d) := by
  show nI f * nI 4 + nI d = _
  rw [pk_mul, nI_add, Nat.mul_comm]
theorem c_turned {v q : Nat} (h : v < 2 ^ 30) (hq : q < 2 ^ 30) : fX5_turned (nI v) (nI q) = nI (trn v q) := by
  unfold fX5_turned
  rw [c_fieldOf (by omega), c_headingOf (by omega), nI_add]
  have e : nI (v % 4 + q) - nI (v % 4 + q) / (4 : Int32) * (4 : Int32) = nI ((v % 4 + q) % 4) := pk_rem (d := 4) (by omega) (by decide) (by decide)
  rw [e, c_wayOf]
  congr 1
  unfold trn
  omega
section
variable {B b : Nat} {G : Gd} {M : Mem}
theorem c_hasField (hw : WG B G) (h : RG 1 G M) (x : Int32) : fX0_hasField x M = if okx (gF G) x = true then 1 else 0 := by
  unfold fX0_hasField; rw [h.1]
  exact cls_x (by have := hw.1; omega) x
theorem c_hasWalker (hw : WG B G) (h : RG 1 G M) (x : Int32) : fX0_hasWalker x M = if okx (gW G) x = true then 1 else 0 := by
  unfold fX0_hasWalker; rw [h.2.1]
  exact cls_x (by have := hw.2.1; omega) x
theorem c_hasWay (hw : WG B G) (h : RG 1 G M) (x y : Int32) : fX0_hasWay x y M = if okx (gF G) x = true ∧ okx 4 y = true then 1 else 0 := by
  unfold fX0_hasWay
  rw [c_hasField hw h]
  by_cases h1 : okx (gF G) x = true
  · rw [if_pos h1, if_neg (by decide)]
    have := cls_x (F := 4) (by decide) y
    refine this.trans ?_
    by_cases h2 : okx 4 y = true
    · rw [if_pos h2, if_pos ⟨h1, h2⟩]
    · rw [if_neg h2, if_neg (fun q => h2 q.2)]
  · rw [if_neg h1, if_pos rfl, if_neg (fun q => h1 q.1)]
theorem c_ways (h : RG 1 G M) : fX0_ways M = nI (4 * gF G) := by
  unfold fX0_ways; rw [h.1]
  show nI _ * nI 4 = _
  rw [pk_mul, Nat.mul_comm]
theorem c_gluedTo (hw : WG B G) (h : RG 1 G M) {w : Nat} (hl : w < 4 * gF G) : fX0_gluedTo (nI w) M = some (gl (gG G w)) := by
  have h16 := hw.1
  unfold fX0_gluedTo
  rw [if_neg (nI_pos (by omega)), c_ways h, if_neg (fun q => by rw [nI_leI (by omega) (by omega)] at q; omega), ldI_n (by omega) (by decide), Option.bind_some, h.2.2.2.1 w hl]
theorem c_isFree (hw : WG B G) (h : RG 1 G M) {w : Nat} (hl : w < 4 * gF G) : fX0_isFree (nI w) M = some (if gG G w = none then 1 else 0) := by
  have h16 := hw.1
  unfold fX0_isFree
  rw [c_gluedTo hw h hl, Option.bind_some]
  cases hg : gG G w with
  | none => rfl
  | some v =>
    have hv := (hw.2.2.2.1 w v hg).2.1
    rw [if_neg (show ¬ gl (some v) = -1 from nI_m1 v (by omega))]; rfl
theorem c_goOn (hw : WG B G) (h : RG 1 G M) {w : Nat} (hl : w < 4 * gF G) : fX0_goOn (nI w) M = some (gl (on1 G w)) := by
  have h16 := hw.1
  unfold fX0_goOn
  rw [c_gluedTo hw h hl, Option.bind_some]
  cases hg : gG G w with
  | none => simp only [on1, hg, Option.map_none, gl, if_pos]
  | some v =>
    have hv := (hw.2.2.2.1 w v hg).2.1
    rw [if_neg (show ¬ gl (some v) = -1 from nI_m1 v (by omega))]
    show some (fX5_turned (nI v) (nI 2)) = _
    rw [c_turned (by omega) (by decide)]
    simp only [on1, hg, Option.map_some, gl]
theorem on1_lt (hw : WG B G) {w v : Nat} (h : on1 G w = some v) : v < 4 * gF G ∧ w < 4 * gF G := by
  unfold on1 at h
  cases hg : gG G w with
  | none => rw [hg] at h; cases h
  | some u =>
    rw [hg] at h
    cases h
    have hv := hw.2.2.2.1 w u hg
    show trn u 2 < 4 * gF G ∧ w < 4 * gF G
    unfold trn
    omega
theorem c_roughOf (hw : WG B G) (h : RG 1 G M) {f : Nat} (hl : f < gF G) : fX0_roughOf (nI f) M = some (nI (gR G f)) := by
  have h16 := hw.1
  unfold fX0_roughOf
  rw [c_hasField hw h, okx_tt hl (by omega), if_pos rfl, if_neg (by decide), ldI_n (by omega) (by decide), Option.bind_some, h.2.2.1 f hl]
/-! model: the same -/
theorem ld50_0 {M : Mem} : ldI M 50 112 (0 : Int32) = some (M.1 50 0) := ldI_n (k := 0) (by decide) (by decide)
theorem ld50_1 {M : Mem} : ldI M 50 112 (1 : Int32) = some (M.1 50 1) := ldI_n (k := 1) (by decide) (by decide)
theorem m_isField (hw : WG B G) (h : RS 50 G M) (x : Int32) : fX6_isField x M = some (if okx (gF G) x = true then 1 else 0) := by
  have h16 := hw.1
  unfold fX6_isField
  rw [ld50_0, Option.bind_some, h.1]
  rw [in_x x (n := gF G) (nI_sub1 (by omega))]
theorem m_isWalker (hw : WG B G) (h : RS 50 G M) (x : Int32) : fX6_isWalker x M = some (if okx (gW G) x = true then 1 else 0) := by
  have h16 := hw.2.1
  unfold fX6_isWalker
  rw [ld50_1, Option.bind_some, h.2.1]
  rw [in_x x (n := gW G) (nI_sub1 (by omega))]
theorem m_isSide (x : Int32) : fX6_isSide x = if okx 4 x = true then 1 else 0 := in_x x (n := 4) rfl
theorem m_isKind (x : Int32) : fX6_isKind x = if okx 6 x = true then 1 else 0 := in_x x (n := 6) rfl
theorem m_isOne (x : Int32) : fX6_isOne x = if okx 4 x = true then 1 else 0 := in_x x (n := 4) rfl
theorem m_isWay (hw : WG B G) (h : RS 50 G M) (x y : Int32) : fX6_isWay x y M = some (if okx (gF G) x = true ∧ okx 4 y = true then 1 else 0) := by
  unfold fX6_isWay
  rw [m_isField hw h, Option.bind_some, m_isSide]
  by_cases h1 : okx (gF G) x = true
  · rw [if_pos h1, if_neg (by decide)]
    by_cases h2 : okx 4 y = true
    · rw [if_pos h2, if_neg (by decide), if_pos ⟨h1, h2⟩]
    · rw [if_neg h2, if_pos rfl, if_neg (fun q => h2 q.2)]
  · rw [if_neg h1, if_pos rfl, if_neg (fun q => h1 q.1)]
theorem m_glued (h : RS 50 G M) {w : Nat} (hl : w < 64) : ldI M 50 112 (nI (18 + w)) = some (gm (gG G w)) := by
  rw [ldI_n (by omega) (by decide), h.2.2.2.1 w hl]
theorem gm_pos {o : Option Nat} (ho : ∀ v, o = some v → v < 2 ^ 30) : (gm o = 0 ↔ o = none) ∧ (gm o ≤ 0 ↔ o = none) ∧ (0 < gm o ↔ ¬ o = none) := by
  cases o with
  | none => exact ⟨⟨fun _ => rfl, fun _ => rfl⟩, ⟨fun _ => rfl, fun _ => by decide⟩, ⟨fun q => absurd q (by decide), fun q => absurd rfl q⟩⟩
  | some v =>
    have hv := ho v rfl
    have e : gm (some v) = nI (v + 1) := rfl
    rw [e]
    refine ⟨⟨fun q => absurd q (nI_ne0 (by omega) (by omega)), fun q => (by cases q)⟩, ⟨fun q => absurd q (nI_nle (by omega) (by omega)), fun q => (by cases q)⟩, ⟨fun _ q => (by cases q), fun _ => ?_⟩⟩
    exact nI_lt (a := 0) (by omega) (by omega)
theorem m_onwardq (q : Nat) (hq : q < 2 ^ 30) {v : Nat} (hv : v < 64) : ((nI (v + 1) - 1) / (4 : Int32)) * (4 : Int32) + (((nI (v + 1) - 1) + nI q) - ((nI (v + 1) - 1) + nI q) / (4 : Int32) * (4 : Int32)) = nI (trn v q) := by
  rw [nI_pred, nI_add]
  have e1 : nI v / (4 : Int32) = nI (v / 4) := pk_div (d := 4) (by omega) (by decide) (by decide)
  have e2 : nI (v + q) - nI (v + q) / (4 : Int32) * (4 : Int32) = nI ((v + q) % 4) := pk_rem (d := 4) (by omega) (by decide) (by decide)
  rw [e1, e2]
  show nI _ * nI 4 + _ = _
  rw [pk_mul, nI_add]
  rfl
theorem m_onward (hw : WG B G) (h : RS 50 G M) {w : Nat} (hl : w < 64) : fX6_onward (nI w) M = some (gl (on1 G w)) := by
  have h16 := hw.1
  unfold fX6_onward
  rw [show (18 : Int32) = nI 18 from rfl, nI_add, m_glued h hl, Option.bind_some]
  cases hg : gG G w with
  | none => simp only [on1, hg, Option.map_none, gl, gm]; rfl
  | some v =>
    have hv := (hw.2.2.2.1 w v hg).2.1
    have e : gm (some v) = nI (v + 1) := rfl
    rw [e, if_pos (by rw [nI_pred]; exact nI_pos' (by omega))]
    have := m_onwardq 2 (by decide) (v := v) (by omega)
    simp only [on1, hg, Option.map_some, gl]
    exact congrArg some this
def bes (G : Gd) (w : Nat) : Option Nat := (gG G w).map (fun v => trn v 3)
theorem m_beside (hw : WG B G) (h : RS 50 G M) {w : Nat} (hl : w < 64) : fX6_beside (nI w) M = some (gl (bes G w)) := by
  have h16 := hw.1
  unfold fX6_beside
  rw [show (18 : Int32) = nI 18 from rfl, nI_add, m_glued h hl, Option.bind_some]
  cases hg : gG G w with
  | none => simp only [bes, hg, Option.map_none, gl, gm]; rfl
  | some v =>
    have hv := (hw.2.2.2.1 w v hg).2.1
    have e : gm (some v) = nI (v + 1) := rfl
    rw [e, if_pos (by rw [nI_pred]; exact nI_pos' (by omega))]
    have := m_onwardq 3 (by decide) (v := v) (by omega)
    simp only [bes, hg, Option.map_some, gl]
    exact congrArg some this
end
