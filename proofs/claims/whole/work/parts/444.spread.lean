/-! MATHS: the class lowers a row -/
def RD (c n : Nat) (d : Nat → Nat) (M : Mem) : Prop := ∀ x, x < n → M.1 c x = nI (d x)
def Bd (d : Nat → Nat) : Prop := ∀ x, d x ≤ 1000000
def lowd (d : Nat → Nat) (i s : Nat) : Nat → Nat := if s < d i then va_up d i s else d
theorem rel_low (d : Nat → Nat) (e : Ed) : rel d e = lowd d e.2.1 (d e.1 + e.2.2) := rfl
theorem Bd_rel {d : Nat → Nat} (h : Bd d) (e : Ed) : Bd (rel d e) := fun x => Nat.le_trans (rel_le d e x) (h x)
theorem Bd_rdw {d : Nat → Nat} (h : Bd d) (es : Nat → List Ed) (m i : Nat) : Bd (rdw es m i d) := fun x => Nat.le_trans (rdw_le es m i d x) (h x)
theorem RD_one {c a n : Nat} {d : Nat → Nat} {M M' : Mem} (h : RD c n d M) (o : One a M M') (hc : c ≠ a) : RD c n d M' := fun x hx => by rw [o.1 c hc]; exact h x hx
theorem RD_set {c n i s : Nat} {d : Nat → Nat} {M : Mem} (h : RD c n d M) : RD c n (va_up d i s) (setI M c i (nI s)) := fun x hx => by
  rw [sI_if]
  unfold va_up
  by_cases q : x = i
  · rw [if_pos ⟨rfl, q⟩, if_pos q]
  · rw [if_neg (fun z => q z.2), if_neg q]; exact h x hx
theorem c_low {c n i s : Nat} {d : Nat → Nat} {M : Mem} (hn : alen c = n) (h64 : n ≤ 64) (hi : i < n) (hs : s < 2 ^ 30) (hr : RD c n d M) (hb : Bd d) : ∃ M', fX0_lower c (nI i) (nI s) M = some (if s < d i then 1 else 0, M') ∧ RD c n (lowd d i s) M' ∧ One c M M' := by
  have hd := hb i
  have hlt : nI s < nI (d i) ↔ s < d i := nI_ltI (by omega) (by omega)
  unfold fX0_lower lowd
  rw [hn, if_neg (nI_pos (by omega)), if_neg (show ¬ Int32.ofNat n ≤ nI i from nI_ge hi (by omega)), ldI_n hi (by omega), Option.bind_some, hr i hi]
  by_cases q : s < d i
  · rw [if_pos (hlt.mpr q), if_pos q, if_pos q, stI_n hi (by omega), Option.bind_some]
    exact ⟨_, rfl, RD_set hr, One_set _ _ _ _⟩
  · rw [if_neg (fun z => q (hlt.mp z)), if_neg q, if_neg q]
    exact ⟨_, rfl, hr, One_rf _ _⟩
theorem c_fi {ρ : Type} {kx : Mem → Option ρ} {c N : Nat} (hc : alen c = N) (hN : N ≤ 64) (m : Nat) : ∀ (i n : Nat) (M : Mem), i + m = N → m < n → ∃ M', fJ7_fill_53178_5 kx c 1000000 (nI N) n (nI i) M = kx M' ∧ One c M M' ∧ (∀ j, i ≤ j → j < N → M'.1 c j = 1000000) ∧ ∀ j, j < i → M'.1 c j = M.1 c j := by
  induction m with
  | zero =>
    intro i n M e h
    obtain rfl : i = N := by omega
    obtain ⟨n, rfl⟩ : ∃ k, n = k + 1 := ⟨n - 1, by omega⟩
    exact ⟨M, by rw [fJ7_fill_53178_5, if_pos (Int32.le_refl _)], One_rf _ _, fun j q1 q2 => absurd q1 (by omega), fun j q => rfl⟩
  | succ m ih =>
    intro i n M e h
    obtain ⟨n, rfl⟩ : ∃ k, n = k + 1 := ⟨n - 1, by omega⟩
    obtain ⟨M', e1, o1, a1, z1⟩ := ih (i + 1) n (setI M c i 1000000) (by omega) (by omega)
    refine ⟨M', ?_, One_tr (One_set _ _ _ _) o1, fun j q1 q2 => ?_, fun j q => ?_⟩
    · rw [fJ7_fill_53178_5, if_neg (nI_ge (show i < N by omega) (by omega)), hc, stI_n (by omega) (by omega), Option.bind_some, nI_1, e1]
    · by_cases q : j = i
      · rw [q, z1 i (by omega), sI_s]
      · exact a1 j (by omega) q2
    · rw [z1 j (by omega), sI_j _ _ (by omega)]
def far0 : Nat → Nat := fun _ => 1000000
def ini (f : Nat) : Nat → Nat := va_up far0 f 0
theorem Bd_ini (f : Nat) : Bd (ini f) := fun x => by
  unfold ini va_up far0; split <;> omega
theorem c_ini {c N f : Nat} (hc : alen c = N) (hN : N ≤ 64) (hf : f < N) (M : Mem) : ∃ M1 M' x, fJ7_fill_53178 c 1000000 M = some M1 ∧ fX0_lower c (nI f) 0 M1 = some (x, M') ∧ RD c N (ini f) M' ∧ One c M M' := by
  obtain ⟨M1, e1, o1, a1, _⟩ := c_fi (kx := fun M4 => some M4) hc hN N 0 FU M (Nat.zero_add _) (by unfold FU; omega)
  obtain ⟨M', e2, r2, o2⟩ := c_low (s := 0) (d := far0) hc hN hf (by decide) (fun x hx => a1 x (Nat.zero_le _) hx) (fun x => Nat.le_refl _)
  refine ⟨M1, M', _, ?_, e2, ?_, One_tr o1 o2⟩
  · unfold fJ7_fill_53178; rw [hc]; exact e1
  · have : lowd far0 f 0 = ini f := if_pos (by unfold far0; omega)
    rw [this] at r2; exact r2
def eF (G : Gd) (cst : Nat → Nat) (w : Nat) : List Ed := match on1 G w with
  | none => []
  | some v => [(w / 4, v / 4, cst (v / 4))]
theorem eF_n {G : Gd} {cst : Nat → Nat} {w : Nat} (h : on1 G w = none) : eF G cst w = [] := by unfold eF; rw [h]
theorem eF_s {G : Gd} {cst : Nat → Nat} {w v : Nat} (h : on1 G w = some v) : eF G cst w = [(w / 4, v / 4, cst (v / 4))] := by unfold eF; rw [h]
def isCst (G : Gd) (cst : Nat → Nat) (y3 : Int32) : Prop := ∀ v M, RG 1 G M → v < 4 * gF G → (if y3 = 0 then some (1 : Int32) else ((fX0_roughOf (nI (v / 4)) M).bind fun v18 => some v18)) = some (nI (cst (v / 4))) ∧ cst (v / 4) ≤ 9
def b01 (x : Int32) : Prop := x = 0 ∨ x = 1
theorem b01_or {x y : Int32} (hx : b01 x) (hy : b01 y) : b01 (x ||| y) ∧ (x ||| y = 0 → x = 0 ∧ y = 0) := by
  rcases hx with rfl | rfl <;> rcases hy with rfl | rfl <;> exact ⟨by unfold b01; decide, by decide⟩
theorem b01_if (a b : Nat) : b01 (if a < b then 1 else 0) ∧ ((if a < b then (1 : Int32) else 0) = 0 → ¬ a < b) := by
  by_cases h : a < b
  · rw [if_pos h]; exact ⟨Or.inr rfl, fun q => absurd q (by decide)⟩
  · rw [if_neg h]; exact ⟨Or.inl rfl, fun _ => h⟩
theorem c_s37 {ρ : Type} {kx : Int32 → Mem → Option ρ} {c B : Nat} {G : Gd} {cst : Nat → Nat} {y3 y5 : Int32} (hc : alen c = 16) (hc2 : 11 ≤ c) (hw : WG B G) (hk : isCst G cst y3) (m : Nat) : ∀ (i n : Nat) (fl : Int32) (M : Mem) (d : Nat → Nat), RG 1 G M → RD c 16 d M → Bd d → b01 fl → i + m = 4 * gF G → m < n → ∃ M' fl', fX0_spread_37 kx c y3 y5 n fl (nI i) M = kx fl' M' ∧ RD c 16 (rdw (eF G cst) m i d) M' ∧ One c M M' ∧ b01 fl' ∧ (fl' = 0 → fl = 0 ∧ rdw (eF G cst) m i d = d) := by
  have h16 := hw.1
  induction m with
  | zero =>
    intro i n fl M d hg hr hb hf e h
    obtain rfl : i = 4 * gF G := by omega
    obtain ⟨n, rfl⟩ : ∃ k, n = k + 1 := ⟨n - 1, by omega⟩
    exact ⟨M, fl, by rw [fX0_spread_37, c_ways hg, if_pos (Int32.le_refl _)], hr, One_rf _ _, hf, fun q => ⟨q, rfl⟩⟩
  | succ m ih =>
    intro i n fl M d hg hr hb hf e h
    obtain ⟨n, rfl⟩ : ∃ k, n = k + 1 := ⟨n - 1, by omega⟩
    have hl : i < 4 * gF G := by omega
    rw [fX0_spread_37, c_ways hg, if_neg (nI_ge hl (by omega)), c_goOn hw hg hl, Option.bind_some, nI_1]
    cases ho : on1 G i with
    | none =>
      obtain ⟨M', fl', k1, k2, k3, k4, k5⟩ := ih (i + 1) n fl M d hg hr hb hf (by omega) (by omega)
      have er : rdw (eF G cst) (m + 1) i d = rdw (eF G cst) m (i + 1) d := by
        show rdw (eF G cst) m (i + 1) ((eF G cst i).foldl rel d) = _
        rw [eF_n ho]; rfl
      rw [er, if_pos (show gl none = -1 from rfl), Option.bind_some]
      exact ⟨M', fl', k1, k2, k3, k4, k5⟩
    | some v =>
      have hv := (on1_lt hw ho).1
      obtain ⟨c1, c2⟩ := hk v M hg hv
      have hdi := hb (i / 4)
      obtain ⟨M1, p1, r1, o1⟩ := c_low (i := v / 4) (s := d (i / 4) + cst (v / 4)) hc (by decide) (by omega) (by omega) hr hb
      have hx := b01_if (d (i / 4) + cst (v / 4)) (d (v / 4))
      have hor := b01_or hf hx.1
      obtain ⟨M', fl', k1, k2, k3, k4, k5⟩ := ih (i + 1) n (fl ||| (if d (i / 4) + cst (v / 4) < d (v / 4) then 1 else 0)) M1 (rel d (i / 4, v / 4, cst (v / 4))) (RG_one hw hg o1 hc2) r1 (Bd_rel hb _) hor.1 (by omega) (by omega)
      have er : rdw (eF G cst) (m + 1) i d = rdw (eF G cst) m (i + 1) (rel d (i / 4, v / 4, cst (v / 4))) := by
        show rdw (eF G cst) m (i + 1) ((eF G cst i).foldl rel d) = _
        rw [eF_s ho]; rfl
      rw [er, show gl (some v) = nI v from rfl, if_neg (nI_m1 v (by omega)), c_fieldOf (by omega), c_fieldOf (by omega), c1, Option.bind_some, hc, ldI_n (by omega) (by decide), Option.bind_some, hr (i / 4) (by omega), nI_add, p1, Option.bind_some, Option.bind_some]
      refine ⟨M', fl', k1, k2, One_tr o1 k3, k4, fun q => ?_⟩
      obtain ⟨q1, q2⟩ := k5 q
      obtain ⟨q3, q4⟩ := hor.2 q1
      have : rel d (i / 4, v / 4, cst (v / 4)) = d := if_neg (hx.2 q4)
      rw [this] at q2 ⊢
      exact ⟨q3, q2⟩
theorem c_s19 {ρ : Type} {kx : Mem → Option ρ} {c B : Nat} {G : Gd} {cst : Nat → Nat} {y3 : Int32} (hc : alen c = 16) (hc2 : 11 ≤ c) (hw : WG B G) (hk : isCst G cst y3) (m : Nat) : ∀ (r n : Nat) (fl : Int32) (M : Mem) (d : Nat → Nat), RG 1 G M → RD c 16 d M → Bd d → b01 fl → (fl = 0 → rdw (eF G cst) (4 * gF G) 0 d = d) → r + m = 16 → m < n → ∃ M', fX0_spread_19 kx c y3 n fl (nI r) M = kx M' ∧ RD c 16 (itR (eF G cst) (4 * gF G) m d) M' ∧ One c M M' := by
  have h16 := hw.1
  induction m with
  | zero =>
    intro r n fl M d hg hr hb hf hz e h
    obtain rfl : r = 16 := by omega
    obtain ⟨n, rfl⟩ : ∃ k, n = k + 1 := ⟨n - 1, by omega⟩
    exact ⟨M, by rw [fX0_spread_19, if_pos (by decide)], hr, One_rf _ _⟩
  | succ m ih =>
    intro r n fl M d hg hr hb hf hz e h
    obtain ⟨n, rfl⟩ : ∃ k, n = k + 1 := ⟨n - 1, by omega⟩
    rw [fX0_spread_19, if_neg (show ¬ (16 : Int32) ≤ nI r from nI_ge (b := 16) (by omega) (by decide))]
    by_cases q : fl = 0
    · rw [if_pos q, itR_fix (hz q)]
      exact ⟨M, rfl, hr, One_rf _ _⟩
    · rw [if_neg q]
      obtain ⟨M1, f1, p1, r1, o1, b1', z1⟩ := c_s37 (kx := fun u24 M25 => (fX0_spread_19 kx c y3 n u24 (nI r + (1 : Int32)) M25)) (y5 := nI r) hc hc2 hw hk (4 * gF G) 0 FU 0 M d hg hr hb (Or.inl rfl) (Nat.zero_add _) (by unfold FU; omega)
      obtain ⟨M', p2, r2, o2⟩ := ih (r + 1) n f1 M1 (rdw (eF G cst) (4 * gF G) 0 d) (RG_one hw hg o1 hc2) r1 (Bd_rdw hb _ _ _) b1' (fun w => by rw [(z1 w).2, (z1 w).2]) (by omega) (by omega)
      refine ⟨M', ?_, r2, One_tr o1 o2⟩
      refine Eq.trans p1 ?_
      rw [nI_1]; exact p2
theorem c_spread {c B f : Nat} {G : Gd} {cst : Nat → Nat} {y3 : Int32} {M : Mem} (hc : alen c = 16) (hc2 : 11 ≤ c) (hw : WG B G) (hg : RG 1 G M) (hk : isCst G cst y3) (hf : f < gF G) : ∃ M', fX0_spread c (nI f) y3 M = some M' ∧ RD c 16 (itR (eF G cst) (4 * gF G) 16 (ini f)) M' ∧ One c M M' := by
  have h16 := hw.1
  obtain ⟨M1, M2, x, e1, e2, r2, o2⟩ := c_ini (f := f) hc (by decide) (by omega) M
  obtain ⟨M', p2, r3, o3⟩ := c_s19 (kx := fun M26 => some M26) hc hc2 hw hk 16 0 FU 1 M2 (ini f) (RG_one hw hg o2 hc2) r2 (Bd_ini f) (Or.inr rfl) (fun q => absurd q (by decide)) (by decide) (by decide)
  refine ⟨M', ?_, r3, One_tr o2 o3⟩
  unfold fX0_spread
  rw [e1, Option.bind_some, e2, Option.bind_some]; exact p2
theorem cst_1 (G : Gd) : isCst G (fun _ => 1) 0 := fun v M _ _ => ⟨by rw [if_pos rfl]; rfl, show 1 ≤ 9 by decide⟩
theorem cst_R {B : Nat} {G : Gd} (hw : WG B G) : isCst G (gR G) 1 := fun v M hg hv => by
  have h16 := hw.1
  refine ⟨?_, hw.2.2.1 _ (by omega)⟩
  rw [if_neg (by decide), c_roughOf hw hg (by omega)]; rfl
theorem al_33 : alen 33 = 16 := by decide +kernel
theorem al_34 : alen 34 = 16 := by decide +kernel
theorem al_35 : alen 35 = 64 := by decide +kernel
