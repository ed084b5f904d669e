/-! MATHS: a call on both sides -/
def bmp (o : Option Nat) (f : Nat → Int32) : Nat → Int32 := match o with
  | none => f
  | some i => upd f i (f i + 1)
/-- what a call of the class leaves: all but the ground of now, and what is only written upon -/
def FC (M M1 : Mem) : Prop := (∀ c, (11 ≤ c ∧ c ≤ 20) ∨ c = 37 ∨ (40 ≤ c ∧ c ≤ 47) ∨ 49 ≤ c → M1.1 c = M.1 c ∧ M1.2 c = M.2 c) ∧ M1.1 0 11 = M.1 0 11 ∧ M1.1 36 0 = M.1 36 0
def FM (M M1 : Mem) : Prop := (∀ c, c < 49 ∨ c = 51 ∨ (56 ≤ c ∧ c ≤ 59) → M1.1 c = M.1 c ∧ M1.2 c = M.2 c) ∧ M1.1 49 5 = M.1 49 5 ∧ M1.1 49 8 = M.1 49 8
theorem FC_rf (M : Mem) : FC M M := ⟨fun _ _ => ⟨rfl, rfl⟩, rfl, rfl⟩
theorem FM_rf (M : Mem) : FM M M := ⟨fun _ _ => ⟨rfl, rfl⟩, rfl, rfl⟩
theorem FC_tr {M M1 M2 : Mem} (h : FC M M1) (k : FC M1 M2) : FC M M2 := ⟨fun c hc => ⟨(k.1 c hc).1.trans (h.1 c hc).1, (k.1 c hc).2.trans (h.1 c hc).2⟩, k.2.1.trans h.2.1, k.2.2.trans h.2.2⟩
theorem FM_tr {M M1 M2 : Mem} (h : FM M M1) (k : FM M1 M2) : FM M M2 := ⟨fun c hc => ⟨(k.1 c hc).1.trans (h.1 c hc).1, (k.1 c hc).2.trans (h.1 c hc).2⟩, k.2.1.trans h.2.1, k.2.2.trans h.2.2⟩
theorem FC_set (M : Mem) {c : Nat} (j : Nat) (v : Int32) (hc : ¬ ((11 ≤ c ∧ c ≤ 20) ∨ c = 37 ∨ (40 ≤ c ∧ c ≤ 47) ∨ 49 ≤ c)) (h0 : ¬ (c = 0 ∧ j = 11)) (h1 : ¬ (c = 36 ∧ j = 0)) : FC M (setI M c j v) := by
  refine ⟨fun a ha => ⟨sI_c M j v (fun q => hc (q ▸ ha)), rfl⟩, ?_, ?_⟩ <;> rw [sI_if, if_neg]
  · rintro ⟨rfl, rfl⟩; exact h0 ⟨rfl, rfl⟩
  · rintro ⟨rfl, rfl⟩; exact h1 ⟨rfl, rfl⟩
theorem FM_set (M : Mem) {c : Nat} (j : Nat) (v : Int32) (hc : ¬ (c < 49 ∨ c = 51 ∨ (56 ≤ c ∧ c ≤ 59))) (h0 : ¬ (c = 49 ∧ j = 5)) (h1 : ¬ (c = 49 ∧ j = 8)) : FM M (setI M c j v) := by
  refine ⟨fun a ha => ⟨sI_c M j v (fun q => hc (q ▸ ha)), rfl⟩, ?_, ?_⟩ <;> rw [sI_if, if_neg]
  · rintro ⟨rfl, rfl⟩; exact h0 ⟨rfl, rfl⟩
  · rintro ⟨rfl, rfl⟩; exact h1 ⟨rfl, rfl⟩
def CSp (f : Mem → Option (Int32 × Mem)) (M : Mem) (r : Int32) (G : Gd) (o : Option Nat) : Prop := ∃ M1, f M = some (r, M1) ∧ RG 1 G M1 ∧ FC M M1 ∧ M1.1 48 = bmp o (M.1 48)
def MSp (f : Mem → Option (Int32 × Mem)) (M : Mem) (r : Int32) (G : Gd) (o : Option Nat) : Prop := ∃ M1, f M = some (r, M1) ∧ RS 50 G M1 ∧ FM M M1 ∧ M1.1 54 = bmp o (M.1 54)
theorem REST_step {B : Nat} {M M1 M2 : Mem} {o : Option Nat} (ho : ∀ i, o = some i → i < 7) (h : REST B M) (f1 : FC M M1) (b1 : M1.1 48 = bmp o (M.1 48)) (f2 : FM M1 M2) (b2 : M2.1 54 = bmp o (M1.1 54)) : REST B M2 := by
  obtain ⟨hK, hF, hT, hS⟩ := h
  have e : ∀ c, (11 ≤ c ∧ c ≤ 20) ∨ c = 37 ∨ (40 ≤ c ∧ c ≤ 47) ∨ c = 51 ∨ (56 ≤ c ∧ c ≤ 59) → M2.1 c = M.1 c ∧ M2.2 c = M.2 c := fun c hc =>
    ⟨(f2.1 c (by omega)).1.trans (f1.1 c (by omega)).1, (f2.1 c (by omega)).2.trans (f1.1 c (by omega)).2⟩
  have e0 : M2.1 0 11 = M.1 0 11 := by rw [(f2.1 0 (by omega)).1]; exact f1.2.1
  have e36 : M2.1 36 0 = M.1 36 0 := by rw [(f2.1 36 (by omega)).1]; exact f1.2.2
  have e5 : M2.1 49 5 = M.1 49 5 := by rw [f2.2.1, (f1.1 49 (by omega)).1]
  have e8 : M2.1 49 8 = M.1 49 8 := by rw [f2.2.2, (f1.1 49 (by omega)).1]
  have e48 : M2.1 48 = bmp o (M.1 48) := (f2.1 48 (by omega)).1.trans b1
  have e54 : M2.1 54 = bmp o (M.1 54) := by rw [b2, (f1.1 54 (by omega)).1]
  refine ⟨?_, fun i hi => ?_, ?_, fun s hs => ?_⟩
  · rcases hK with hK | ⟨h1, h2, K, k1, k2, k3⟩
    · exact Or.inl ⟨e0.trans hK.1, e5.trans hK.2⟩
    · exact Or.inr ⟨e0.trans h1, e5.trans h2, K, k1, RG_cg k1 k2 (fun c q1 q2 => (e c (by omega)).1), RS_cg k3 (e 51 (by omega)).1⟩
  · rw [e48, e54]
    cases o with
    | none => exact hF i hi
    | some q =>
      simp only [bmp, upd]
      by_cases hq : i = q
      · rw [if_pos hq, if_pos hq, hF q (ho q rfl)]
      · rw [if_neg hq, if_neg hq, hF i hi]
  · obtain ⟨n, h1, h2, h3, h4⟩ := hT
    exact ⟨n, h1, e36.trans h2, e8.trans h3, fun i hi => by rw [(e 37 (by omega)).1, (e 56 (by omega)).1]; exact h4 i hi⟩
  · obtain ⟨bt, z, h1, h2, h3, h4, h5, h6, h7, h8⟩ := hS s hs
    exact ⟨bt, z, h1, h2, h3, by rw [(e (40 + 2 * s) (by omega)).1]; exact h4, by rw [(e 57 (by omega)).1]; exact h5, by rw [(e (40 + 2 * s) (by omega)).1]; exact h6, by rw [(e 58 (by omega)).1]; exact h7, fun i hi => by rw [(e (41 + 2 * s) (by omega)).2, (e 59 (by omega)).2]; exact h8 i hi⟩
theorem ok_of {t : Nat} {M : Mem} {f5 f6 : Mem → Option (Int32 × Mem)} (hI : Inv t M) (h : ∀ G, WG (1400 * t) G → RG 1 G M → ∃ r G' o, WG (1400 * (t + 1)) G' ∧ (∀ i, o = some i → i < 7) ∧ CSp f5 M r G' o ∧ ∀ M1, RS 50 G M1 → MSp f6 M1 r G' o) : ∃ v w, f5 M = some v ∧ f6 v.2 = some w ∧ v.1 = w.1 ∧ Inv (t + 1) w.2 := by
  obtain ⟨⟨G, hw, hg, hs⟩, hR⟩ := hI
  obtain ⟨r, G', o, hw', ho, ⟨M1, e1, g1, f1, b1⟩, hm⟩ := h G hw hg
  obtain ⟨M2, e2, s2, f2, b2⟩ := hm M1 (RS_cg hs (f1.1 50 (by omega)).1)
  exact ⟨(r, M1), (r, M2), e1, e2, rfl, ⟨G', hw', RG_cg hw' g1 (fun c q1 q2 => (f2.1 c (by omega)).1), s2⟩, REST_mono (REST_step ho hR f1 b1 f2 b2) (by omega)⟩
/-! findings -/
theorem csp_fin {f : Mem → Option (Int32 × Mem)} {M : Mem} {G : Gd} {B i : Nat} (hw : WG B G) (hg : RG 1 G M) (h : f M = some (fnd i, tellM i M)) : CSp f M (fnd i) G (some i) := by
  refine ⟨_, h, RG_cg hw hg (fun c q1 q2 => sI_c M _ _ (by omega)), FC_set M _ _ (by omega) (by omega) (by omega), ?_⟩
  exact setI_eq M
theorem msp_fin {f : Mem → Option (Int32 × Mem)} {M : Mem} {G : Gd} {i : Nat} (hs : RS 50 G M) (h : f M = some (fnd i, findM i M)) : MSp f M (fnd i) G (some i) := by
  refine ⟨_, h, RS_cg hs (sI_c M _ _ (by decide)), FM_set M _ _ (by omega) (by omega) (by omega), ?_⟩
  exact setI_eq M
theorem csp_val {f : Mem → Option (Int32 × Mem)} {M : Mem} {G : Gd} {r : Int32} (hg : RG 1 G M) (h : f M = some (r, M)) : CSp f M r G none := ⟨M, h, hg, FC_rf M, rfl⟩
theorem msp_val {f : Mem → Option (Int32 × Mem)} {M : Mem} {G : Gd} {r : Int32} (hs : RS 50 G M) (h : f M = some (r, M)) : MSp f M r G none := ⟨M, h, hs, FM_rf M, rfl⟩
theorem tb0 (M : Mem) : ((fX5_tell (-1000000001 : Int32) M).bind fun w => some (w.1, w.2)) = some (fnd 0, tellM 0 M) := by rw [fnd_0, c_tell (by decide)]; rfl
theorem mb0 (M : Mem) : ((fX6_finds (-1000000001 : Int32) M).bind fun w => some (w.1, w.2)) = some (fnd 0, findM 0 M) := by rw [fnd_0, m_finds (by decide)]; rfl
theorem tb1 (M : Mem) : ((fX5_tell (-1000000002 : Int32) M).bind fun w => some (w.1, w.2)) = some (fnd 1, tellM 1 M) := by rw [fnd_1, c_tell (by decide)]; rfl
theorem mb1 (M : Mem) : ((fX6_finds (-1000000002 : Int32) M).bind fun w => some (w.1, w.2)) = some (fnd 1, findM 1 M) := by rw [fnd_1, m_finds (by decide)]; rfl
theorem tb2 (M : Mem) : ((fX5_tell (-1000000003 : Int32) M).bind fun w => some (w.1, w.2)) = some (fnd 2, tellM 2 M) := by rw [fnd_2, c_tell (by decide)]; rfl
theorem mb2 (M : Mem) : ((fX6_finds (-1000000003 : Int32) M).bind fun w => some (w.1, w.2)) = some (fnd 2, findM 2 M) := by rw [fnd_2, m_finds (by decide)]; rfl
theorem tb3 (M : Mem) : ((fX5_tell (-1000000004 : Int32) M).bind fun w => some (w.1, w.2)) = some (fnd 3, tellM 3 M) := by rw [fnd_3, c_tell (by decide)]; rfl
theorem mb3 (M : Mem) : ((fX6_finds (-1000000004 : Int32) M).bind fun w => some (w.1, w.2)) = some (fnd 3, findM 3 M) := by rw [fnd_3, m_finds (by decide)]; rfl
theorem tb4 (M : Mem) : ((fX5_tell (-1000000005 : Int32) M).bind fun w => some (w.1, w.2)) = some (fnd 4, tellM 4 M) := by rw [fnd_4, c_tell (by decide)]; rfl
theorem mb4 (M : Mem) : ((fX6_finds (-1000000005 : Int32) M).bind fun w => some (w.1, w.2)) = some (fnd 4, findM 4 M) := by rw [fnd_4, m_finds (by decide)]; rfl
theorem tb5 (M : Mem) : ((fX5_tell (-1000000006 : Int32) M).bind fun w => some (w.1, w.2)) = some (fnd 5, tellM 5 M) := by rw [fnd_5, c_tell (by decide)]; rfl
theorem mb5 (M : Mem) : ((fX6_finds (-1000000006 : Int32) M).bind fun w => some (w.1, w.2)) = some (fnd 5, findM 5 M) := by rw [fnd_5, m_finds (by decide)]; rfl
theorem tb6 (M : Mem) : ((fX5_tell (-1000000007 : Int32) M).bind fun w => some (w.1, w.2)) = some (fnd 6, tellM 6 M) := by rw [fnd_6, c_tell (by decide)]; rfl
theorem mb6 (M : Mem) : ((fX6_finds (-1000000007 : Int32) M).bind fun w => some (w.1, w.2)) = some (fnd 6, findM 6 M) := by rw [fnd_6, m_finds (by decide)]; rfl
theorem o7 {i : Nat} (h : i < 7) : ∀ j, some i = some j → j < 7 := fun j e => by cases e; exact h
theorem o0 : ∀ j : Nat, (none : Option Nat) = some j → j < 7 := fun j e => by cases e
theorem b1 {c : Prop} {_ : Decidable c} (h : c) : ¬ (if c then (1 : Int32) else 0) = 0 := by rw [if_pos h]; decide
theorem b0 {c : Prop} {_ : Decidable c} (h : ¬ c) : (if c then (1 : Int32) else 0) = 0 := by rw [if_neg h]
theorem WG_t {t : Nat} {G : Gd} (h : WG (1400 * t) G) : WG (1400 * (t + 1)) G := WG_mono h (by omega)
