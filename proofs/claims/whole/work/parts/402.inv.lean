/-! MATHS: what holds between two calls -/
def M0 : Mem := (fun _ _ => 0, fun _ _ => 0)
def FE (M : Mem) : Prop := ∀ i, i < 7 → M.1 48 i = M.1 54 i
def TE (M : Mem) : Prop := ∃ n, n ≤ 120 ∧ M.1 36 0 = nI n ∧ M.1 49 8 = nI n ∧ ∀ i, i < n → M.1 37 i = M.1 56 i ∧ ∃ v, v < 256 ∧ M.1 37 i = nI v
def SE (M : Mem) : Prop := ∀ s, s < 4 → ∃ bt z, (bt = 0 ∨ bt = 8 ∨ bt = 16 ∨ bt = 64) ∧ z ≤ 40 ∧ (bt = 0 → z = 0) ∧ M.1 (40 + 2 * s) 0 = nI bt ∧ M.1 57 s = nI bt ∧ M.1 (40 + 2 * s) 1 = nI z ∧ M.1 58 s = nI z ∧ ∀ i, i < 40 → M.2 (41 + 2 * s) i = M.2 59 (40 * s + i)
def KE (B : Nat) (M : Mem) : Prop := (M.1 0 11 = 0 ∧ M.1 49 5 = 0) ∨ (M.1 0 11 = 1 ∧ M.1 49 5 = 1 ∧ ∃ K, WG B K ∧ RG 11 K M ∧ RS 51 K M)
def REST (B : Nat) (M : Mem) : Prop := KE B M ∧ FE M ∧ TE M ∧ SE M
def GE (B : Nat) (M : Mem) : Prop := ∃ G, WG B G ∧ RG 1 G M ∧ RS 50 G M
def Inv (t : Nat) (M : Mem) : Prop := GE (1400 * t) M ∧ REST (1400 * t) M
/-- two memories that are alike but for the ground of now, and what is only written upon -/
def AgR (M M' : Mem) : Prop := (∀ c, (11 ≤ c ∧ c ≤ 20) ∨ c = 48 ∨ c = 37 ∨ (40 ≤ c ∧ c ≤ 47) ∨ c = 51 ∨ c = 54 ∨ (56 ≤ c ∧ c ≤ 59) → M'.1 c = M.1 c ∧ M'.2 c = M.2 c) ∧ M'.1 0 11 = M.1 0 11 ∧ M'.1 36 0 = M.1 36 0 ∧ M'.1 49 5 = M.1 49 5 ∧ M'.1 49 8 = M.1 49 8
theorem AgR_rf (M : Mem) : AgR M M := ⟨fun _ _ => ⟨rfl, rfl⟩, rfl, rfl, rfl, rfl⟩
theorem AgR_tr {M M1 M2 : Mem} (h : AgR M M1) (h2 : AgR M1 M2) : AgR M M2 := ⟨fun c hc => ⟨(h2.1 c hc).1.trans (h.1 c hc).1, (h2.1 c hc).2.trans (h.1 c hc).2⟩, h2.2.1.trans h.2.1, h2.2.2.1.trans h.2.2.1, h2.2.2.2.1.trans h.2.2.2.1, h2.2.2.2.2.trans h.2.2.2.2⟩
theorem KE_mono {B B' : Nat} {M : Mem} (h : KE B M) (hb : B ≤ B') : KE B' M := h.elim Or.inl (fun q => Or.inr ⟨q.1, q.2.1, q.2.2.elim fun K k => ⟨K, WG_mono k.1 hb, k.2⟩⟩)
theorem REST_mono {B B' : Nat} {M : Mem} (h : REST B M) (hb : B ≤ B') : REST B' M := ⟨KE_mono h.1 hb, h.2⟩
theorem GE_mono {B B' : Nat} {M : Mem} (h : GE B M) (hb : B ≤ B') : GE B' M := h.elim fun G k => ⟨G, WG_mono k.1 hb, k.2⟩
theorem Inv_next {t : Nat} {M : Mem} (h : Inv t M) : Inv (t + 1) M := ⟨GE_mono h.1 (by omega), REST_mono h.2 (by omega)⟩
theorem KE_cg {B : Nat} {M M' : Mem} (h : KE B M) (a : AgR M M') : KE B M' := by
  obtain ⟨a1, a2, a3, a4, a5⟩ := a
  rcases h with h | ⟨h1, h2, K, k1, k2, k3⟩
  · exact Or.inl ⟨a2.trans h.1, a4.trans h.2⟩
  · exact Or.inr ⟨a2.trans h1, a4.trans h2, K, k1, RG_cg k1 k2 (fun c q1 q2 => (a1 c (by omega)).1), RS_cg k3 (a1 51 (by omega)).1⟩
theorem FE_cg {M M' : Mem} (h : FE M) (a : AgR M M') : FE M' := fun i hi => by
  rw [(a.1 48 (by omega)).1, (a.1 54 (by omega)).1]; exact h i hi
theorem TE_cg {M M' : Mem} (h : TE M) (a : AgR M M') : TE M' := by
  obtain ⟨n, h1, h2, h3, h4⟩ := h
  refine ⟨n, h1, a.2.2.1.trans h2, a.2.2.2.2.trans h3, fun i hi => ?_⟩
  rw [(a.1 37 (by omega)).1, (a.1 56 (by omega)).1]; exact h4 i hi
theorem SE_cg {M M' : Mem} (h : SE M) (a : AgR M M') : SE M' := fun s hs => by
  obtain ⟨bt, z, h1, h2, h3, h4, h5, h6, h7, h8⟩ := h s hs
  refine ⟨bt, z, h1, h2, h3, ?_, ?_, ?_, ?_, fun i hi => ?_⟩
  · rw [(a.1 (40 + 2 * s) (by omega)).1]; exact h4
  · rw [(a.1 57 (by omega)).1]; exact h5
  · rw [(a.1 (40 + 2 * s) (by omega)).1]; exact h6
  · rw [(a.1 58 (by omega)).1]; exact h7
  · rw [(a.1 (41 + 2 * s) (by omega)).2, (a.1 59 (by omega)).2]; exact h8 i hi
theorem REST_cg {B : Nat} {M M' : Mem} (h : REST B M) (a : AgR M M') : REST B M' := ⟨KE_cg h.1 a, FE_cg h.2.1 a, TE_cg h.2.2.1 a, SE_cg h.2.2.2 a⟩
theorem GE_cg {B : Nat} {M M' : Mem} (h : GE B M) (h1 : ∀ c, 1 ≤ c → c ≤ 10 → M'.1 c = M.1 c) (h2 : M'.1 50 = M.1 50) : GE B M' := by
  obtain ⟨G, k1, k2, k3⟩ := h
  exact ⟨G, k1, RG_cg k1 k2 (fun c q1 q2 => h1 c q1 (by omega)), RS_cg k3 h2⟩
theorem Inv_gr {t : Nat} {M M' : Mem} (h : Inv t M) (a : AgR M M') (hG : GE (1400 * (t + 1)) M') : Inv (t + 1) M' := ⟨hG, REST_mono (REST_cg h.2 a) (by omega)⟩
theorem Inv_cg {t : Nat} {M M' : Mem} (h : Inv t M) (a : AgR M M') (h1 : ∀ c, 1 ≤ c → c ≤ 10 → M'.1 c = M.1 c) (h2 : M'.1 50 = M.1 50) : Inv t M' := ⟨GE_cg h.1 h1 h2, REST_cg h.2 a⟩
theorem setI_ag (M : Mem) {c j : Nat} {v : Int32} (hc : ¬ ((11 ≤ c ∧ c ≤ 20) ∨ c = 48 ∨ c = 37 ∨ (40 ≤ c ∧ c ≤ 47) ∨ c = 51 ∨ c = 54 ∨ (56 ≤ c ∧ c ≤ 59))) (h0 : ¬ (c = 0 ∧ j = 11)) (h36 : ¬ (c = 36 ∧ j = 0)) (h5 : ¬ (c = 49 ∧ j = 5)) (h8 : ¬ (c = 49 ∧ j = 8)) : AgR M (setI M c j v) := by
  refine ⟨fun a ha => ⟨sI_c M j v (fun q => hc (q ▸ ha)), rfl⟩, ?_, ?_, ?_, ?_⟩ <;> rw [sI_if, if_neg]
  · rintro ⟨rfl, rfl⟩; exact h0 ⟨rfl, rfl⟩
  · rintro ⟨rfl, rfl⟩; exact h36 ⟨rfl, rfl⟩
  · rintro ⟨rfl, rfl⟩; exact h5 ⟨rfl, rfl⟩
  · rintro ⟨rfl, rfl⟩; exact h8 ⟨rfl, rfl⟩
/-! findings -/
def fnd (i : Nat) : Int32 := -1000000001 - nI i
def tellM (i : Nat) (M : Mem) : Mem := setI M 48 i (M.1 48 i + 1)
def findM (i : Nat) (M : Mem) : Mem := setI M 54 i (M.1 54 i + 1)
theorem fnd_sub : ∀ i, i < 7 → (-1000000001 : Int32) - fnd i = nI i := by decide
theorem c_tell {i : Nat} (hi : i < 7) (M : Mem) : fX5_tell (fnd i) M = some (fnd i, tellM i M) := by
  unfold fX5_tell
  rw [fnd_sub i hi, if_neg (nI_pos (by omega)), if_neg (show ¬ (7 : Int32) ≤ nI i from nI_ge hi (by decide)), ldI_n (by omega) (by decide), Option.bind_some, stI_n (by omega) (by decide), Option.bind_some]
  rfl
theorem m_finds {i : Nat} (hi : i < 7) (M : Mem) : fX6_finds (fnd i) M = some (fnd i, findM i M) := by
  unfold fX6_finds
  rw [fnd_sub i hi, ldI_n (by omega) (by decide), Option.bind_some, stI_n (by omega) (by decide), Option.bind_some]
  rfl
theorem fnd_0 : (-1000000001 : Int32) = fnd 0 := by decide
theorem fnd_1 : (-1000000002 : Int32) = fnd 1 := by decide
theorem fnd_2 : (-1000000003 : Int32) = fnd 2 := by decide
theorem fnd_3 : (-1000000004 : Int32) = fnd 3 := by decide
theorem fnd_4 : (-1000000005 : Int32) = fnd 4 := by decide
theorem fnd_5 : (-1000000006 : Int32) = fnd 5 := by decide
theorem fnd_6 : (-1000000007 : Int32) = fnd 6 := by decide
theorem Inv_fin {t : Nat} {M : Mem} (h : Inv t M) {i : Nat} (hi : i < 7) : Inv (t + 1) (findM i (tellM i M)) := by
  obtain ⟨hG, hK, hF, hT, hS⟩ := Inv_next h
  have e1 : ∀ c, c ≠ 48 → c ≠ 54 → (findM i (tellM i M)).1 c = M.1 c := fun c q1 q2 => by
    unfold findM tellM; rw [sI_c _ _ _ q2, sI_c _ _ _ q1]
  have e2 : (findM i (tellM i M)).2 = M.2 := rfl
  refine ⟨GE_cg hG (fun c q1 q2 => e1 c (by omega) (by omega)) (e1 50 (by decide) (by decide)), ?_, fun j hj => ?_, ?_, fun s hs => ?_⟩
  · rcases hK with hK | ⟨h1, h2, K, k1, k2, k3⟩
    · exact Or.inl ⟨by rw [e1 0 (by decide) (by decide)]; exact hK.1, by rw [e1 49 (by decide) (by decide)]; exact hK.2⟩
    · exact Or.inr ⟨by rw [e1 0 (by decide) (by decide)]; exact h1, by rw [e1 49 (by decide) (by decide)]; exact h2, K, k1, RG_cg k1 k2 (fun c q1 q2 => e1 c (by omega) (by omega)), RS_cg k3 (e1 51 (by decide) (by decide))⟩
  · unfold findM tellM
    rw [sI_c _ _ _ (by decide), sI_if, sI_if, sI_c _ _ _ (by decide)]
    by_cases q : j = i
    · subst q; rw [if_pos ⟨rfl, rfl⟩, if_pos ⟨rfl, rfl⟩, hF j hj]
    · rw [if_neg (fun z => q z.2), if_neg (fun z => q z.2)]; exact hF j hj
  · obtain ⟨n, h1, h2, h3, h4⟩ := hT
    exact ⟨n, h1, by rw [e1 36 (by decide) (by decide)]; exact h2, by rw [e1 49 (by decide) (by decide)]; exact h3, fun i hi => by rw [e1 37 (by decide) (by decide), e1 56 (by decide) (by decide)]; exact h4 i hi⟩
  · obtain ⟨bt, z, h1, h2, h3, h4, h5, h6, h7, h8⟩ := hS s hs
    exact ⟨bt, z, h1, h2, h3, by rw [e1 _ (by omega) (by omega)]; exact h4, by rw [e1 _ (by omega) (by omega)]; exact h5, by rw [e1 _ (by omega) (by omega)]; exact h6, by rw [e1 _ (by omega) (by omega)]; exact h7, fun i hi => by rw [e2]; exact h8 i hi⟩
theorem Inv_zero : Inv 0 M0 := by
  refine ⟨⟨((0, 0), fun _ => 0, fun _ => none, fun _ => (0, 0, 0, 0)), ⟨by decide, by decide, fun f hf => absurd hf (by simp [gF]), fun w v hv => by simp [gG] at hv, fun k hk => absurd hk (by simp [gW])⟩, ⟨rfl, rfl, fun f hf => absurd hf (by simp [gF]), fun w hw => absurd hw (by simp [gF]), fun k hk => absurd hk (by simp [gW])⟩, ⟨rfl, rfl, fun f hf => absurd hf (by simp [gF]), fun w hw => rfl, fun k hk => absurd hk (by simp [gW])⟩⟩, Or.inl ⟨rfl, rfl⟩, fun i hi => rfl, ⟨0, by decide, rfl, rfl, fun i hi => absurd hi (by omega)⟩, fun s hs => ⟨0, 0, Or.inl rfl, by decide, fun _ => rfl, rfl, rfl, rfl, rfl, fun i hi => rfl⟩⟩
