/-! MATHS: the model's tape -/
def ba (T : Tpe) (i : Nat) : Int32 := if i < T.1 then nI (T.2 i) else -1
theorem m_ba {T : Tpe} {M : Mem} {i : Nat} (hT : okT T) (h8 : M.1 49 8 = nI T.1) (hb : BT 56 T M) (hi : i ≤ 120) : fX6_byteAt (nI i) M = some (ba T i) := by
  have hT1 := hT.1
  unfold fX6_byteAt ba
  rw [h8]
  by_cases q : i < T.1
  · rw [if_neg (nI_ge q (by omega)), ldI_n (by omega) (by decide), Option.bind_some, hb i q, if_pos q]
  · rw [if_pos ((nI_leI (by omega) (by omega)).mpr (by omega)), if_neg q]
theorem ba_L {T : Tpe} (hT : okT T) (i : Nat) : fX6_isLetter (ba T i) = if i < T.1 ∧ isL (T.2 i) = true then 1 else 0 := by
  unfold ba
  by_cases q : i < T.1
  · rw [if_pos q, m_let _ (hT.2 i q)]
    by_cases q2 : isL (T.2 i) = true
    · rw [if_pos q2, if_pos ⟨q, q2⟩]
    · rw [if_neg q2, if_neg (fun z => q2 z.2)]
  · rw [if_neg q, if_neg (fun z => q z.1)]; decide
theorem ba_D {T : Tpe} (hT : okT T) (i : Nat) : fX6_isDigit (ba T i) = if i < T.1 ∧ isD (T.2 i) = true then 1 else 0 := by
  unfold ba
  by_cases q : i < T.1
  · rw [if_pos q, m_dig _ (hT.2 i q)]
    by_cases q2 : isD (T.2 i) = true
    · rw [if_pos q2, if_pos ⟨q, q2⟩]
    · rw [if_neg q2, if_neg (fun z => q2 z.2)]
  · rw [if_neg q, if_neg (fun z => q z.1)]; decide
theorem ba_c {T : Tpe} (hT : okT T) {i c : Nat} (hc : c < 256) : ba T i = nI c ↔ (i < T.1 ∧ T.2 i = c) := by
  unfold ba
  by_cases q : i < T.1
  · have := hT.2 i q
    rw [if_pos q, nI_eq (by omega) (by omega)]
    exact ⟨fun z => ⟨q, z⟩, fun z => z.2⟩
  · rw [if_neg q]
    exact ⟨fun z => absurd z.symm (nI_m1 c (by omega)), fun z => absurd z.1 q⟩
theorem m_t8 {ρ : Type} {kx : Mem → Option ρ} {T : Tpe} (hT : okT T) (m : Nat) : ∀ (i n : Nat) (M : Mem), M.1 49 8 = nI T.1 → M.1 49 9 = nI i → BT 56 T M → i + m = 120 → m < n → ∃ M', fX6_token_8 kx n M = kx M' ∧ One 49 M M' ∧ (∀ j, j ≠ 9 → M'.1 49 j = M.1 49 j) ∧ M'.1 49 9 = nI (run T isB m i) := by
  have hT1 := hT.1
  have h32 : ∀ i, ba T i = (32 : Int32) ↔ (i < T.1 ∧ isB (T.2 i) = true) := fun i => (ba_c hT (c := 32) (by decide)).trans ⟨fun z => ⟨z.1, decide_eq_true z.2⟩, fun z => ⟨z.1, of_decide_eq_true z.2⟩⟩
  induction m with
  | zero =>
    intro i n M h8 h9 hb e h
    obtain ⟨n, rfl⟩ : ∃ k, n = k + 1 := ⟨n - 1, by omega⟩
    exact ⟨M, by rw [fX6_token_8, h9, m_ba hT h8 hb (by omega), Option.bind_some, if_neg (fun z => by have := ((h32 i).mp z).1; omega)], One_rf _ _, fun _ _ => rfl, h9⟩
  | succ m ih =>
    intro i n M h8 h9 hb e h
    obtain ⟨n, rfl⟩ : ∃ k, n = k + 1 := ⟨n - 1, by omega⟩
    rw [fX6_token_8, h9, m_ba hT h8 hb (by omega), Option.bind_some]
    by_cases q : i < T.1 ∧ isB (T.2 i) = true
    · obtain ⟨M', k1, k2, k3, k4⟩ := ih (i + 1) n (setI M 49 9 (nI (i + 1))) (by rw [sI_j _ _ (by decide)]; exact h8) (sI_s _ _ _ _) (fun x hx => by rw [sI_c _ _ _ (by decide)]; exact hb x hx) (by omega) (by omega)
      refine ⟨M', ?_, One_tr (One_set _ _ _ _) k2, fun j hj => by rw [k3 j hj, sI_j _ _ hj], by rw [k4, run_y q]⟩
      rw [if_pos ((h32 i).mpr q), nI_1]; exact k1
    · exact ⟨M, by rw [if_neg (fun z => q ((h32 i).mp z))], One_rf _ _, fun _ _ => rfl, by rw [h9, run_n q]⟩
theorem m_t86L {ρ : Type} {kx : Mem → Option ρ} {T : Tpe} (hT : okT T) (m : Nat) : ∀ (i n : Nat) (M : Mem), M.1 49 8 = nI T.1 → M.1 49 10 = nI i → BT 56 T M → i + m = 120 → m < n → ∃ M', fX6_token_86 kx 1 0 n M = kx M' ∧ One 49 M M' ∧ (∀ j, j ≠ 10 → M'.1 49 j = M.1 49 j) ∧ M'.1 49 10 = nI (run T isL m i) := by
  have hT1 := hT.1
  induction m with
  | zero =>
    intro i n M h8 h9 hb e h
    obtain ⟨n, rfl⟩ : ∃ k, n = k + 1 := ⟨n - 1, by omega⟩
    exact ⟨M, by rw [fX6_token_86, if_neg (by decide), h9, m_ba hT h8 hb (by omega), Option.bind_some, ba_L hT, if_pos (b0 (fun z => by have := z.1; omega)), if_pos rfl], One_rf _ _, fun _ _ => rfl, h9⟩
  | succ m ih =>
    intro i n M h8 h9 hb e h
    obtain ⟨n, rfl⟩ : ∃ k, n = k + 1 := ⟨n - 1, by omega⟩
    rw [fX6_token_86, if_neg (by decide), h9, m_ba hT h8 hb (by omega), Option.bind_some, ba_L hT]
    by_cases q : i < T.1 ∧ isL (T.2 i) = true
    · obtain ⟨M', k1, k2, k3, k4⟩ := ih (i + 1) n (setI M 49 10 (nI (i + 1))) (by rw [sI_j _ _ (by decide)]; exact h8) (sI_s _ _ _ _) (fun x hx => by rw [sI_c _ _ _ (by decide)]; exact hb x hx) (by omega) (by omega)
      refine ⟨M', ?_, One_tr (One_set _ _ _ _) k2, fun j hj => by rw [k3 j hj, sI_j _ _ hj], by rw [k4, run_y q]⟩
      rw [if_pos q, if_neg (by decide), nI_1]; exact k1
    · exact ⟨M, by rw [if_neg q, if_pos rfl, if_pos rfl], One_rf _ _, fun _ _ => rfl, by rw [h9, run_n q]⟩
theorem m_t86D {ρ : Type} {kx : Mem → Option ρ} {T : Tpe} (hT : okT T) (m : Nat) : ∀ (i n : Nat) (M : Mem), M.1 49 8 = nI T.1 → M.1 49 10 = nI i → BT 56 T M → i + m = 120 → m < n → ∃ M', fX6_token_86 kx 0 1 n M = kx M' ∧ One 49 M M' ∧ (∀ j, j ≠ 10 → M'.1 49 j = M.1 49 j) ∧ M'.1 49 10 = nI (run T isD m i) := by
  have hT1 := hT.1
  induction m with
  | zero =>
    intro i n M h8 h9 hb e h
    obtain ⟨n, rfl⟩ : ∃ k, n = k + 1 := ⟨n - 1, by omega⟩
    exact ⟨M, by rw [fX6_token_86, if_pos rfl, if_neg (by decide), h9, m_ba hT h8 hb (by omega), Option.bind_some, ba_D hT, if_pos (b0 (fun z => by have := z.1; omega))], One_rf _ _, fun _ _ => rfl, h9⟩
  | succ m ih =>
    intro i n M h8 h9 hb e h
    obtain ⟨n, rfl⟩ : ∃ k, n = k + 1 := ⟨n - 1, by omega⟩
    rw [fX6_token_86, if_pos rfl, if_neg (by decide), h9, m_ba hT h8 hb (by omega), Option.bind_some, ba_D hT]
    by_cases q : i < T.1 ∧ isD (T.2 i) = true
    · obtain ⟨M', k1, k2, k3, k4⟩ := ih (i + 1) n (setI M 49 10 (nI (i + 1))) (by rw [sI_j _ _ (by decide)]; exact h8) (sI_s _ _ _ _) (fun x hx => by rw [sI_c _ _ _ (by decide)]; exact hb x hx) (by omega) (by omega)
      refine ⟨M', ?_, One_tr (One_set _ _ _ _) k2, fun j hj => by rw [k3 j hj, sI_j _ _ hj], by rw [k4, run_y q]⟩
      rw [if_pos q, if_neg (by decide), nI_1]; exact k1
    · exact ⟨M, by rw [if_neg q, if_pos rfl], One_rf _ _, fun _ _ => rfl, by rw [h9, run_n q]⟩
theorem m_tok {T : Tpe} {e : Nat} {M : Mem} (hT : okT T) (he : e ≤ T.1) (h8 : M.1 49 8 = nI T.1) (h10 : M.1 49 10 = nI e) (hb : BT 56 T M) : ∃ M', fX6_token M = some M' ∧ One 49 M M' ∧ (∀ j, j ≠ 9 → j ≠ 10 → M'.1 49 j = M.1 49 j) ∧ M'.1 49 9 = nI (sk T e) ∧ M'.1 49 10 = nI (tkE T (sk T e)) := by
  have hT1 := hT.1
  unfold fX6_token
  rw [h10]
  obtain ⟨M1, p1, o1, j1, v1⟩ := m_t8 (kx := fun M4 => ((fX6_byteAt (M4.1 49 9) M4).bind fun v5 => ((fX6_byteAt (M4.1 49 9) M4).bind fun v7 => (fX6_token_86 (fun M22 => some M22) (fX6_isLetter v5) (fX6_isDigit v7) FU (setI M4 49 10 (if (M4.1 49 8) ≤ (M4.1 49 9) then (M4.1 49 9) else ((M4.1 49 9) + (1 : Int32)))))))) hT (120 - e) e FU (setI M 49 9 (nI e)) (by rw [sI_j _ _ (by decide)]; exact h8) (sI_s _ _ _ _) (fun x hx => by rw [sI_c _ _ _ (by decide)]; exact hb x hx) (by omega) (by unfold FU; omega)
  have v1 : M1.1 49 9 = nI (sk T e) := v1
  have hs := sk_le he
  generalize sk T e = s at v1 hs ⊢
  have z8 : M1.1 49 8 = nI T.1 := by rw [j1 8 (by decide), sI_j _ _ (by decide)]; exact h8
  have zb : BT 56 T M1 := fun x hx => by rw [o1.1 56 (by decide), sI_c _ _ _ (by decide)]; exact hb x hx
  have oa : One 49 M M1 := One_tr (One_set _ _ _ _) o1
  have ja : ∀ j, j ≠ 9 → M1.1 49 j = M.1 49 j := fun j hj => by rw [j1 j hj, sI_j _ _ hj]
  rw [p1]
  show ∃ M', ((fX6_byteAt (M1.1 49 9) M1).bind _) = some M' ∧ _
  rw [v1, m_ba hT z8 zb (by omega), Option.bind_some, Option.bind_some, ba_L hT, ba_D hT, z8]
  have fin : ∀ (r : Nat) (M2 M3 : Mem), M2 = setI M1 49 10 (nI r) → One 49 M2 M3 → (∀ j, j ≠ 10 → M3.1 49 j = M2.1 49 j) → M3.1 49 10 = nI (tkE T s) → One 49 M M3 ∧ (∀ j, j ≠ 9 → j ≠ 10 → M3.1 49 j = M.1 49 j) ∧ M3.1 49 9 = nI s ∧ M3.1 49 10 = nI (tkE T s) := by
    rintro r M2 M3 rfl o3 j3 v3
    refine ⟨One_tr (One_tr oa (One_set _ _ _ _)) o3, fun j hj hj2 => ?_, ?_, v3⟩
    · rw [j3 j hj2, sI_j _ _ hj2]; exact ja j hj
    · rw [j3 9 (by decide), sI_j _ _ (by decide)]; exact v1
  by_cases qs : s < T.1
  · rw [if_neg (show ¬ nI T.1 ≤ nI s from nI_ge qs (by omega)), nI_1]
    have y8 : (setI M1 49 10 (nI (s + 1))).1 49 8 = nI T.1 := by rw [sI_j _ _ (by decide)]; exact z8
    have yb : BT 56 T (setI M1 49 10 (nI (s + 1))) := fun x hx => by rw [sI_c _ _ _ (by decide)]; exact zb x hx
    by_cases qL : isL (T.2 s) = true
    · have nD : ¬ (s < T.1 ∧ isD (T.2 s) = true) := fun z => by rw [LD qL] at z; exact absurd z.2 (by decide)
      rw [if_pos ⟨qs, qL⟩, if_neg nD]
      obtain ⟨M3, p3, o3, j3, v3⟩ := m_t86L (kx := fun M22 => some M22) hT (120 - (s + 1)) (s + 1) FU (setI M1 49 10 (nI (s + 1))) y8 (sI_s _ _ _ _) yb (by omega) (by unfold FU; omega)
      refine ⟨M3, p3, fin (s + 1) _ M3 rfl o3 j3 ?_⟩
      rw [v3]; unfold tkE; rw [if_pos qs, if_pos qL, rn1_gt hT ⟨qs, qL⟩]
    · rw [if_neg (fun z => qL z.2)]
      by_cases qD : isD (T.2 s) = true
      · rw [if_pos ⟨qs, qD⟩]
        obtain ⟨M3, p3, o3, j3, v3⟩ := m_t86D (kx := fun M22 => some M22) hT (120 - (s + 1)) (s + 1) FU (setI M1 49 10 (nI (s + 1))) y8 (sI_s _ _ _ _) yb (by omega) (by unfold FU; omega)
        refine ⟨M3, p3, fin (s + 1) _ M3 rfl o3 j3 ?_⟩
        rw [v3]; unfold tkE; rw [if_pos qs, if_neg qL, if_pos qD, rn1_gt hT ⟨qs, qD⟩]
      · rw [if_neg (fun z => qD z.2)]
        refine ⟨_, rfl, fin (s + 1) _ _ rfl (One_rf _ _) (fun _ _ => rfl) ?_⟩
        rw [sI_s]; unfold tkE; rw [if_pos qs, if_neg qL, if_neg qD]
  · rw [if_pos ((nI_leI (by omega) (by omega)).mpr (by omega)), if_neg (fun z => qs z.1), if_neg (fun z => qs z.1)]
    refine ⟨_, rfl, fin s _ _ rfl (One_rf _ _) (fun _ _ => rfl) ?_⟩
    rw [sI_s]; unfold tkE; rw [if_neg qs]
/-- the model's tape stands at a token; wrong or not -/
def MTk (T : Tpe) (s : Nat) (b : Int32) (M : Mem) : Prop := M.1 49 8 = nI T.1 ∧ M.1 49 9 = nI s ∧ M.1 49 10 = nI (tkE T s) ∧ M.1 49 12 = b ∧ BT 56 T M
def F49 (M M' : Mem) : Prop := One 49 M M' ∧ M'.1 49 5 = M.1 49 5
theorem F49_rf (M : Mem) : F49 M M := ⟨One_rf _ _, rfl⟩
theorem F49_tr {M M1 M2 : Mem} (h : F49 M M1) (k : F49 M1 M2) : F49 M M2 := ⟨One_tr h.1 k.1, k.2.trans h.2⟩
theorem F49_set (M : Mem) {j : Nat} (v : Int32) (h : 5 ≠ j) : F49 M (setI M 49 j v) := ⟨One_set _ _ _ _, sI_j _ _ h⟩
theorem MTk_sl {T : Tpe} {s j : Nat} {b v : Int32} {M : Mem} (h : MTk T s b M) (hj : j = 11) : MTk T s b (setI M 49 j v) := by
  subst hj
  exact ⟨by rw [sI_j _ _ (by decide)]; exact h.1, by rw [sI_j _ _ (by decide)]; exact h.2.1, by rw [sI_j _ _ (by decide)]; exact h.2.2.1, by rw [sI_j _ _ (by decide)]; exact h.2.2.2.1, fun x hx => by rw [sI_c _ _ _ (by decide)]; exact h.2.2.2.2 x hx⟩
theorem MTk_w {T : Tpe} {s : Nat} {b : Int32} {M : Mem} (h : MTk T s b M) (c : Int32) : MTk T s c (setI M 49 12 c) :=
  ⟨by rw [sI_j _ _ (by decide)]; exact h.1, by rw [sI_j _ _ (by decide)]; exact h.2.1, by rw [sI_j _ _ (by decide)]; exact h.2.2.1, sI_s _ _ _ _, fun x hx => by rw [sI_c _ _ _ (by decide)]; exact h.2.2.2.2 x hx⟩
theorem m_w1 {T : Tpe} {s : Nat} {M : Mem} (hT : okT T) (hs : s ≤ T.1) (h : MTk T s 0 M) : ∃ M', fX6_wants 1 M = some M' ∧ MTk T (adv T s) 0 M' ∧ F49 M M' ∧ M'.1 49 11 = M.1 49 11 := by
  unfold fX6_wants
  rw [h.2.2.2.1, if_pos rfl, if_neg (show ¬ (1 : Int32) = 0 by decide), sI_s, if_pos rfl]
  have h' := MTk_w h 0
  obtain ⟨M', p, o, j, v1, v2⟩ := m_tok hT (tkE_le hs) h'.1 h'.2.2.1 h'.2.2.2.2
  refine ⟨M', by rw [p]; rfl, ⟨(j 8 (by decide) (by decide)).trans h'.1, v1, v2, (j 12 (by decide) (by decide)).trans h'.2.2.2.1, fun x hx => by rw [o.1 56 (by decide)]; exact h'.2.2.2.2 x hx⟩, ⟨One_tr (One_set _ _ _ _) o, ?_⟩, ?_⟩
  · rw [j 5 (by decide) (by decide), sI_j _ _ (by decide)]
  · rw [j 11 (by decide) (by decide), sI_j _ _ (by decide)]
theorem m_w0 {T : Tpe} {s : Nat} {M : Mem} (h : MTk T s 0 M) : ∃ M', fX6_wants 0 M = some M' ∧ MTk T s 1 M' ∧ F49 M M' ∧ M'.1 49 11 = M.1 49 11 := by
  unfold fX6_wants
  rw [h.2.2.2.1, if_pos rfl, if_pos rfl, sI_s, if_neg (by decide)]
  exact ⟨_, rfl, MTk_w h 1, F49_set _ _ (by decide), sI_j _ _ (by decide)⟩
theorem m_ww {T : Tpe} {s : Nat} {M : Mem} (h : MTk T s 1 M) (x : Int32) : ∃ M', fX6_wants x M = some M' ∧ MTk T s 1 M' ∧ F49 M M' ∧ M'.1 49 11 = M.1 49 11 := by
  unfold fX6_wants
  rw [h.2.2.2.1, if_neg (show ¬ (1 : Int32) = 0 by decide), sI_s, if_neg (show ¬ (1 : Int32) = 0 by decide)]
  exact ⟨_, rfl, MTk_w h 1, F49_set _ _ (by decide), sI_j _ _ (by decide)⟩
