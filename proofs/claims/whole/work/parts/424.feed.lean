/-! MATHS: bytes on the tape -/
theorem and255 (x : Int32) : ∃ v, v < 256 ∧ x &&& 255 = nI v := by
  refine okx_t (n := 256) (by decide) ?_
  have h : (x &&& 255).toBitVec.toNat < 256 := by
    rw [Int32.toBitVec_and, BitVec.toNat_and]; exact Nat.lt_of_le_of_lt Nat.and_le_right (by decide)
  have e : (x &&& 255).toInt = ((x &&& 255).toBitVec.toNat : Int) := by
    show (x &&& 255).toBitVec.toInt = _
    rw [BitVec.toInt_eq_toNat_cond, if_pos (by omega)]
  unfold okx
  rw [e]; exact decide_eq_true ⟨by omega, by omega⟩
def byt (y : Int32) (m : Nat) : Int32 := (y >>> (((8 : Int32) * nI m) &&& 31)) &&& (255 : Int32)
def fbu (y : Int32) : Nat → Nat → (Nat → Int32) → Nat → Int32
  | 0, _, f => f
  | m + 1, n, f => fbu y m (n + 1) (upd f n (byt y m))
theorem fbu_ag (y : Int32) (m : Nat) : ∀ (n : Nat) (f g : Nat → Int32), (∀ i, i < n → f i = g i ∧ ∃ v, v < 256 ∧ f i = nI v) → ∀ i, i < n + m → fbu y m n f i = fbu y m n g i ∧ ∃ v, v < 256 ∧ fbu y m n f i = nI v := by
  induction m with
  | zero => intro n f g h i hi; exact h i hi
  | succ m ih =>
    intro n f g h i hi
    refine ih (n + 1) _ _ (fun j hj => ?_) i (by omega)
    unfold upd
    by_cases q : j = n
    · rw [if_pos q, if_pos q]; exact ⟨rfl, and255 _⟩
    · rw [if_neg q, if_neg q]; exact h j (by omega)
theorem c_fel {ρ : Type} {kx : Mem → Option ρ} {y : Int32} (m : Nat) : ∀ (n u : Nat) (M : Mem), M.1 36 0 = nI n → n + m ≤ 120 → m < u → ∃ M', fX5_feed_42 kx y u (nI m - 1) M = kx M' ∧ M'.1 36 0 = nI (n + m) ∧ M'.1 37 = fbu y m n (M.1 37) ∧ (∀ a, a ≠ 36 → a ≠ 37 → M'.1 a = M.1 a) ∧ M'.2 = M.2 := by
  induction m with
  | zero =>
    intro n u M hn hl h
    obtain ⟨u, rfl⟩ : ∃ k, u = k + 1 := ⟨u - 1, by omega⟩
    exact ⟨M, by rw [fX5_feed_42, if_pos (by decide)], hn, rfl, fun a _ _ => rfl, rfl⟩
  | succ m ih =>
    intro n u M hn hl h
    obtain ⟨u, rfl⟩ : ∃ k, u = k + 1 := ⟨u - 1, by omega⟩
    obtain ⟨M', e1, r1, r2, r3, r4⟩ := ih (n + 1) u (setI (setI M 37 n (byt y m)) 36 0 (nI (n + 1))) (sI_s _ _ _ _) (by omega) (by omega)
    refine ⟨M', ?_, by rw [r1]; congr 1; omega, ?_, fun a q1 q2 => by rw [r3 a q1 q2, sI_c _ _ _ q1, sI_c _ _ _ q2], r4⟩
    · rw [nI_pred, fX5_feed_42, if_neg (nI_pos (by omega))]
      unfold fX2_add
      rw [hn, if_neg (show ¬ (120 : Int32) ≤ nI n from nI_ge (b := 120) (by omega) (by decide)), stI_n (by omega) (by decide), Option.bind_some, Option.bind_some, sI_c _ _ _ (by decide), hn, nI_1, ← Int32.sub_eq_add_neg]
      exact e1
    · rw [r2, sI_c _ _ _ (by decide), setI_eq]; rfl
theorem m_fel {ρ : Type} {kx : Mem → Option ρ} {y : Int32} (m : Nat) : ∀ (n u : Nat) (M : Mem), M.1 49 8 = nI n → n + m ≤ 120 → m < u → ∃ M', fX6_feed_41 kx y u (nI m - 1) M = kx M' ∧ M'.1 49 8 = nI (n + m) ∧ M'.1 56 = fbu y m n (M.1 56) ∧ (∀ a, a ≠ 49 → a ≠ 56 → M'.1 a = M.1 a) ∧ M'.1 49 5 = M.1 49 5 ∧ M'.2 = M.2 := by
  induction m with
  | zero =>
    intro n u M hn hl h
    obtain ⟨u, rfl⟩ : ∃ k, u = k + 1 := ⟨u - 1, by omega⟩
    exact ⟨M, by rw [fX6_feed_41, if_pos (by decide)], hn, rfl, fun a _ _ => rfl, rfl, rfl⟩
  | succ m ih =>
    intro n u M hn hl h
    obtain ⟨u, rfl⟩ : ∃ k, u = k + 1 := ⟨u - 1, by omega⟩
    obtain ⟨M', e1, r1, r2, r3, r5, r4⟩ := ih (n + 1) u (setI (setI M 56 n (byt y m)) 49 8 (nI (n + 1))) (sI_s _ _ _ _) (by omega) (by omega)
    refine ⟨M', ?_, by rw [r1]; congr 1; omega, ?_, fun a q1 q2 => by rw [r3 a q1 q2, sI_c _ _ _ q1, sI_c _ _ _ q2], by rw [r5, sI_j _ _ (by decide), sI_c _ _ _ (by decide)], r4⟩
    · rw [nI_pred, fX6_feed_41, if_neg (nI_pos (by omega)), hn, stI_n (by omega) (by decide), Option.bind_some, sI_c _ _ _ (by decide), hn, nI_1, ← Int32.sub_eq_add_neg]
      exact e1
    · rw [r2, sI_c _ _ _ (by decide), setI_eq]; rfl
