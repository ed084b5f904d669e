/-! MATHS: words and numbers -/
def scd (g : Nat → Nat) : Nat → Nat
  | 0 => 0
  | m + 1 => if scd g m ≤ 36028797018963967 then 32 * scd g m + (g m - 96) else scd g m
def cdf (h : Nat → Nat) : Nat → Nat
  | 0 => 0
  | m + 1 => 32 * cdf h m + (h m - 96)
theorem isL_b {b : Nat} (h : isL b = true) : 97 ≤ b ∧ b ≤ 122 := of_decide_eq_true h
theorem isD_b {b : Nat} (h : isD b = true) : 48 ≤ b ∧ b ≤ 57 := of_decide_eq_true h
theorem scd_y {g : Nat → Nat} {m : Nat} (h : scd g m ≤ 36028797018963967) : scd g (m + 1) = 32 * scd g m + (g m - 96) := if_pos h
theorem scd_n {g : Nat → Nat} {m : Nat} (h : ¬ scd g m ≤ 36028797018963967) : scd g (m + 1) = scd g m := if_neg h
theorem scd_eq {g h : Nat → Nat} (L : Nat) : ∀ m, (∀ j, j < m → isL (g j) = true) → (∀ j, j < L → isL (h j) = true) → cdf h L ≤ 36028797018963967 → (scd g m = cdf h L ↔ (m = L ∧ ∀ j, j < L → g j = h j)) := by
  induction L with
  | zero =>
    intro m hg hh hc
    cases m with
    | zero => exact ⟨fun _ => ⟨rfl, fun j hj => absurd hj (Nat.not_lt_zero _)⟩, fun _ => rfl⟩
    | succ m =>
      refine ⟨fun q => ?_, fun q => absurd q.1 (by omega)⟩
      exfalso
      have q : scd g (m + 1) = 0 := q
      by_cases w : scd g m ≤ 36028797018963967
      · rw [scd_y w] at q
        have := isL_b (hg m (by omega)); omega
      · rw [scd_n w] at q; omega
  | succ L ih =>
    intro m hg hh hc
    have hc' : 32 * cdf h L + (h L - 96) ≤ 36028797018963967 := hc
    have hL := isL_b (hh L (by omega))
    show scd g m = 32 * cdf h L + (h L - 96) ↔ _
    cases m with
    | zero =>
      refine ⟨fun q => ?_, fun q => absurd q.1 (by omega)⟩
      have q : 0 = 32 * cdf h L + (h L - 96) := q
      omega
    | succ m =>
      have hm := isL_b (hg m (by omega))
      have hi := ih m (fun j hj => hg j (by omega)) (fun j hj => hh j (by omega)) (by omega)
      by_cases w : scd g m ≤ 36028797018963967
      · rw [scd_y w]
        constructor
        · intro q
          have e1 : scd g m = cdf h L := by omega
          obtain ⟨e2, e3⟩ := hi.mp e1
          refine ⟨by omega, fun j hj => ?_⟩
          by_cases qj : j < L
          · exact e3 j qj
          · obtain rfl : j = L := by omega
            rw [← e2]; rw [← e2] at q hL; omega
        · rintro ⟨q1, q2⟩
          have e2 : m = L := by omega
          have e1 := hi.mpr ⟨e2, fun j hj => q2 j (by omega)⟩
          have e3 := q2 L (by omega)
          rw [e1, e2, e3]
      · rw [scd_n w]
        constructor
        · intro q; omega
        · rintro ⟨q1, q2⟩
          have e1 := hi.mpr ⟨by omega, fun j hj => q2 j (by omega)⟩
          omega
def wv (T : Tpe) (s : Nat) : Nat := if s < T.1 ∧ isL (T.2 s) = true then scd (fun j => T.2 (s + j)) (tkE T s - s) else 0
theorem tkE_L {T : Tpe} {s : Nat} (h : s < T.1 ∧ isL (T.2 s) = true) : tkE T s = rn1 T isL s := by unfold tkE; rw [if_pos h.1, if_pos h.2]
theorem tkE_D {T : Tpe} {s : Nat} (h : s < T.1 ∧ isD (T.2 s) = true) : tkE T s = rn1 T isD s := by
  unfold tkE
  rw [if_pos h.1, if_neg (fun z => by rw [LD z] at h; exact absurd h.2 (by decide)), if_pos h.2]
theorem scd_lt {g : Nat → Nat} (m : Nat) : (∀ j, j < m → isL (g j) = true) → scd g m < 2 ^ 61 := by
  induction m with
  | zero => intro _; exact Nat.two_pow_pos 61
  | succ m ih =>
    intro hg
    have h1 := ih (fun j hj => hg j (by omega))
    have h2 := isL_b (hg m (by omega))
    by_cases w : scd g m ≤ 36028797018963967
    · rw [scd_y w]; omega
    · rw [scd_n w]; exact h1
theorem lg_le (x y : Int64) : (lg_cmp x y ≤ 0) ↔ x.toInt ≤ y.toInt := by
  have := lg_gt x y
  constructor
  · intro h
    refine Int.not_lt.mp (fun q => ?_)
    have := this.mpr q
    exact absurd h (Int32.not_le.mpr this)
  · intro h
    refine Int32.not_lt.mp (fun q => ?_)
    have := this.mp q
    omega
theorem m_w7 {ρ : Type} {kx : Int64 → Option ρ} {T : Tpe} {M : Mem} {s L : Nat} (hT : okT T) (hb : BT 56 T M) (h10 : M.1 49 10 = nI (s + L)) (hL : s + L ≤ T.1) (hl : ∀ j, j < L → isL (T.2 (s + j)) = true) (m : Nat) : ∀ (i n : Nat), i + m = L → m < n → fX6_word_7 kx M n (lN (scd (fun j => T.2 (s + j)) i)) (nI (s + i)) = kx (lN (scd (fun j => T.2 (s + j)) L)) := by
  have hT1 := hT.1
  induction m with
  | zero =>
    intro i n e h
    obtain rfl : i = L := by omega
    obtain ⟨n, rfl⟩ : ∃ k, n = k + 1 := ⟨n - 1, by omega⟩
    rw [fX6_word_7, h10, if_pos (Int32.le_refl _)]
  | succ m ih =>
    intro i n e h
    obtain ⟨n, rfl⟩ : ∃ k, n = k + 1 := ⟨n - 1, by omega⟩
    have hi := isL_b (hl i (by omega))
    have hlt : scd (fun j => T.2 (s + j)) i < 2 ^ 61 := scd_lt i (fun j hj => hl j (by omega))
    rw [fX6_word_7, h10, if_neg (nI_ge (show s + i < s + L by omega) (by omega)), nI_1, show s + i + 1 = s + (i + 1) by omega]
    have hle : lg_cmp (lN (scd (fun j => T.2 (s + j)) i)) (36028797018963967 : Int64) ≤ 0 ↔ scd (fun j => T.2 (s + j)) i ≤ 36028797018963967 := by
      rw [lg_le, pk_lT (by omega), show (36028797018963967 : Int64).toInt = 36028797018963967 by decide]; omega
    by_cases w : scd (fun j => T.2 (s + j)) i ≤ 36028797018963967
    · rw [if_pos (hle.mpr w), ldI_n (by omega) (by decide), Option.bind_some, Option.bind_some, hb (s + i) (by omega), show (96 : Int32) = nI 96 from rfl, pk_sub (by omega), nI_l (by omega), show (32 : Int64) = lN 32 from rfl, lN_mul, lN_add, ← ih (i + 1) n (by omega) (by omega), scd_y w]
    · rw [if_neg (fun z => w (hle.mp z)), Option.bind_some, ← ih (i + 1) n (by omega) (by omega), scd_n w]
theorem m_w7x {ρ : Type} {kx : Int64 → Option ρ} {M : Mem} {e : Nat} (h10 : M.1 49 10 = nI e) (he : e ≤ 120) (m : Nat) : ∀ (i n : Nat) (y : Int64), i + m = e → m < n → ∃ u, fX6_word_7 kx M n y (nI i) = kx u := by
  induction m with
  | zero =>
    intro i n y e1 h
    obtain rfl : i = e := by omega
    obtain ⟨n, rfl⟩ : ∃ k, n = k + 1 := ⟨n - 1, by omega⟩
    exact ⟨y, by rw [fX6_word_7, h10, if_pos (Int32.le_refl _)]⟩
  | succ m ih =>
    intro i n y e1 h
    obtain ⟨n, rfl⟩ : ∃ k, n = k + 1 := ⟨n - 1, by omega⟩
    rw [fX6_word_7, h10, if_neg (nI_ge (show i < e by omega) (by omega)), nI_1]
    by_cases w : lg_cmp y (36028797018963967 : Int64) ≤ 0
    · rw [if_pos w, ldI_n (by omega) (by decide), Option.bind_some, Option.bind_some]
      exact ih (i + 1) n _ (by omega) (by omega)
    · rw [if_neg w, Option.bind_some]
      exact ih (i + 1) n _ (by omega) (by omega)
theorem m_word {T : Tpe} {s : Nat} {M : Mem} (hT : okT T) (hs : s ≤ T.1) (h : MTk T s 0 M) : fX6_word M = some (lN (wv T s)) := by
  have hT1 := hT.1
  have hge := tkE_ge hT hs
  have hle := tkE_le hs
  unfold fX6_word
  rw [h.2.1]
  by_cases q : s < T.1 ∧ isL (T.2 s) = true
  · have e1 : tkE T s = s + (tkE T s - s) := by omega
    have hl : ∀ j, j < tkE T s - s → isL (T.2 (s + j)) = true := fun j hj => (run_all T isL (120 - s) s (s + j) (by omega) (by have := tkE_L q; unfold rn1 at this; rw [← this]; omega)).2
    have := m_w7 (kx := fun u8 => (if (M.1 49 12) = 0 then ((fX6_byteAt (nI s) M).bind fun v10 => (if (fX6_isLetter v10) = 0 then some (0 : Int64) else some u8)) else some (0 : Int64))) (s := s) (L := tkE T s - s) hT h.2.2.2.2 (by rw [← e1]; exact h.2.2.1) (by omega) hl (tkE T s - s) 0 FU (Nat.zero_add _) (by unfold FU; omega)
    refine Eq.trans this ?_
    rw [h.2.2.2.1, if_pos rfl, m_ba hT h.1 h.2.2.2.2 (by omega), Option.bind_some, ba_L hT, if_neg (b1 q)]
    unfold wv
    rw [if_pos q]
  · obtain ⟨u, hu⟩ := m_w7x (kx := fun u8 => (if (M.1 49 12) = 0 then ((fX6_byteAt (nI s) M).bind fun v10 => (if (fX6_isLetter v10) = 0 then some (0 : Int64) else some u8)) else some (0 : Int64))) h.2.2.1 (by omega) (tkE T s - s) s FU 0 (by omega) (by unfold FU; omega)
    refine Eq.trans hu ?_
    rw [h.2.2.2.1, if_pos rfl, m_ba hT h.1 h.2.2.2.2 (by omega), Option.bind_some, ba_L hT, if_pos (b0 q)]
    unfold wv
    rw [if_neg q]; rfl
theorem m_wordw {T : Tpe} {s : Nat} {M : Mem} (hT : okT T) (hs : s ≤ T.1) (h : MTk T s 1 M) : fX6_word M = some 0 := by
  have hT1 := hT.1
  have hge := tkE_ge hT hs
  have hle := tkE_le hs
  unfold fX6_word
  rw [h.2.1]
  obtain ⟨u, hu⟩ := m_w7x (kx := fun u8 => (if (M.1 49 12) = 0 then ((fX6_byteAt (nI s) M).bind fun v10 => (if (fX6_isLetter v10) = 0 then some (0 : Int64) else some u8)) else some (0 : Int64))) h.2.2.1 (by omega) (tkE T s - s) s FU 0 (by omega) (by unfold FU; omega)
  refine Eq.trans hu ?_
  rw [h.2.2.2.1, if_neg (by decide)]
/-! the words -/
def chL : List (List Nat) := [[102, 105, 101, 108, 100], [114, 111, 117, 103, 104], [103, 108, 117, 101], [110, 111, 114, 116, 104], [101, 97, 115, 116], [115, 111, 117, 116, 104], [119, 101, 115, 116], [99, 117, 116], [119, 97, 108, 107, 101, 114], [115, 117, 114, 118, 101, 121, 111, 114], [115, 111, 108, 100, 105, 101, 114], [98, 111, 121], [99, 97, 114, 116, 101, 114], [99, 97, 116], [97, 116]]
def chr (k j : Nat) : Nat := (chL.getD k []).getD j 0
def lnk (k : Nat) : Nat := lenL.getD k 0
def CK (k : Nat) : Nat := cdf (chr k) (lnk k)
theorem w_len : ∀ k, k < 15 → sLen (100 + k) = nI (lnk k) ∧ lnk k ≤ 8 ∧ 0 < CK k ∧ CK k ≤ 36028797018963967 := by decide +kernel
theorem w_at : ∀ k, k < 15 → ∀ j, j < lnk k → sAt (100 + k) (nI j) = some (nI (chr k j)) ∧ isL (chr k j) = true := by decide +kernel
theorem c_iw {T : Tpe} {s k : Nat} {M : Mem} (hT : okT T) (hk : k < 15) (h2 : M.1 36 2 = nI s) (hb : BT 37 T M) (hl : s + lnk k ≤ T.1) (m : Nat) : ∀ (i n : Nat), i + m = lnk k → m < n → (fX2_isWord_28 (some (1 : Int32)) (100 + k) M n (nI i) = some 1 ∧ ∀ j, i ≤ j → j < lnk k → T.2 (s + j) = chr k j) ∨ (fX2_isWord_28 (some (1 : Int32)) (100 + k) M n (nI i) = some 0 ∧ ∃ j, j < lnk k ∧ T.2 (s + j) ≠ chr k j) := by
  have hT1 := hT.1
  obtain ⟨l1, l2, _, _⟩ := w_len k hk
  induction m with
  | zero =>
    intro i n e h
    obtain rfl : i = lnk k := by omega
    obtain ⟨n, rfl⟩ : ∃ k, n = k + 1 := ⟨n - 1, by omega⟩
    exact Or.inl ⟨by rw [fX2_isWord_28, l1, if_pos (Int32.le_refl _)], fun j h1 h2 => absurd h1 (by omega)⟩
  | succ m ih =>
    intro i n e h
    obtain ⟨n, rfl⟩ : ∃ k, n = k + 1 := ⟨n - 1, by omega⟩
    obtain ⟨a1, a2⟩ := w_at k hk i (by omega)
    have hc := isL_b a2
    have hv := hT.2 (s + i) (by omega)
    rw [fX2_isWord_28, l1, if_neg (nI_ge (show i < lnk k by omega) (by omega)), h2, nI_add, ldI_n (by omega) (by decide), Option.bind_some, hb (s + i) (by omega), a1, Option.bind_some, nI_1]
    by_cases q : T.2 (s + i) = chr k i
    · rw [if_pos (by rw [q])]
      rcases ih (i + 1) n (by omega) (by omega) with ⟨k1, k2⟩ | k1
      · refine Or.inl ⟨k1, fun j h1 h2 => ?_⟩
        by_cases qj : j = i
        · rw [qj]; exact q
        · exact k2 j (by omega) h2
      · exact Or.inr k1
    · rw [if_neg (fun z => q ((nI_eq (by omega) (by omega)).mp z))]
      exact Or.inr ⟨rfl, i, by omega, q⟩
theorem srt_2 {T : Tpe} {s : Nat} : srt T s = 2 ↔ (s < T.1 ∧ isL (T.2 s) = true) := by
  unfold srt
  constructor
  · intro h
    split at h
    · next q =>
      split at h
      · next q2 => exact ⟨q, q2⟩
      · split at h
        · omega
        · split at h <;> omega
    · omega
  · intro h; rw [if_pos h.1, if_pos h.2]
theorem srt_3 {T : Tpe} {s : Nat} : srt T s = 3 ↔ (s < T.1 ∧ isD (T.2 s) = true) := by
  unfold srt
  constructor
  · intro h
    split at h
    · next q =>
      split at h
      · omega
      · split at h
        · next q2 => exact ⟨q, q2⟩
        · split at h <;> omega
    · omega
  · intro h
    rw [if_pos h.1, if_neg (fun z => by rw [LD z] at h; exact absurd h.2 (by decide)), if_pos h.2]
theorem srt_0 {T : Tpe} {s : Nat} : srt T s = 0 ↔ ¬ s < T.1 := by
  unfold srt
  constructor
  · intro h q
    rw [if_pos q] at h
    split at h
    · omega
    · split at h
      · omega
      · split at h <;> omega
  · intro h; rw [if_neg h]
theorem srt_1 {T : Tpe} {s : Nat} : srt T s = 1 ↔ (s < T.1 ∧ T.2 s = 59) := by
  unfold srt
  constructor
  · intro h
    split at h
    · next q =>
      split at h
      · omega
      · split at h
        · omega
        · split at h
          · next q2 => exact ⟨q, q2⟩
          · omega
    · omega
  · intro h
    rw [if_pos h.1, h.2, if_neg (by decide), if_neg (by decide), if_pos rfl]
theorem srt_le (T : Tpe) (s : Nat) : srt T s ≤ 4 := by
  unfold srt
  split
  · split
    · omega
    · split
      · omega
      · split <;> omega
  · omega
theorem c_isW {T : Tpe} {s k : Nat} {M : Mem} (hT : okT T) (hs : s ≤ T.1) (hk : k < 15) (h : CT T s M) : fX2_isWord (100 + k) M = some (if wv T s = CK k then 1 else 0) := by
  have hT1 := hT.1
  have hge := tkE_ge hT hs
  have hle := tkE_le hs
  have h4 := srt_le T s
  obtain ⟨l1, l2, l3, l4⟩ := w_len k hk
  obtain ⟨t0, t1, t2, t3, t4, tb⟩ := h
  unfold fX2_isWord
  rw [t1, t2, t4]
  by_cases q : s < T.1 ∧ isL (T.2 s) = true
  · have hl : ∀ j, j < tkE T s - s → isL (T.2 (s + j)) = true := fun j hj => (run_all T isL (120 - s) s (s + j) (by omega) (by have := tkE_L q; unfold rn1 at this; rw [← this]; omega)).2
    have hw : wv T s = scd (fun j => T.2 (s + j)) (tkE T s - s) := by unfold wv; rw [if_pos q]
    have hiff : scd (fun j => T.2 (s + j)) (tkE T s - s) = CK k ↔ _ := scd_eq (g := fun j => T.2 (s + j)) (h := chr k) (lnk k) (tkE T s - s) hl (fun j hj => (w_at k hk j hj).2) l4
    rw [if_pos (show nI (srt T s) = (2 : Int32) by rw [srt_2.mpr q]; rfl), pk_sub hge, l1, hw]
    by_cases q2 : tkE T s - s = lnk k
    · rw [if_pos (by rw [q2])]
      rcases c_iw hT hk t2 tb (show s + lnk k ≤ T.1 by omega) (lnk k) 0 FU (Nat.zero_add _) (by unfold FU; omega) with ⟨k1, k2⟩ | ⟨k1, j, k2, k3⟩
      · rw [if_pos (hiff.mpr ⟨q2, fun j hj => k2 j (Nat.zero_le _) hj⟩)]; exact k1
      · rw [if_neg (fun z => k3 ((hiff.mp z).2 j k2))]; exact k1
    · rw [if_neg (fun z => q2 ((nI_eq (by omega) (by omega)).mp z)), if_neg (fun z => q2 (hiff.mp z).1)]
  · have hw : wv T s = 0 := by unfold wv; rw [if_neg q]
    rw [if_neg (show ¬ nI (srt T s) = (2 : Int32) from fun z => q (srt_2.mp ((nI_eq (b := 2) (by omega) (by decide)).mp z))), hw, if_neg (by omega)]
/-! numbers -/
def mnR (T : Tpe) : Nat → Nat → Nat → Nat
  | 0, _, v => v
  | m + 1, i, v => if i < T.1 ∧ isD (T.2 i) = true then mnR T m (i + 1) (if v ≤ 999 then 10 * v + T.2 i - 48 else v) else v
theorem mnR_y {T : Tpe} {m i v : Nat} (h : i < T.1 ∧ isD (T.2 i) = true) : mnR T (m + 1) i v = mnR T m (i + 1) (if v ≤ 999 then 10 * v + T.2 i - 48 else v) := if_pos h
theorem mnR_n {T : Tpe} {m i v : Nat} (h : ¬ (i < T.1 ∧ isD (T.2 i) = true)) : mnR T m i v = v := by
  cases m with
  | zero => rfl
  | succ m => exact if_neg h
def mnum (T : Tpe) (s : Nat) : Nat := mnR T (120 - s) s 0
theorem cn_mn {T : Tpe} (m : Nat) : ∀ i v, cnR T m i (if 1000 < v then 1000 else v) = if 1000 < mnR T m i v then 1000 else mnR T m i v := by
  induction m with
  | zero => intro i v; rfl
  | succ m ih =>
    intro i v
    by_cases q : i < T.1 ∧ isD (T.2 i) = true
    · have hd := isD_b q.2
      rw [cnR_y q, mnR_y q, ← ih]
      congr 1
      by_cases w : v ≤ 999
      · rw [if_pos w, if_neg (show ¬ 1000 < v by omega), Nat.mul_comm]
      · rw [if_neg w]
        by_cases w2 : 1000 < v
        · rw [if_pos w2, if_pos (by omega)]
        · obtain rfl : v = 1000 := by omega
          rw [if_neg (show ¬ 1000 < 1000 by omega), if_pos (by omega)]
    · rw [cnR_n q, mnR_n q]
theorem cnum_m (T : Tpe) (s : Nat) : cnum T s = if 1000 < mnum T s then 1000 else mnum T s := cn_mn (120 - s) s 0
theorem mnR_lt {T : Tpe} (hT : okT T) (m : Nat) : ∀ i v, v ≤ 10000 → mnR T m i v ≤ 10000 := by
  induction m with
  | zero => intro i v h; exact h
  | succ m ih =>
    intro i v h
    by_cases q : i < T.1 ∧ isD (T.2 i) = true
    · have hd := isD_b q.2
      rw [mnR_y q]
      refine ih (i + 1) _ ?_
      split <;> omega
    · rw [mnR_n q]; exact h
theorem m_n29 {ρ : Type} {kx : Int32 → Option ρ} {T : Tpe} {M : Mem} {y1 y2 : Int32} (hT : okT T) (hb : BT 56 T M) (m : Nat) : ∀ (i n v : Nat), v ≤ 10000 → M.1 49 10 = nI (run T isD m i) → i + m = 120 → m < n → fX6_number_29 kx y1 y2 1 M n (nI v) (nI i) = kx (nI (mnR T m i v)) := by
  have hT1 := hT.1
  induction m with
  | zero =>
    intro i n v hv h10 e h
    obtain ⟨n, rfl⟩ : ∃ k, n = k + 1 := ⟨n - 1, by omega⟩
    rw [fX6_number_29, h10]
    show (if nI i ≤ nI i then _ else _) = _
    rw [if_pos (Int32.le_refl _)]; rfl
  | succ m ih =>
    intro i n v hv h10 e h
    obtain ⟨n, rfl⟩ : ∃ k, n = k + 1 := ⟨n - 1, by omega⟩
    rw [fX6_number_29]
    by_cases q : i < T.1 ∧ isD (T.2 i) = true
    · have hd := isD_b q.2
      rw [run_y q] at h10
      have hr := run_ge T isD m (i + 1)
      have hr2 := run_le T isD m (i + 1) q.1
      have hle : nI v ≤ (999 : Int32) ↔ v ≤ 999 := nI_leI (b := 999) (by omega) (by decide)
      rw [h10, if_neg (nI_ge (show i < run T isD m (i + 1) by omega) (by omega)), if_neg (by decide), nI_1, mnR_y q]
      by_cases w : v ≤ 999
      · have ev : ((10 : Int32) * nI v + nI (T.2 i)) - (48 : Int32) = nI (10 * v + T.2 i - 48) := by
          show (nI 10 * nI v + nI (T.2 i)) - nI 48 = _
          rw [pk_mul, nI_add, pk_sub (by omega)]
        rw [if_pos (hle.mpr w), ldI_n (by omega) (by decide), Option.bind_some, Option.bind_some, hb i q.1, ev, if_pos w]
        exact ih (i + 1) n _ (by omega) h10 (by omega) (by omega)
      · rw [if_neg (fun z => w (hle.mp z)), Option.bind_some, if_neg w]
        exact ih (i + 1) n _ hv h10 (by omega) (by omega)
    · rw [run_n q] at h10
      rw [h10, if_pos (Int32.le_refl _), mnR_n q]
def nb (T : Tpe) (s lim : Nat) : Prop := (s < T.1 ∧ isD (T.2 s) = true) ∧ mnum T s < lim
theorem c_nb {T : Tpe} {s lim : Nat} {M : Mem} (hT : okT T) (hl : lim ≤ 1000) (h : CT T s M) : (fX2_isNumberBelow (nI lim) M = 0 ↔ ¬ nb T s lim) ∧ (nb T s lim → M.1 36 3 = nI (mnum T s)) := by
  obtain ⟨t0, t1, t2, t3, t4, tb⟩ := h
  have h4 := srt_le T s
  have hm := mnR_lt hT (120 - s) s 0 (by decide)
  have hm : mnum T s ≤ 10000 := hm
  have hc := cnum_m T s
  unfold fX2_isNumberBelow
  rw [t1, t3]
  constructor
  · by_cases q : s < T.1 ∧ isD (T.2 s) = true
    · rw [if_pos (show nI (srt T s) = (3 : Int32) by rw [srt_3.mpr q]; rfl)]
      have hle : nI lim ≤ nI (cnum T s) ↔ lim ≤ mnum T s := by
        rw [nI_leI (by omega) (by rw [hc]; split <;> omega), hc]; split <;> omega
      by_cases w : lim ≤ mnum T s
      · rw [if_pos (hle.mpr w)]; exact ⟨fun _ z => by have := z.2; omega, fun _ => rfl⟩
      · rw [if_neg (fun z => w (hle.mp z))]; exact ⟨fun z => absurd z (by decide), fun z => absurd ⟨q, by omega⟩ z⟩
    · rw [if_neg (show ¬ nI (srt T s) = (3 : Int32) from fun z => q (srt_3.mp ((nI_eq (b := 3) (by omega) (by decide)).mp z)))]
      exact ⟨fun _ z => q z.1, fun _ => rfl⟩
  · intro z
    have := z.2
    rw [hc, if_neg (by omega)]
theorem m_numb {T : Tpe} {s lim : Nat} {M : Mem} (hT : okT T) (hs : s ≤ T.1) (hl : lim ≤ 1000) (h : MTk T s 0 M) : ∃ M', fX6_number 0 (nI lim - 1) M = some M' ∧ F49 M M' ∧ ((nb T s lim ∧ MTk T (adv T s) 0 M' ∧ M'.1 49 11 = nI (mnum T s)) ∨ (¬ nb T s lim ∧ MTk T s 1 M')) := by
  have hT1 := hT.1
  have hm : mnum T s ≤ 10000 := mnR_lt hT (120 - s) s 0 (by decide)
  unfold fX6_number
  rw [h.2.2.2.1, if_pos rfl, h.2.1, m_ba hT h.1 h.2.2.2.2 (by omega), Option.bind_some, ba_D hT]
  by_cases q : s < T.1 ∧ isD (T.2 s) = true
  · rw [if_pos q]
    have h10 : M.1 49 10 = nI (run T isD (120 - s) s) := by rw [h.2.2.1, tkE_D q]; rfl
    have hn := m_n29 (kx := fun u12 => ((fX6_wants (if (1 : Int32) = 0 then (0 : Int32) else (if (fX6_in ((u12).toInt64) (((0 : Int32)).toInt64) (((nI lim - 1)).toInt64)) = 0 then (0 : Int32) else (1 : Int32))) (setI M 49 11 u12)).bind fun w15 => some w15)) (y1 := 0) (y2 := nI lim - 1) hT h.2.2.2.2 (120 - s) s FU 0 (by decide) h10 (by omega) (by unfold FU; omega)
    have hn2 : fX6_number_29 (fun u12 => ((fX6_wants (if (1 : Int32) = 0 then (0 : Int32) else (if (fX6_in ((u12).toInt64) (((0 : Int32)).toInt64) (((nI lim - 1)).toInt64)) = 0 then (0 : Int32) else (1 : Int32))) (setI M 49 11 u12)).bind fun w15 => some w15)) 0 (nI lim - 1) 1 M FU (0 : Int32) (nI s) = _ := hn
    rw [hn2, if_neg (by decide)]
    have hin : fX6_in (nI (mnR T (120 - s) s 0)).toInt64 ((0 : Int32)).toInt64 ((nI lim - 1)).toInt64 = if mnum T s < lim then 1 else 0 := by
      refine (in_x (nI (mnum T s)) (n := lim) (nI_sub1 (by omega))).trans ?_
      rw [okx_n (by omega)]
      by_cases w : mnum T s < lim
      · rw [if_pos (decide_eq_true w), if_pos w]
      · rw [if_neg (fun z => w (of_decide_eq_true z)), if_neg w]
    rw [hin]
    have hq := MTk_sl (v := nI (mnR T (120 - s) s 0)) h rfl
    by_cases w : mnum T s < lim
    · rw [if_neg (b1 w)]
      obtain ⟨M', p, r, f, v⟩ := m_w1 hT hs hq
      exact ⟨M', by rw [p]; rfl, F49_tr (F49_set _ _ (by decide)) f, Or.inl ⟨⟨q, w⟩, r, by rw [v, sI_s]; rfl⟩⟩
    · rw [if_pos (b0 w)]
      obtain ⟨M', p, r, f, v⟩ := m_w0 hq
      exact ⟨M', by rw [p]; rfl, F49_tr (F49_set _ _ (by decide)) f, Or.inr ⟨fun z => w z.2, r⟩⟩
  · rw [if_neg q]
    have hn : fX6_number_29 (fun u12 => ((fX6_wants (if (0 : Int32) = 0 then (0 : Int32) else (if (fX6_in ((u12).toInt64) (((0 : Int32)).toInt64) (((nI lim - 1)).toInt64)) = 0 then (0 : Int32) else (1 : Int32))) (setI M 49 11 u12)).bind fun w15 => some w15)) 0 (nI lim - 1) 0 M FU (0 : Int32) (nI s) = ((fX6_wants 0 (setI M 49 11 0)).bind fun w15 => some w15) := by
      show fX6_number_29 _ 0 (nI lim - 1) 0 M (999 + 1) (0 : Int32) (nI s) = _
      rw [fX6_number_29]
      by_cases w : M.1 49 10 ≤ nI s
      · rw [if_pos w, if_pos rfl]
      · rw [if_neg w, if_pos rfl, if_pos rfl]
    rw [hn]
    obtain ⟨M', p, r, f, v⟩ := m_w0 (MTk_sl (v := 0) h rfl)
    exact ⟨M', by rw [p]; rfl, F49_tr (F49_set _ _ (by decide)) f, Or.inr ⟨fun z => q z.1, r⟩⟩
theorem m_numw {T : Tpe} {s : Nat} {M : Mem} (h : MTk T s 1 M) (x y : Int32) : fX6_number x y M = some M := by
  unfold fX6_number
  rw [h.2.2.2.1, if_neg (by decide)]
