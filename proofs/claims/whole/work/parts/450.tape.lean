/-! MATHS: tokens on the tape -/
abbrev Tpe : Type := Nat × (Nat → Nat)
def isL (b : Nat) : Bool := decide (97 ≤ b ∧ b ≤ 122)
def isD (b : Nat) : Bool := decide (48 ≤ b ∧ b ≤ 57)
def isB (b : Nat) : Bool := decide (b = 32)
def run (T : Tpe) (p : Nat → Bool) : Nat → Nat → Nat
  | 0, i => i
  | m + 1, i => if i < T.1 ∧ p (T.2 i) = true then run T p m (i + 1) else i
def rn1 (T : Tpe) (p : Nat → Bool) (i : Nat) : Nat := run T p (120 - i) i
def okT (T : Tpe) : Prop := T.1 ≤ 120 ∧ ∀ i, i < T.1 → T.2 i < 256
theorem run_ge (T : Tpe) (p : Nat → Bool) (m : Nat) : ∀ i, i ≤ run T p m i := by
  induction m with
  | zero => intro i; exact Nat.le_refl _
  | succ m ih =>
    intro i
    show i ≤ if i < T.1 ∧ p (T.2 i) = true then run T p m (i + 1) else i
    split
    · exact Nat.le_trans (Nat.le_succ i) (ih (i + 1))
    · exact Nat.le_refl _
theorem run_le (T : Tpe) (p : Nat → Bool) (m : Nat) : ∀ i, i ≤ T.1 → run T p m i ≤ T.1 := by
  induction m with
  | zero => intro i h; exact h
  | succ m ih =>
    intro i h
    show (if i < T.1 ∧ p (T.2 i) = true then run T p m (i + 1) else i) ≤ T.1
    split
    · next q => exact ih (i + 1) q.1
    · exact h
theorem run_all (T : Tpe) (p : Nat → Bool) (m : Nat) : ∀ i j, i ≤ j → j < run T p m i → j < T.1 ∧ p (T.2 j) = true := by
  induction m with
  | zero => intro i j h1 h2; exact absurd h2 (Nat.not_lt.mpr h1)
  | succ m ih =>
    intro i j h1 h2
    have h2 : j < if i < T.1 ∧ p (T.2 i) = true then run T p m (i + 1) else i := h2
    by_cases q : i < T.1 ∧ p (T.2 i) = true
    · rw [if_pos q] at h2
      by_cases qj : j = i
      · rw [qj]; exact q
      · exact ih (i + 1) j (by omega) h2
    · rw [if_neg q] at h2; omega
theorem run_y {T : Tpe} {p : Nat → Bool} {m i : Nat} (h : i < T.1 ∧ p (T.2 i) = true) : run T p (m + 1) i = run T p m (i + 1) := if_pos h
theorem run_n {T : Tpe} {p : Nat → Bool} {m i : Nat} (h : ¬ (i < T.1 ∧ p (T.2 i) = true)) : run T p m i = i := by
  cases m with
  | zero => rfl
  | succ m => exact if_neg h
def sk (T : Tpe) (e : Nat) : Nat := rn1 T isB e
def tkE (T : Tpe) (s : Nat) : Nat := if s < T.1 then (if isL (T.2 s) = true then rn1 T isL s else if isD (T.2 s) = true then rn1 T isD s else s + 1) else s
def srt (T : Tpe) (s : Nat) : Nat := if s < T.1 then (if isL (T.2 s) = true then 2 else if isD (T.2 s) = true then 3 else if T.2 s = 59 then 1 else 4) else 0
def adv (T : Tpe) (s : Nat) : Nat := sk T (tkE T s)
theorem sk_le {T : Tpe} {e : Nat} (h : e ≤ T.1) : sk T e ≤ T.1 := run_le T isB _ e h
theorem sk_ge (T : Tpe) (e : Nat) : e ≤ sk T e := run_ge T isB _ e
theorem rn1_gt {T : Tpe} (hT : okT T) {p : Nat → Bool} {i : Nat} (h : i < T.1 ∧ p (T.2 i) = true) : rn1 T p i = run T p (120 - (i + 1)) (i + 1) := by
  have := hT.1
  unfold rn1
  rw [show 120 - i = (120 - (i + 1)) + 1 by omega]; exact run_y h
theorem tkE_le {T : Tpe} {s : Nat} (h : s ≤ T.1) : tkE T s ≤ T.1 := by
  unfold tkE
  split
  · split
    · exact run_le T isL _ s h
    · split
      · exact run_le T isD _ s h
      · omega
  · exact h
theorem tkE_gt {T : Tpe} (hT : okT T) {s : Nat} (h : s < T.1) : s < tkE T s := by
  unfold tkE
  rw [if_pos h]
  by_cases q : isL (T.2 s) = true
  · rw [if_pos q, rn1_gt hT ⟨h, q⟩]; exact run_ge T isL _ (s + 1)
  · rw [if_neg q]
    by_cases q2 : isD (T.2 s) = true
    · rw [if_pos q2, rn1_gt hT ⟨h, q2⟩]; exact run_ge T isD _ (s + 1)
    · rw [if_neg q2]; omega
theorem tkE_ge {T : Tpe} (hT : okT T) {s : Nat} (h : s ≤ T.1) : s ≤ tkE T s := by
  by_cases q : s < T.1
  · exact Nat.le_of_lt (tkE_gt hT q)
  · unfold tkE; rw [if_neg q]; exact Nat.le_refl _
theorem adv_le {T : Tpe} {s : Nat} (h : s ≤ T.1) : adv T s ≤ T.1 := sk_le (tkE_le h)
theorem adv_gt {T : Tpe} (hT : okT T) {s : Nat} (h : s < T.1) : s < adv T s := Nat.lt_of_lt_of_le (tkE_gt hT h) (sk_ge T _)
theorem adv_ge {T : Tpe} (hT : okT T) {s : Nat} (h : s ≤ T.1) : s ≤ adv T s := Nat.le_trans (tkE_ge hT h) (sk_ge T _)
theorem LD {b : Nat} (h : isL b = true) : isD b = false := by
  have h := of_decide_eq_true h
  exact decide_eq_false (by omega)
/-! the class's tape -/
def BT (c : Nat) (T : Tpe) (M : Mem) : Prop := ∀ i, i < T.1 → M.1 c i = nI (T.2 i)
theorem c_let : ∀ b, b < 256 → fX2_isLetter (nI b) = if isL b = true then 1 else 0 := by decide +kernel
theorem c_dig : ∀ b, b < 256 → fX2_isDigit (nI b) = if isD b = true then 1 else 0 := by decide +kernel
theorem m_let : ∀ b, b < 256 → fX6_isLetter (nI b) = if isL b = true then 1 else 0 := by decide +kernel
theorem m_dig : ∀ b, b < 256 → fX6_isDigit (nI b) = if isD b = true then 1 else 0 := by decide +kernel
theorem c_a8 {ρ : Type} {kx : Mem → Option ρ} {T : Tpe} (hT : okT T) (m : Nat) : ∀ (i n : Nat) (M : Mem), M.1 36 0 = nI T.1 → M.1 36 2 = nI i → BT 37 T M → i + m = 120 → m < n → ∃ M', fX2_advance_8 kx n M = kx M' ∧ One 36 M M' ∧ (∀ j, j ≠ 2 → M'.1 36 j = M.1 36 j) ∧ M'.1 36 2 = nI (run T isB m i) := by
  have hT1 := hT.1
  induction m with
  | zero =>
    intro i n M h0 h2 hb e h
    obtain ⟨n, rfl⟩ : ∃ k, n = k + 1 := ⟨n - 1, by omega⟩
    exact ⟨M, by rw [fX2_advance_8, h0, h2, if_pos ((nI_leI (by omega) (by omega)).mpr (by omega))], One_rf _ _, fun _ _ => rfl, h2⟩
  | succ m ih =>
    intro i n M h0 h2 hb e h
    obtain ⟨n, rfl⟩ : ∃ k, n = k + 1 := ⟨n - 1, by omega⟩
    rw [fX2_advance_8, h0, h2]
    by_cases q : i < T.1
    · have hv := hT.2 i q
      rw [if_neg (nI_ge q (by omega)), ldI_n (by omega) (by decide), Option.bind_some, hb i q]
      by_cases q2 : T.2 i = 32
      · obtain ⟨M', k1, k2, k3, k4⟩ := ih (i + 1) n (setI M 36 2 (nI (i + 1))) (by rw [sI_j _ _ (by decide)]; exact h0) (sI_s _ _ _ _) (fun x hx => by rw [sI_c _ _ _ (by decide)]; exact hb x hx) (by omega) (by omega)
        refine ⟨M', ?_, One_tr (One_set _ _ _ _) k2, fun j hj => by rw [k3 j hj, sI_j _ _ hj], ?_⟩
        · rw [q2, if_pos (show nI 32 = (32 : Int32) from rfl), nI_1]; exact k1
        · rw [k4, run_y ⟨q, decide_eq_true q2⟩]
      · refine ⟨M, by rw [if_neg (show ¬ nI (T.2 i) = (32 : Int32) from fun z => q2 ((nI_eq (b := 32) (by omega) (by decide)).mp z))], One_rf _ _, fun _ _ => rfl, ?_⟩
        rw [h2, run_n (fun z => q2 (of_decide_eq_true z.2))]
    · refine ⟨M, by rw [if_pos ((nI_leI (by omega) (by omega)).mpr (by omega))], One_rf _ _, fun _ _ => rfl, ?_⟩
      rw [h2, run_n (fun z => q z.1)]
theorem c_a59 {ρ : Type} {kx : Mem → Option ρ} {T : Tpe} (hT : okT T) (m : Nat) : ∀ (i n : Nat) (M : Mem), M.1 36 0 = nI T.1 → M.1 36 4 = nI i → BT 37 T M → i + m = 120 → m < n → ∃ M', fX2_advance_59 kx n M = kx M' ∧ One 36 M M' ∧ (∀ j, j ≠ 4 → M'.1 36 j = M.1 36 j) ∧ M'.1 36 4 = nI (run T isL m i) := by
  have hT1 := hT.1
  induction m with
  | zero =>
    intro i n M h0 h2 hb e h
    obtain ⟨n, rfl⟩ : ∃ k, n = k + 1 := ⟨n - 1, by omega⟩
    exact ⟨M, by rw [fX2_advance_59, h0, h2, if_pos ((nI_leI (by omega) (by omega)).mpr (by omega))], One_rf _ _, fun _ _ => rfl, h2⟩
  | succ m ih =>
    intro i n M h0 h2 hb e h
    obtain ⟨n, rfl⟩ : ∃ k, n = k + 1 := ⟨n - 1, by omega⟩
    rw [fX2_advance_59, h0, h2]
    by_cases q : i < T.1
    · have hv := hT.2 i q
      rw [if_neg (nI_ge q (by omega)), ldI_n (by omega) (by decide), Option.bind_some, hb i q, c_let _ hv]
      by_cases q2 : isL (T.2 i) = true
      · obtain ⟨M', k1, k2, k3, k4⟩ := ih (i + 1) n (setI M 36 4 (nI (i + 1))) (by rw [sI_j _ _ (by decide)]; exact h0) (sI_s _ _ _ _) (fun x hx => by rw [sI_c _ _ _ (by decide)]; exact hb x hx) (by omega) (by omega)
        refine ⟨M', ?_, One_tr (One_set _ _ _ _) k2, fun j hj => by rw [k3 j hj, sI_j _ _ hj], ?_⟩
        · rw [if_neg (b1 q2), nI_1]; exact k1
        · rw [k4, run_y ⟨q, q2⟩]
      · refine ⟨M, by rw [if_pos (b0 q2)], One_rf _ _, fun _ _ => rfl, ?_⟩
        rw [h2, run_n (fun z => q2 z.2)]
    · refine ⟨M, by rw [if_pos ((nI_leI (by omega) (by omega)).mpr (by omega))], One_rf _ _, fun _ _ => rfl, ?_⟩
      rw [h2, run_n (fun z => q z.1)]
def cnR (T : Tpe) : Nat → Nat → Nat → Nat
  | 0, _, v => v
  | m + 1, i, v => if i < T.1 ∧ isD (T.2 i) = true then cnR T m (i + 1) (if 1000 < v * 10 + T.2 i - 48 then 1000 else v * 10 + T.2 i - 48) else v
theorem cnR_n {T : Tpe} {m i v : Nat} (h : ¬ (i < T.1 ∧ isD (T.2 i) = true)) : cnR T m i v = v := by
  cases m with
  | zero => rfl
  | succ m => exact if_neg h
theorem cnR_y {T : Tpe} {m i v : Nat} (h : i < T.1 ∧ isD (T.2 i) = true) : cnR T (m + 1) i v = cnR T m (i + 1) (if 1000 < v * 10 + T.2 i - 48 then 1000 else v * 10 + T.2 i - 48) := if_pos h
theorem c_a115 {ρ : Type} {kx : Mem → Option ρ} {T : Tpe} (hT : okT T) (m : Nat) : ∀ (i n v : Nat) (M : Mem), v ≤ 1000 → M.1 36 0 = nI T.1 → M.1 36 4 = nI i → M.1 36 3 = nI v → BT 37 T M → i + m = 120 → m < n → ∃ M', fX2_advance_115 kx n M = kx M' ∧ One 36 M M' ∧ (∀ j, j ≠ 3 → j ≠ 4 → M'.1 36 j = M.1 36 j) ∧ M'.1 36 3 = nI (cnR T m i v) ∧ M'.1 36 4 = nI (run T isD m i) := by
  have hT1 := hT.1
  induction m with
  | zero =>
    intro i n v M hv h0 h2 h3 hb e h
    obtain ⟨n, rfl⟩ : ∃ k, n = k + 1 := ⟨n - 1, by omega⟩
    exact ⟨M, by rw [fX2_advance_115, h0, h2, if_pos ((nI_leI (by omega) (by omega)).mpr (by omega))], One_rf _ _, fun _ _ _ => rfl, h3, h2⟩
  | succ m ih =>
    intro i n v M hv h0 h2 h3 hb e h
    obtain ⟨n, rfl⟩ : ∃ k, n = k + 1 := ⟨n - 1, by omega⟩
    rw [fX2_advance_115, h0, h2, h3]
    by_cases q : i < T.1
    · have hbt := hT.2 i q
      rw [if_neg (nI_ge q (by omega)), ldI_n (by omega) (by decide), Option.bind_some, hb i q, c_dig _ hbt, Option.bind_some]
      by_cases q2 : isD (T.2 i) = true
      · have hd := of_decide_eq_true q2
        have en : imn (((nI v * (10 : Int32)) + nI (T.2 i)) - (48 : Int32)) (1000 : Int32) = nI (if 1000 < v * 10 + T.2 i - 48 then 1000 else v * 10 + T.2 i - 48) := by
          have e1 : ((nI v * (10 : Int32)) + nI (T.2 i)) - (48 : Int32) = nI (v * 10 + T.2 i - 48) := by
            show (nI v * nI 10 + nI (T.2 i)) - nI 48 = _
            rw [pk_mul, nI_add, pk_sub (by omega)]
          rw [e1]
          unfold imn
          have hlt : (1000 : Int32) < nI (v * 10 + T.2 i - 48) ↔ 1000 < v * 10 + T.2 i - 48 := nI_ltI (a := 1000) (by decide) (by omega)
          by_cases w : 1000 < v * 10 + T.2 i - 48
          · rw [if_pos (hlt.mpr w), if_pos w]; rfl
          · rw [if_neg (fun z => w (hlt.mp z)), if_neg w]
        rw [if_neg (b1 q2), en, sI_j _ _ (by decide), h2, nI_1]
        obtain ⟨M', k1, k2, k3, k4, k5⟩ := ih (i + 1) n (if 1000 < v * 10 + T.2 i - 48 then 1000 else v * 10 + T.2 i - 48) (setI (setI M 36 3 (nI (if 1000 < v * 10 + T.2 i - 48 then 1000 else v * 10 + T.2 i - 48))) 36 4 (nI (i + 1))) (by split <;> omega) (by rw [sI_j _ _ (by decide), sI_j _ _ (by decide)]; exact h0) (sI_s _ _ _ _) (by rw [sI_j _ _ (by decide), sI_s]) (fun x hx => by rw [sI_c _ _ _ (by decide), sI_c _ _ _ (by decide)]; exact hb x hx) (by omega) (by omega)
        refine ⟨M', k1, One_tr (One_tr (One_set _ _ _ _) (One_set _ _ _ _)) k2, fun j hj hj2 => by rw [k3 j hj hj2, sI_j _ _ hj2, sI_j _ _ hj], ?_, ?_⟩
        · rw [k4, cnR_y ⟨q, q2⟩]
        · rw [k5, run_y ⟨q, q2⟩]
      · refine ⟨M, by rw [if_pos (b0 q2)], One_rf _ _, fun _ _ _ => rfl, ?_, ?_⟩
        · rw [h3, cnR_n (fun z => q2 z.2)]
        · rw [h2, run_n (fun z => q2 z.2)]
    · refine ⟨M, by rw [if_pos ((nI_leI (by omega) (by omega)).mpr (by omega))], One_rf _ _, fun _ _ _ => rfl, ?_, ?_⟩
      · rw [h3, cnR_n (fun z => q z.1)]
      · rw [h2, run_n (fun z => q z.1)]
def cnum (T : Tpe) (s : Nat) : Nat := cnR T (120 - s) s 0
/-- the class's tape stands at a token -/
def CT (T : Tpe) (s : Nat) (M : Mem) : Prop := M.1 36 0 = nI T.1 ∧ M.1 36 1 = nI (srt T s) ∧ M.1 36 2 = nI s ∧ M.1 36 3 = nI (cnum T s) ∧ M.1 36 4 = nI (tkE T s) ∧ BT 37 T M
theorem c_advE {T : Tpe} {e : Nat} {M : Mem} (hT : okT T) (he : e ≤ T.1) (h0 : M.1 36 0 = nI T.1) (h4 : M.1 36 4 = nI e) (hb : BT 37 T M) : ∃ M', fX2_advance M = some M' ∧ CT T (sk T e) M' ∧ One 36 M M' := by
  have hT1 := hT.1
  unfold fX2_advance
  rw [h4]
  obtain ⟨M1, p1, o1, j1, v1⟩ := c_a8 (kx := fun M5 => (fX2_advance_59 (fun M10 => (if (M10.1 36 4) ≤ (M10.1 36 2) then (fX2_advance_115 (fun M18 => (if (M18.1 36 4) ≤ (M18.1 36 2) then (if (M18.1 36 2) < (M18.1 36 0) then ((ldI M18 37 120 (M18.1 36 2)).bind fun v21 => some (setI (setI M18 36 1 (if v21 = (59 : Int32) then (1 : Int32) else (4 : Int32))) 36 4 (((setI M18 36 1 (if v21 = (59 : Int32) then (1 : Int32) else (4 : Int32))).1 36 4) + (1 : Int32)))) else some (setI M18 36 1 (0 : Int32))) else some (setI M18 36 1 (3 : Int32)))) FU M10) else some (setI M10 36 1 (2 : Int32)))) FU (setI (setI M5 36 4 (M5.1 36 2)) 36 3 (0 : Int32)))) hT (120 - e) e FU (setI M 36 2 (nI e)) (by rw [sI_j _ _ (by decide)]; exact h0) (sI_s _ _ _ _) (fun x hx => by rw [sI_c _ _ _ (by decide)]; exact hb x hx) (by omega) (by unfold FU; omega)
  have v1 : M1.1 36 2 = nI (sk T e) := v1
  have hs := sk_le he
  generalize sk T e = s at v1 hs ⊢
  have z1 : M1.1 36 0 = nI T.1 := by rw [j1 0 (by decide), sI_j _ _ (by decide)]; exact h0
  have bb1 : BT 37 T M1 := fun x hx => by rw [o1.1 37 (by decide), sI_c _ _ _ (by decide)]; exact hb x hx
  have w2 : M1.1 36 2 = nI s := v1
  rw [p1]
  show ∃ M', fX2_advance_59 _ FU (setI (setI M1 36 4 (M1.1 36 2)) 36 3 (0 : Int32)) = some M' ∧ _
  rw [w2]
  let Ma := setI (setI M1 36 4 (nI s)) 36 3 (0 : Int32)
  have a0 : Ma.1 36 0 = nI T.1 := by show (setI (setI M1 36 4 (nI s)) 36 3 (0 : Int32)).1 36 0 = _; rw [sI_j _ _ (by decide), sI_j _ _ (by decide)]; exact z1
  have a2 : Ma.1 36 2 = nI s := by show (setI (setI M1 36 4 (nI s)) 36 3 (0 : Int32)).1 36 2 = _; rw [sI_j _ _ (by decide), sI_j _ _ (by decide)]; exact w2
  have a3 : Ma.1 36 3 = nI 0 := sI_s _ _ _ _
  have a4 : Ma.1 36 4 = nI s := by show (setI (setI M1 36 4 (nI s)) 36 3 (0 : Int32)).1 36 4 = _; rw [sI_j _ _ (by decide), sI_s]
  have ab : BT 37 T Ma := fun x hx => by show (setI (setI M1 36 4 (nI s)) 36 3 (0 : Int32)).1 37 x = _; rw [sI_c _ _ _ (by decide), sI_c _ _ _ (by decide)]; exact bb1 x hx
  have oa : One 36 M Ma := One_tr (One_tr (One_set _ _ _ _) o1) (One_tr (One_set _ _ _ _) (One_set _ _ _ _))
  obtain ⟨M2, p2, o2, j2, v2⟩ := c_a59 (kx := fun M10 => (if (M10.1 36 4) ≤ (M10.1 36 2) then (fX2_advance_115 (fun M18 => (if (M18.1 36 4) ≤ (M18.1 36 2) then (if (M18.1 36 2) < (M18.1 36 0) then ((ldI M18 37 120 (M18.1 36 2)).bind fun v21 => some (setI (setI M18 36 1 (if v21 = (59 : Int32) then (1 : Int32) else (4 : Int32))) 36 4 (((setI M18 36 1 (if v21 = (59 : Int32) then (1 : Int32) else (4 : Int32))).1 36 4) + (1 : Int32)))) else some (setI M18 36 1 (0 : Int32))) else some (setI M18 36 1 (3 : Int32)))) FU M10) else some (setI M10 36 1 (2 : Int32)))) hT (120 - s) s FU Ma a0 a4 ab (by omega) (by unfold FU; omega)
  have v2 : M2.1 36 4 = nI (rn1 T isL s) := v2
  have b0' : M2.1 36 0 = nI T.1 := (j2 0 (by decide)).trans a0
  have b2' : M2.1 36 2 = nI s := (j2 2 (by decide)).trans a2
  have b3' : M2.1 36 3 = nI 0 := (j2 3 (by decide)).trans a3
  have bb2 : BT 37 T M2 := fun x hx => by rw [o2.1 37 (by decide)]; exact ab x hx
  have ob := One_tr oa o2
  refine (show ∃ M', fX2_advance_59 _ FU Ma = some M' ∧ CT T s M' ∧ One 36 M M' from ?_)
  rw [p2]
  show ∃ M', (if (M2.1 36 4) ≤ (M2.1 36 2) then _ else _) = some M' ∧ _
  rw [v2, b2']
  by_cases qL : s < T.1 ∧ isL (T.2 s) = true
  · have hgt : s < rn1 T isL s := by rw [rn1_gt hT qL]; exact run_ge T isL _ (s + 1)
    have hle : rn1 T isL s ≤ T.1 := run_le T isL _ s hs
    rw [if_neg (nI_ge hgt (by omega))]
    refine ⟨_, rfl, ⟨by rw [sI_j _ _ (by decide)]; exact b0', ?_, by rw [sI_j _ _ (by decide)]; exact b2', ?_, ?_, fun x hx => by rw [sI_c _ _ _ (by decide)]; exact bb2 x hx⟩, One_tr ob (One_set _ _ _ _)⟩
    · rw [sI_s]; unfold srt; rw [if_pos qL.1, if_pos qL.2]; rfl
    · rw [sI_j _ _ (by decide), b3']
      unfold cnum
      rw [cnR_n (fun z => by rw [LD qL.2] at z; exact absurd z.2 (by decide))]
    · rw [sI_j _ _ (by decide), v2]; unfold tkE; rw [if_pos qL.1, if_pos qL.2]
  · have hrn : rn1 T isL s = s := run_n qL
    rw [hrn, if_pos (Int32.le_refl _)]
    obtain ⟨M3, p3, o3, j3, v3, v4⟩ := c_a115 (kx := fun M18 => (if (M18.1 36 4) ≤ (M18.1 36 2) then (if (M18.1 36 2) < (M18.1 36 0) then ((ldI M18 37 120 (M18.1 36 2)).bind fun v21 => some (setI (setI M18 36 1 (if v21 = (59 : Int32) then (1 : Int32) else (4 : Int32))) 36 4 (((setI M18 36 1 (if v21 = (59 : Int32) then (1 : Int32) else (4 : Int32))).1 36 4) + (1 : Int32)))) else some (setI M18 36 1 (0 : Int32))) else some (setI M18 36 1 (3 : Int32)))) hT (120 - s) s FU 0 M2 (by decide) b0' (by rw [v2, hrn]) b3' bb2 (by omega) (by unfold FU; omega)
    have v3 : M3.1 36 3 = nI (cnum T s) := v3
    have v4 : M3.1 36 4 = nI (rn1 T isD s) := v4
    have c0 : M3.1 36 0 = nI T.1 := (j3 0 (by decide) (by decide)).trans b0'
    have c2 : M3.1 36 2 = nI s := (j3 2 (by decide) (by decide)).trans b2'
    have bb3 : BT 37 T M3 := fun x hx => by rw [o3.1 37 (by decide)]; exact bb2 x hx
    have oc := One_tr ob o3
    rw [p3]
    show ∃ M', (if (M3.1 36 4) ≤ (M3.1 36 2) then _ else _) = some M' ∧ _
    rw [v4, c2, c0]
    by_cases qD : s < T.1 ∧ isD (T.2 s) = true
    · have hgt : s < rn1 T isD s := by rw [rn1_gt hT qD]; exact run_ge T isD _ (s + 1)
      have hle : rn1 T isD s ≤ T.1 := run_le T isD _ s hs
      have nL : ¬ isL (T.2 s) = true := fun z => qL ⟨qD.1, z⟩
      rw [if_neg (nI_ge hgt (by omega))]
      refine ⟨_, rfl, ⟨by rw [sI_j _ _ (by decide)]; exact c0, ?_, by rw [sI_j _ _ (by decide)]; exact c2, by rw [sI_j _ _ (by decide)]; exact v3, ?_, fun x hx => by rw [sI_c _ _ _ (by decide)]; exact bb3 x hx⟩, One_tr oc (One_set _ _ _ _)⟩
      · rw [sI_s]; unfold srt; rw [if_pos qD.1, if_neg nL, if_pos qD.2]; rfl
      · rw [sI_j _ _ (by decide), v4]; unfold tkE; rw [if_pos qD.1, if_neg nL, if_pos qD.2]
    · have hrd : rn1 T isD s = s := run_n qD
      rw [hrd, if_pos (Int32.le_refl _)]
      by_cases qs : s < T.1
      · have hbt := hT.2 s qs
        have nL : ¬ isL (T.2 s) = true := fun z => qL ⟨qs, z⟩
        have nD : ¬ isD (T.2 s) = true := fun z => qD ⟨qs, z⟩
        rw [if_pos (nI_lt qs (by omega)), ldI_n (by omega) (by decide), Option.bind_some, bb3 s qs, sI_j _ _ (by decide), v4, hrd, nI_1]
        refine ⟨_, rfl, ⟨by rw [sI_j _ _ (by decide), sI_j _ _ (by decide)]; exact c0, ?_, by rw [sI_j _ _ (by decide), sI_j _ _ (by decide)]; exact c2, by rw [sI_j _ _ (by decide), sI_j _ _ (by decide)]; exact v3, ?_, fun x hx => by rw [sI_c _ _ _ (by decide), sI_c _ _ _ (by decide)]; exact bb3 x hx⟩, One_tr oc (One_tr (One_set _ _ _ _) (One_set _ _ _ _))⟩
        · rw [sI_j _ _ (by decide), sI_s]
          unfold srt
          rw [if_pos qs, if_neg nL, if_neg nD]
          by_cases w : T.2 s = 59
          · rw [w, if_pos (show nI 59 = (59 : Int32) from rfl), if_pos rfl]; rfl
          · rw [if_neg (show ¬ nI (T.2 s) = (59 : Int32) from fun z => w ((nI_eq (b := 59) (by omega) (by decide)).mp z)), if_neg w]; rfl
        · rw [sI_s]; unfold tkE; rw [if_pos qs, if_neg nL, if_neg nD]
      · rw [if_neg (show ¬ nI s < nI T.1 from nI_nlt (by omega) (by omega))]
        refine ⟨_, rfl, ⟨by rw [sI_j _ _ (by decide)]; exact c0, ?_, by rw [sI_j _ _ (by decide)]; exact c2, by rw [sI_j _ _ (by decide)]; exact v3, ?_, fun x hx => by rw [sI_c _ _ _ (by decide)]; exact bb3 x hx⟩, One_tr oc (One_set _ _ _ _)⟩
        · rw [sI_s]; unfold srt; rw [if_neg qs]; rfl
        · rw [sI_j _ _ (by decide), v4, hrd]; unfold tkE; rw [if_neg qs]
theorem c_adv {T : Tpe} {s : Nat} {M : Mem} (hT : okT T) (hs : s ≤ T.1) (h : CT T s M) : ∃ M', fX2_advance M = some M' ∧ CT T (adv T s) M' ∧ One 36 M M' := c_advE hT (tkE_le hs) h.1 h.2.2.2.2.1 h.2.2.2.2.2
