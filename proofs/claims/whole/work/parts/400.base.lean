/-! MATHS: numbers, loads, stores -/
theorem inb_n {k n : Nat} (h : k < n) (hn : n < 2 ^ 31) : inb (nI k) n = true := decide_eq_true (vp_in_nI h hn)
theorem ix_n {k : Nat} (h : k < 2 ^ 31) : ix (nI k) = k := nI_clamp h
theorem ldI_n {M : Mem} {c n k : Nat} (h : k < n) (hn : n < 2 ^ 31) : ldI M c n (nI k) = some (M.1 c k) := by
  unfold ldI; rw [if_pos (inb_n h hn), ix_n (Nat.lt_trans h hn)]
theorem ldJ_n {M : Mem} {c n k : Nat} (h : k < n) (hn : n < 2 ^ 31) : ldJ M c n (nI k) = some (M.2 c k) := by
  unfold ldJ; rw [if_pos (inb_n h hn), ix_n (Nat.lt_trans h hn)]
theorem stI_n {M : Mem} {c n k : Nat} {x : Int32} (h : k < n) (hn : n < 2 ^ 31) : stI M c n (nI k) x = some (setI M c k x) := by
  unfold stI; rw [if_pos (inb_n h hn), ix_n (Nat.lt_trans h hn)]
theorem stJ_n {M : Mem} {c n k : Nat} {x : Int64} (h : k < n) (hn : n < 2 ^ 31) : stJ M c n (nI k) x = some (setJ M c k x) := by
  unfold stJ; rw [if_pos (inb_n h hn), ix_n (Nat.lt_trans h hn)]
theorem ldW_n {r k : Nat} (h : k < 6) : ldW r (nI k) = some (r + 2 + k) := by
  unfold ldW; rw [if_pos (inb_n h (by decide)), ix_n (by omega)]
theorem ldS_n {k : Nat} (h : k < 4) : ldS (nI k) = some (40 + 2 * k) := by
  unfold ldS; rw [if_pos (inb_n h (by decide)), ix_n (by omega)]
theorem sI_s (M : Mem) (c j : Nat) (v : Int32) : (setI M c j v).1 c j = v := by simp [setI, upd]
theorem sI_j (M : Mem) {c j i : Nat} (v : Int32) (h : i ≠ j) : (setI M c j v).1 c i = M.1 c i := by simp [setI, upd, h]
theorem sI_c (M : Mem) {c a : Nat} (j : Nat) (v : Int32) (h : a ≠ c) : (setI M c j v).1 a = M.1 a := by simp [setI, h]
theorem sI_2 (M : Mem) (c j : Nat) (v : Int32) : (setI M c j v).2 = M.2 := rfl
theorem sJ_s (M : Mem) (c j : Nat) (v : Int64) : (setJ M c j v).2 c j = v := by simp [setJ, vp_updL]
theorem sJ_j (M : Mem) {c j i : Nat} (v : Int64) (h : i ≠ j) : (setJ M c j v).2 c i = M.2 c i := by simp [setJ, vp_updL, h]
theorem sJ_c (M : Mem) {c a : Nat} (j : Nat) (v : Int64) (h : a ≠ c) : (setJ M c j v).2 a = M.2 a := by simp [setJ, h]
theorem sJ_1 (M : Mem) (c j : Nat) (v : Int64) : (setJ M c j v).1 = M.1 := rfl
theorem sI_if (M : Mem) (c j a i : Nat) (v : Int32) : (setI M c j v).1 a i = if a = c ∧ i = j then v else M.1 a i := by
  by_cases h : a = c
  · subst h
    by_cases h2 : i = j
    · subst h2; rw [sI_s, if_pos ⟨rfl, rfl⟩]
    · rw [sI_j M v h2, if_neg (fun q => h2 q.2)]
  · rw [sI_c M j v h, if_neg (fun q => h q.1)]
theorem sJ_if (M : Mem) (c j a i : Nat) (v : Int64) : (setJ M c j v).2 a i = if a = c ∧ i = j then v else M.2 a i := by
  by_cases h : a = c
  · subst h
    by_cases h2 : i = j
    · subst h2; rw [sJ_s, if_pos ⟨rfl, rfl⟩]
    · rw [sJ_j M v h2, if_neg (fun q => h2 q.2)]
  · rw [sJ_c M j v h, if_neg (fun q => h q.1)]
/-- an argument within 0 .. n-1; within lo .. hi -/
def okx (n : Nat) (x : Int32) : Bool := decide (0 ≤ x.toInt ∧ x.toInt < (n : Int))
def okr (lo hi : Int) (x : Int32) : Bool := decide (lo ≤ x.toInt ∧ x.toInt ≤ hi)
theorem okx_t {n : Nat} {x : Int32} (hn : n < 2 ^ 31) (h : okx n x = true) : ∃ a, a < n ∧ x = nI a := by
  have h := of_decide_eq_true h
  exact vp_in_of (vp_in_iff.mpr h) hn
theorem okx_n {n a : Nat} (ha : a < 2 ^ 31) : okx n (nI a) = decide (a < n) := by
  unfold okx; rw [nI_toInt ha]
  by_cases h : a < n
  · rw [decide_eq_true (show 0 ≤ (a : Int) ∧ (a : Int) < n by omega), decide_eq_true h]
  · rw [decide_eq_false (show ¬ (0 ≤ (a : Int) ∧ (a : Int) < n) by omega), decide_eq_false h]
theorem okx_tt {n a : Nat} (h : a < n) (hn : n < 2 ^ 31) : okx n (nI a) = true := by rw [okx_n (Nat.lt_trans h hn)]; exact decide_eq_true h
theorem lg_lt (x y : Int64) : (lg_cmp x y < 0) ↔ x.toInt < y.toInt := by
  unfold lg_cmp
  by_cases h1 : x > y
  · rw [if_pos h1]
    have : y.toInt < x.toInt := Int64.lt_iff_toInt_lt.mp h1
    exact ⟨fun q => absurd q (by decide), fun q => by omega⟩
  · rw [if_neg h1]
    have h1 : ¬ y.toInt < x.toInt := fun q => h1 (Int64.lt_iff_toInt_lt.mpr q)
    by_cases h2 : x = y
    · rw [if_pos h2]; subst h2; exact ⟨fun q => absurd q (by decide), fun q => by omega⟩
    · rw [if_neg h2]
      have : ¬ x.toInt = y.toInt := fun q => h2 (Int64.toInt_inj.mp q)
      exact ⟨fun _ => by omega, fun _ => by decide⟩
theorem lg_gt (x y : Int64) : (0 < lg_cmp x y) ↔ y.toInt < x.toInt := by
  unfold lg_cmp
  by_cases h1 : x > y
  · rw [if_pos h1]
    exact ⟨fun _ => Int64.lt_iff_toInt_lt.mp h1, fun _ => by decide⟩
  · rw [if_neg h1]
    have h1' : ¬ y.toInt < x.toInt := fun q => h1 (Int64.lt_iff_toInt_lt.mpr q)
    by_cases h2 : x = y
    · rw [if_pos h2]; exact ⟨fun q => absurd q (by decide), fun q => absurd q h1'⟩
    · rw [if_neg h2]; exact ⟨fun q => absurd q (by decide), fun q => absurd q h1'⟩
theorem lg_eq (x y : Int64) : (lg_cmp x y = 0) ↔ x = y := by
  unfold lg_cmp
  by_cases h1 : x > y
  · rw [if_pos h1]
    have : y.toInt < x.toInt := Int64.lt_iff_toInt_lt.mp h1
    exact ⟨fun q => absurd q (by decide), fun q => by rw [q] at this; omega⟩
  · rw [if_neg h1]
    by_cases h2 : x = y
    · rw [if_pos h2]; exact ⟨fun _ => h2, fun _ => rfl⟩
    · rw [if_neg h2]; exact ⟨fun q => absurd q (by decide), fun q => absurd q h2⟩
theorem in_J (x y z : Int64) : fX6_in x y z = if y.toInt ≤ x.toInt ∧ x.toInt ≤ z.toInt then 1 else 0 := by
  unfold fX6_in
  by_cases h1 : x.toInt < y.toInt
  · rw [if_pos ((lg_lt x y).mpr h1), if_neg (by omega)]
  · rw [if_neg (fun q => h1 ((lg_lt x y).mp q))]
    by_cases h2 : z.toInt < x.toInt
    · rw [if_pos ((lg_gt x z).mpr h2), if_neg (by omega)]
    · rw [if_neg (fun q => h2 ((lg_gt x z).mp q)), if_pos (by omega)]
theorem toI64 (x : Int32) : (x.toInt64).toInt = x.toInt := Int32.toInt_toInt64 x
theorem in_r (x : Int32) {y z : Int64} {lo hi : Int} (hy : y.toInt = lo) (hz : z.toInt = hi) : fX6_in x.toInt64 y z = if okr lo hi x = true then 1 else 0 := by
  rw [in_J, toI64, hy, hz]
  unfold okr
  by_cases h : lo ≤ x.toInt ∧ x.toInt ≤ hi
  · rw [if_pos h, if_pos (decide_eq_true h)]
  · rw [if_neg h, if_neg (by rw [decide_eq_false h]; decide)]
theorem okr_x (n : Nat) (x : Int32) : okr 0 ((n : Int) - 1) x = okx n x := by
  unfold okr okx
  congr 1
  exact propext ⟨fun h => ⟨h.1, by omega⟩, fun h => ⟨h.1, by omega⟩⟩
theorem in_x (x : Int32) {z : Int64} {n : Nat} (hz : z.toInt = (n : Int) - 1) : fX6_in x.toInt64 0 z = if okx n x = true then 1 else 0 := by
  rw [in_r x (lo := 0) (hi := (n : Int) - 1) rfl hz, okr_x]
theorem z1ne (p : Prop) {_ : Decidable p} : ((if p then (1 : Int32) else 0) = 0) ↔ ¬ p := by
  by_cases h : p
  · rw [if_pos h]; exact ⟨fun q => absurd q (by decide), fun q => absurd h q⟩
  · rw [if_neg h]; exact ⟨fun _ => h, fun _ => rfl⟩
theorem cls_x {F : Nat} (hF : F < 2 ^ 31) (x : Int32) : (if x < 0 then (0 : Int32) else if nI F ≤ x then 0 else 1) = if okx F x = true then 1 else 0 := by
  unfold okx
  have hx : (x < 0) ↔ x.toInt < 0 := Int32.lt_iff_toInt_lt
  have hy : (nI F ≤ x) ↔ (F : Int) ≤ x.toInt := by rw [Int32.le_iff_toInt_le, nI_toInt hF]
  by_cases h1 : x.toInt < 0
  · rw [if_pos (hx.mpr h1), if_neg]
    rw [decide_eq_false (by omega)]; decide
  · rw [if_neg (fun q => h1 (hx.mp q))]
    by_cases h2 : (F : Int) ≤ x.toInt
    · rw [if_pos (hy.mpr h2), if_neg]
      rw [decide_eq_false (by omega)]; decide
    · rw [if_neg (fun q => h2 (hy.mp q)), if_pos (decide_eq_true (by omega))]
theorem cls_r {hi : Nat} (hh : hi < 2 ^ 31) (x : Int32) : (if x < 0 then (0 : Int32) else if nI hi < x then 0 else 1) = if okx (hi + 1) x = true then 1 else 0 := by
  unfold okx
  have hx : (x < 0) ↔ x.toInt < 0 := Int32.lt_iff_toInt_lt
  have hy : (nI hi < x) ↔ (hi : Int) < x.toInt := by rw [Int32.lt_iff_toInt_lt, nI_toInt hh]
  by_cases h1 : x.toInt < 0
  · rw [if_pos (hx.mpr h1), if_neg]
    rw [decide_eq_false (by omega)]; decide
  · rw [if_neg (fun q => h1 (hx.mp q))]
    by_cases h2 : (hi : Int) < x.toInt
    · rw [if_pos (hy.mpr h2), if_neg]
      rw [decide_eq_false (by omega)]; decide
    · rw [if_neg (fun q => h2 (hy.mp q)), if_pos (decide_eq_true (by omega))]
theorem nI_m1 (a : Nat) (h : a < 2 ^ 31) : ¬ nI a = -1 := fun q => nI_pos h (by rw [q]; decide)
theorem nI_sub1 {F : Nat} (hF : F < 2 ^ 30) : ((nI F - 1).toInt64).toInt = (F : Int) - 1 := by
  rw [toI64]; exact pk_sub_toInt (a := F) (b := 1) hF (by decide)
