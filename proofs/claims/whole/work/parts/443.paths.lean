/-! MATHS: least sums by lowering, round by round -/
abbrev Ed : Type := Nat × Nat × Nat
def rel (d : Nat → Nat) (e : Ed) : Nat → Nat := if d e.1 + e.2.2 < d e.2.1 then va_up d e.2.1 (d e.1 + e.2.2) else d
def rdw (es : Nat → List Ed) : Nat → Nat → (Nat → Nat) → Nat → Nat
  | 0, _, d => d
  | m + 1, i, d => rdw es m (i + 1) ((es i).foldl rel d)
def itR (es : Nat → List Ed) (N : Nat) : Nat → (Nat → Nat) → Nat → Nat
  | 0, d => d
  | k + 1, d => itR es N k (rdw es N 0 d)
set_option maxHeartbeats 20000 in
theorem itR_s (es : Nat → List Ed) (N k : Nat) : ∀ d, itR es N (k + 1) d = rdw es N 0 (itR es N k d) := by
  induction k with
  | zero => intro d; rfl
  | succ k ih => intro d; exact ih (rdw es N 0 d)
set_option maxHeartbeats 20000 in
theorem itR_fix {es : Nat → List Ed} {N : Nat} {d : Nat → Nat} (h : rdw es N 0 d = d) (k : Nat) : itR es N k d = d := by
  induction k with
  | zero => rfl
  | succ k ih => show itR es N k (rdw es N 0 d) = d; rw [h]; exact ih
set_option maxHeartbeats 20000 in
theorem rel_le (d : Nat → Nat) (e : Ed) (x : Nat) : rel d e x ≤ d x := by
  unfold rel
  split
  · unfold va_up
    split
    · next h1 h2 => rw [h2]; omega
    · exact Nat.le_refl _
  · exact Nat.le_refl _
set_option maxHeartbeats 20000 in
theorem rel_to (d : Nat → Nat) (e : Ed) : rel d e e.2.1 ≤ d e.1 + e.2.2 := by
  unfold rel
  split
  · rw [va_up_self]; exact Nat.le_refl _
  · omega
set_option maxHeartbeats 20000 in
theorem fol_le (l : List Ed) : ∀ (d : Nat → Nat) (x : Nat), l.foldl rel d x ≤ d x := by
  induction l with
  | nil => intro d x; exact Nat.le_refl _
  | cons e l ih => intro d x; exact Nat.le_trans (ih (rel d e) x) (rel_le d e x)
set_option maxHeartbeats 20000 in
theorem fol_to (l : List Ed) : ∀ (d : Nat → Nat) (e : Ed), e ∈ l → l.foldl rel d e.2.1 ≤ d e.1 + e.2.2 := by
  induction l with
  | nil => intro d e h; cases h
  | cons a l ih =>
    intro d e h
    rcases List.mem_cons.mp h with h | h
    · rw [h]; exact Nat.le_trans (fol_le l (rel d a) a.2.1) (rel_to d a)
    · exact Nat.le_trans (ih (rel d a) e h) (Nat.add_le_add_right (rel_le d a e.1) _)
set_option maxHeartbeats 20000 in
theorem rdw_le (es : Nat → List Ed) (m : Nat) : ∀ (i : Nat) (d : Nat → Nat) (x : Nat), rdw es m i d x ≤ d x := by
  induction m with
  | zero => intro i d x; exact Nat.le_refl _
  | succ m ih => intro i d x; exact Nat.le_trans (ih (i + 1) _ x) (fol_le (es i) d x)
set_option maxHeartbeats 20000 in
theorem rdw_to (es : Nat → List Ed) (m : Nat) : ∀ (i : Nat) (d : Nat → Nat) (w : Nat) (e : Ed), i ≤ w → w < i + m → e ∈ es w → rdw es m i d e.2.1 ≤ d e.1 + e.2.2 := by
  induction m with
  | zero => intro i d w e h1 h2; omega
  | succ m ih =>
    intro i d w e h1 h2 h
    show rdw es m (i + 1) ((es i).foldl rel d) e.2.1 ≤ _
    by_cases q : w = i
    · subst q
      exact Nat.le_trans (rdw_le es m (w + 1) _ _) (fol_to (es w) d e h)
    · exact Nat.le_trans (ih (i + 1) _ w e (by omega) (by omega) h) (Nat.add_le_add_right (fol_le (es i) d e.1) _)
set_option maxHeartbeats 20000 in
theorem fol_Q {Q : Nat → Nat → Prop} (l : List Ed) (hQ : ∀ e, e ∈ l → ∀ u, Q e.1 u → Q e.2.1 (u + e.2.2)) : ∀ d : Nat → Nat, (∀ x, Q x (d x)) → ∀ x, Q x (l.foldl rel d x) := by
  induction l with
  | nil => intro d h; exact h
  | cons e l ih =>
    intro d h
    refine ih (fun a ha => hQ a (List.mem_cons_of_mem _ ha)) (rel d e) (fun x => ?_)
    unfold rel
    split
    · unfold va_up
      split
      · next _ q => rw [q]; exact hQ e List.mem_cons_self _ (h e.1)
      · exact h x
    · exact h x
set_option maxHeartbeats 20000 in
theorem rdw_Q {Q : Nat → Nat → Prop} (es : Nat → List Ed) (m : Nat) : ∀ (i : Nat), (∀ w, i ≤ w → w < i + m → ∀ e, e ∈ es w → ∀ u, Q e.1 u → Q e.2.1 (u + e.2.2)) → ∀ d : Nat → Nat, (∀ x, Q x (d x)) → ∀ x, Q x (rdw es m i d x) := by
  induction m with
  | zero => intro i _ d h; exact h
  | succ m ih =>
    intro i hQ d h
    exact ih (i + 1) (fun w h1 h2 => hQ w (by omega) (by omega)) _ (fol_Q (es i) (hQ i (Nat.le_refl _) (by omega)) d h)
/-! walks -/
def PP (E : Ed → Prop) (d0 : Nat → Nat) : Nat → Nat → Nat → Prop
  | 0, x, v => v = d0 x
  | k + 1, x, v => PP E d0 k x v ∨ ∃ e, E e ∧ e.2.1 = x ∧ ∃ u, PP E d0 k e.1 u ∧ v = u + e.2.2
set_option maxHeartbeats 20000 in
theorem PP_mono {E : Ed → Prop} {d0 : Nat → Nat} {a b x v : Nat} (h : PP E d0 a x v) (hb : a ≤ b) : PP E d0 b x v := by
  induction b with
  | zero => rw [show (0 : Nat) = a by omega]; exact h
  | succ b ih =>
    by_cases q : a = b + 1
    · rw [← q]; exact h
    · exact Or.inl (ih (by omega))
def Lv (E : Ed → Prop) (d0 : Nat → Nat) (x j : Nat) : Prop := ∃ v, PP E d0 j x v ∧ (∀ j' v', PP E d0 j' x v' → v ≤ v') ∧ ∀ j', j' < j → ¬ PP E d0 j' x v
set_option maxHeartbeats 20000 in
theorem Lv_ex (E : Ed → Prop) (d0 : Nat → Nat) (x : Nat) : ∃ j, Lv E d0 x j := by
  obtain ⟨v, ⟨j, hj⟩, hv⟩ := pk_least (fun v => ∃ j, PP E d0 j x v) ⟨d0 x, 0, rfl⟩
  obtain ⟨i, hi, hl⟩ := pk_least (fun j => PP E d0 j x v) ⟨j, hj⟩
  exact ⟨i, v, hi, fun j' v' h => Nat.not_lt.mp (fun q => hv v' q ⟨j', h⟩), fun j' q => hl j' q⟩
set_option maxHeartbeats 20000 in
theorem Lv_uq {E : Ed → Prop} {d0 : Nat → Nat} {x i j : Nat} (h : Lv E d0 x i) (k : Lv E d0 x j) : i = j := by
  obtain ⟨v, h1, h2, h3⟩ := h
  obtain ⟨u, k1, k2, k3⟩ := k
  have e : v = u := Nat.le_antisymm (h2 j u k1) (k2 i v h1)
  subst e
  by_cases q : i < j
  · exact absurd h1 (k3 i q)
  · by_cases q2 : j < i
    · exact absurd k1 (h3 j q2)
    · omega
set_option maxHeartbeats 20000 in
theorem Lv_down {E : Ed → Prop} {d0 : Nat → Nat} {n : Nat} (hE : ∀ e, E e → e.1 < n) (j : Nat) : ∀ x, Lv E d0 x j → ∀ i, i < j → ∃ y, y < n ∧ Lv E d0 y i := by
  induction j with
  | zero => intro x _ i h; omega
  | succ j ih =>
    intro x h i hi
    obtain ⟨v, h1, h2, h3⟩ := h
    rcases h1 with h1 | ⟨e, he, ht, u, hu, hv⟩
    · exact absurd h1 (h3 j (by omega))
    · have hy : Lv E d0 e.1 j := by
        refine ⟨u, hu, fun j' v' h => ?_, fun j' hj h => ?_⟩
        · have := h2 (j' + 1) (v' + e.2.2) (Or.inr ⟨e, he, ht, v', h, rfl⟩)
          omega
        · exact h3 (j' + 1) (by omega) (Or.inr ⟨e, he, ht, u, h, hv⟩)
      by_cases q : i = j
      · exact ⟨e.1, hE e he, by rw [q]; exact hy⟩
      · exact ih e.1 hy i (by omega)
set_option maxHeartbeats 20000 in
theorem Lv_le {E : Ed → Prop} {d0 : Nat → Nat} {n x j : Nat} (hE : ∀ e, E e → e.1 < n) (h : Lv E d0 x j) : j ≤ n := by
  apply Classical.byContradiction
  intro hn
  have hd := Lv_down hE j x h
  have hex : ∀ i, i ≤ n → ∃ y, y < n ∧ Lv E d0 y i := fun i hi => hd i (by omega)
  obtain ⟨a, b, hab, hb, e⟩ := php n (fun i => if q : i ≤ n then Classical.choose (hex i q) else 0) (fun i hi => by
    show (if q : i ≤ n then Classical.choose (hex i q) else 0) < n
    rw [dif_pos hi]; exact (Classical.choose_spec (hex i hi)).1)
  have e : (if q : a ≤ n then Classical.choose (hex a q) else 0) = (if q : b ≤ n then Classical.choose (hex b q) else 0) := e
  rw [dif_pos (show a ≤ n by omega), dif_pos hb] at e
  have h1 := (Classical.choose_spec (hex a (by omega))).2
  have h2 := (Classical.choose_spec (hex b hb)).2
  rw [e] at h1
  have := Lv_uq h1 h2
  omega
/-- after as many rounds as there are nodes nothing is lowered any more: each sum is the least of all walks -/
def inE (es : Nat → List Ed) (N : Nat) (e : Ed) : Prop := ∃ w, w < N ∧ e ∈ es w
set_option maxHeartbeats 20000 in
theorem itR_up {es : Nat → List Ed} {N : Nat} {d0 : Nat → Nat} (k : Nat) : ∀ x v, PP (inE es N) d0 k x v → itR es N k d0 x ≤ v := by
  induction k with
  | zero => intro x v h; rw [show v = d0 x from h]; exact Nat.le_refl _
  | succ k ih =>
    intro x v h
    rw [itR_s]
    rcases h with h | ⟨e, ⟨w, hw, he⟩, ht, u, hu, hv⟩
    · exact Nat.le_trans (rdw_le es N 0 _ x) (ih x v h)
    · rw [hv, ← ht]
      exact Nat.le_trans (rdw_to es N 0 _ w e (Nat.zero_le _) (by omega) he) (Nat.add_le_add_right (ih e.1 u hu) _)
set_option maxHeartbeats 20000 in
theorem itR_at {es : Nat → List Ed} {N : Nat} {d0 : Nat → Nat} (k : Nat) : ∀ x, ∃ j, PP (inE es N) d0 j x (itR es N k d0 x) := by
  induction k with
  | zero => intro x; exact ⟨0, rfl⟩
  | succ k ih =>
    rw [itR_s]
    refine rdw_Q (Q := fun x v => ∃ j, PP (inE es N) d0 j x v) es N 0 (fun w _ h2 e he u hu => ?_) _ ih
    obtain ⟨j, hj⟩ := hu
    exact ⟨j + 1, Or.inr ⟨e, ⟨w, by omega, he⟩, rfl, u, hj, rfl⟩⟩
set_option maxHeartbeats 20000 in
theorem itR_mono (es : Nat → List Ed) (N : Nat) (d0 : Nat → Nat) (x : Nat) {a b : Nat} (h : a ≤ b) : itR es N b d0 x ≤ itR es N a d0 x := by
  induction b with
  | zero => rw [show a = 0 by omega]; exact Nat.le_refl _
  | succ b ih =>
    by_cases q : a = b + 1
    · rw [q]; exact Nat.le_refl _
    · rw [itR_s]; exact Nat.le_trans (rdw_le es N 0 _ x) (ih (by omega))
set_option maxHeartbeats 20000 in
theorem itR_least {es : Nat → List Ed} {N n k : Nat} {d0 : Nat → Nat} (hE : ∀ e, inE es N e → e.1 < n) (hk : n ≤ k) (x : Nat) : (∃ j, j ≤ n ∧ PP (inE es N) d0 j x (itR es N k d0 x)) ∧ ∀ j v, PP (inE es N) d0 j x v → itR es N k d0 x ≤ v := by
  obtain ⟨j, hL⟩ := Lv_ex (inE es N) d0 x
  have hj := Lv_le hE hL
  obtain ⟨v, h1, h2, _⟩ := hL
  have e : itR es N k d0 x = v := by
    refine Nat.le_antisymm (itR_up k x v (PP_mono h1 (by omega))) ?_
    obtain ⟨i, hi⟩ := itR_at (es := es) (N := N) (d0 := d0) k x
    exact h2 i _ hi
  rw [e]
  exact ⟨⟨j, hj, h1⟩, fun i u h => h2 i u h⟩
set_option maxHeartbeats 20000 in
theorem itR_same {es : Nat → List Ed} {N n a b : Nat} {d0 : Nat → Nat} (hE : ∀ e, inE es N e → e.1 < n) (ha : n ≤ a) (hb : n ≤ b) : itR es N a d0 = itR es N b d0 := by
  funext x
  obtain ⟨⟨j, _, h1⟩, h2⟩ := itR_least (d0 := d0) hE ha x
  obtain ⟨⟨i, _, k1⟩, k2⟩ := itR_least (d0 := d0) hE hb x
  exact Nat.le_antisymm (h2 i _ k1) (k2 j _ h1)
