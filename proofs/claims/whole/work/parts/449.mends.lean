/-! MATHS: which glue shortens a way most -/
theorem wr_tr {G : Gd} {f y i : Nat} (h : wr G f i y) (j : Nat) : ∀ x, wr G y j x → wr G f (i + j) x := by
  induction j with
  | zero => intro x k; rw [show x = y from k]; exact h
  | succ j ih =>
    intro x k
    rcases k with k | ⟨w, u, e, hx, k⟩
    · exact Or.inl (ih x k)
    · exact Or.inr ⟨w, u, e, hx, ih _ k⟩
theorem wr_sym {B : Nat} {G : Gd} (hw : WG B G) {b : Nat} (j : Nat) : ∀ x, wr G b j x → wr G x j b := by
  induction j with
  | zero => intro x h; exact Eq.symm h
  | succ j ih =>
    intro x h
    rcases h with h | ⟨w, u, e, hx, h⟩
    · exact Or.inl (ih x h)
    · have h1 : wr G x 1 (w / 4) := Or.inr ⟨u, w, (hw.2.2.2.1 w u e).2.2.2, rfl, hx⟩
      have := wr_tr h1 j b (ih _ h)
      rw [Nat.add_comm] at this; exact this
section
variable {B : Nat} {G : Gd} {p q : Nat}
theorem jn_old (h1 : gG G p = none) (h2 : gG G q = none) {w u : Nat} (e : gG G w = some u) : gG (gSetG G (gJoin (gG G) p q)) w = some u := by
  show gJoin (gG G) p q w = some u
  unfold gJoin
  rw [if_neg (fun z => by rw [z, h2] at e; cases e), if_neg (fun z => by rw [z, h1] at e; cases e)]
  exact e
theorem jn_up (h1 : gG G p = none) (h2 : gG G q = none) {f : Nat} (k : Nat) : ∀ x, wr G f k x → wr (gSetG G (gJoin (gG G) p q)) f k x := by
  induction k with
  | zero => intro x h; exact h
  | succ k ih =>
    intro x h
    rcases h with h | ⟨w, u, e, hx, h⟩
    · exact Or.inl (ih x h)
    · exact Or.inr ⟨w, u, jn_old h1 h2 e, hx, ih _ h⟩
theorem jn_pq (hne : p ≠ q) : gG (gSetG G (gJoin (gG G) p q)) p = some q ∧ gG (gSetG G (gJoin (gG G) p q)) q = some p := by
  constructor
  · show gJoin (gG G) p q p = some q
    unfold gJoin; rw [if_neg hne, if_pos rfl]
  · show gJoin (gG G) p q q = some p
    unfold gJoin; rw [if_pos rfl]
def via (G : Gd) (f a b k x : Nat) : Prop := ∃ i j, i + 1 + j ≤ k ∧ wr G f i a ∧ wr G b j x
theorem jn_dn (h1 : gG G p = none) (h2 : gG G q = none) {f : Nat} (k : Nat) : ∀ x, wr (gSetG G (gJoin (gG G) p q)) f k x → wr G f k x ∨ via G f (p / 4) (q / 4) k x ∨ via G f (q / 4) (p / 4) k x := by
  induction k with
  | zero => intro x h; exact Or.inl h
  | succ k ih =>
    intro x h
    rcases h with h | ⟨w, u, e, hx, h⟩
    · rcases ih x h with h | ⟨i, j, hij, h⟩ | ⟨i, j, hij, h⟩
      · exact Or.inl (Or.inl h)
      · exact Or.inr (Or.inl ⟨i, j, by omega, h⟩)
      · exact Or.inr (Or.inr ⟨i, j, by omega, h⟩)
    · have e : gJoin (gG G) p q w = some u := e
      unfold gJoin at e
      by_cases qw : w = q
      · rw [if_pos qw] at e
        cases e
        rw [qw] at h
        rw [← hx]
        rcases ih (q / 4) h with h | ⟨i, j, hij, h3, h4⟩ | ⟨i, j, hij, h3, h4⟩
        · exact Or.inr (Or.inr ⟨k, 0, by omega, h, rfl⟩)
        · exact Or.inl (wr_mono h3 (by omega))
        · exact Or.inr (Or.inr ⟨i, 0, by omega, h3, rfl⟩)
      · rw [if_neg qw] at e
        by_cases pw : w = p
        · rw [if_pos pw] at e
          cases e
          rw [pw] at h
          rw [← hx]
          rcases ih (p / 4) h with h | ⟨i, j, hij, h3, h4⟩ | ⟨i, j, hij, h3, h4⟩
          · exact Or.inr (Or.inl ⟨k, 0, by omega, h, rfl⟩)
          · exact Or.inr (Or.inl ⟨i, 0, by omega, h3, rfl⟩)
          · exact Or.inl (wr_mono h3 (by omega))
        · rw [if_neg pw] at e
          rcases ih (w / 4) h with h | ⟨i, j, hij, h3, h4⟩ | ⟨i, j, hij, h3, h4⟩
          · exact Or.inl (Or.inr ⟨w, u, e, hx, h⟩)
          · exact Or.inr (Or.inl ⟨i, j + 1, by omega, h3, Or.inr ⟨w, u, e, hx, h4⟩⟩)
          · exact Or.inr (Or.inr ⟨i, j + 1, by omega, h3, Or.inr ⟨w, u, e, hx, h4⟩⟩)
theorem via_up (h1 : gG G p = none) (h2 : gG G q = none) (hne : p ≠ q) {f k x : Nat} (h : via G f (p / 4) (q / 4) k x) : wr (gSetG G (gJoin (gG G) p q)) f k x := by
  obtain ⟨i, j, hij, h3, h4⟩ := h
  have a1 : wr (gSetG G (gJoin (gG G) p q)) f (i + 1) (q / 4) := Or.inr ⟨p, q, (jn_pq hne).1, rfl, jn_up h1 h2 i _ h3⟩
  exact wr_mono (wr_tr a1 j x (jn_up h1 h2 j x h4)) hij
theorem via_up2 (h1 : gG G p = none) (h2 : gG G q = none) (hne : p ≠ q) {f k x : Nat} (h : via G f (q / 4) (p / 4) k x) : wr (gSetG G (gJoin (gG G) p q)) f k x := by
  obtain ⟨i, j, hij, h3, h4⟩ := h
  have a1 : wr (gSetG G (gJoin (gG G) p q)) f (i + 1) (p / 4) := Or.inr ⟨q, p, (jn_pq hne).2, rfl, jn_up h1 h2 i _ h3⟩
  exact wr_mono (wr_tr a1 j x (jn_up h1 h2 j x h4)) hij
theorem via_df (hw : WG B G) {f g a b k : Nat} (hk : k < 1000000) : via G f a b k g ↔ df G f a + df G g b + 1 ≤ k := by
  constructor
  · rintro ⟨i, j, hij, h3, h4⟩
    have e1 := ((df_wr hw (f := f) (x := a)).2 i (by omega)).mpr h3
    have e2 := ((df_wr hw (f := g) (x := b)).2 j (by omega)).mpr (wr_sym hw j g h4)
    omega
  · intro h
    refine ⟨df G f a, df G g b, by omega, ((df_wr hw).2 _ (by omega)).mp (Nat.le_refl _), ?_⟩
    exact wr_sym hw _ b (((df_wr hw (f := g) (x := b)).2 _ (by omega)).mp (Nat.le_refl _))
/-- how far it would be by a new glue of two fields -/
def Lm (G : Gd) (f g a b : Nat) : Nat := (if df G f b + df G g a < df G f a + df G g b then df G f b + df G g a else df G f a + df G g b) + 1
theorem jn_df (hw : WG B G) (hp : p < 4 * gF G) (hq : q < 4 * gF G) (h1 : gG G p = none) (h2 : gG G q = none) (hne : p ≠ q) {f g k : Nat} (hk : k < 1000000) : df (gSetG G (gJoin (gG G) p q)) f g ≤ k ↔ df G f g ≤ k ∨ Lm G f g (p / 4) (q / 4) ≤ k := by
  rw [(df_wr (WG_join hw hp hq hne h1 h2)).2 k hk, (df_wr hw).2 k hk]
  have v1 := via_df hw (f := f) (g := g) (a := p / 4) (b := q / 4) hk
  have v2 := via_df hw (f := f) (g := g) (a := q / 4) (b := p / 4) hk
  have hL : Lm G f g (p / 4) (q / 4) ≤ k ↔ df G f (p / 4) + df G g (q / 4) + 1 ≤ k ∨ df G f (q / 4) + df G g (p / 4) + 1 ≤ k := by
    unfold Lm; split <;> omega
  rw [hL]
  constructor
  · intro h
    rcases jn_dn h1 h2 k g h with h | h | h
    · exact Or.inl h
    · exact Or.inr (Or.inl (v1.mp h))
    · exact Or.inr (Or.inr (v2.mp h))
  · intro h
    rcases h with h | h | h
    · exact jn_up h1 h2 k g h
    · exact via_up h1 h2 hne (v1.mpr h)
    · exact via_up2 h1 h2 hne (v2.mpr h)
theorem jn_less (hw : WG B G) (hp : p < 4 * gF G) (hq : q < 4 * gF G) (h1 : gG G p = none) (h2 : gG G q = none) (hne : p ≠ q) {f g s : Nat} (hs : s ≤ df G f g) : (Lm G f g (p / 4) (q / 4) < s → df (gSetG G (gJoin (gG G) p q)) f g = Lm G f g (p / 4) (q / 4)) ∧ (¬ Lm G f g (p / 4) (q / 4) < s → s ≤ df (gSetG G (gJoin (gG G) p q)) f g) := by
  have h6 : df G f g ≤ 1000000 := df_le
  have hj := fun k (hk : k < 1000000) => jn_df hw hp hq h1 h2 hne (f := f) (g := g) hk
  constructor
  · intro hL
    have a1 := (hj (Lm G f g (p / 4) (q / 4)) (by omega)).mpr (Or.inr (Nat.le_refl _))
    refine Nat.le_antisymm a1 (Nat.not_lt.mp fun hlt => ?_)
    rcases (hj _ (by omega)).mp (Nat.le_refl _) with h | h <;> omega
  · intro hL
    refine Nat.not_lt.mp fun hlt => ?_
    rcases (hj _ (by omega)).mp (Nat.le_refl _) with h | h <;> omega
end
def mdI (G : Gd) (f g a : Nat) : Nat → Nat → Nat × Option Nat → Nat × Option Nat
  | 0, _, r => r
  | m + 1, i, r => mdI G f g a m (i + 1) (if gG G a = none ∧ gG G i = none ∧ Lm G f g (a / 4) (i / 4) < r.1 then (Lm G f g (a / 4) (i / 4), some (64 * a + i)) else r)
def mdO (G : Gd) (f g : Nat) : Nat → Nat → Nat × Option Nat → Option Nat
  | 0, _, r => r.2
  | m + 1, a, r => mdO G f g m (a + 1) (mdI G f g a m (a + 1) r)
theorem mdI_n {G : Gd} {f g a : Nat} (h : ¬ gG G a = none) (m : Nat) : ∀ i r, mdI G f g a m i r = r := by
  induction m with
  | zero => intro i r; rfl
  | succ m ih =>
    intro i r
    show mdI G f g a m (i + 1) (if gG G a = none ∧ gG G i = none ∧ Lm G f g (a / 4) (i / 4) < r.1 then (Lm G f g (a / 4) (i / 4), some (64 * a + i)) else r) = r
    rw [if_neg (fun z => h z.1)]; exact ih (i + 1) r
def okr2 (G : Gd) (f g : Nat) (r : Nat × Option Nat) : Prop := r.1 ≤ df G f g ∧ ∀ b, r.2 = some b → b < 4096
theorem okr2_s {G : Gd} {f g a i : Nat} {r : Nat × Option Nat} (h : okr2 G f g r) (ha : a < 64) (hi : i < 64 ) : okr2 G f g (if gG G a = none ∧ gG G i = none ∧ Lm G f g (a / 4) (i / 4) < r.1 then (Lm G f g (a / 4) (i / 4), some (64 * a + i)) else r) := by
  by_cases q : gG G a = none ∧ gG G i = none ∧ Lm G f g (a / 4) (i / 4) < r.1
  · rw [if_pos q]
    exact ⟨Nat.le_trans (Nat.le_of_lt q.2.2) h.1, fun b e => by cases e; omega⟩
  · rw [if_neg q]; exact h
theorem okr2_I {G : Gd} {f g a : Nat} (ha : a < 64) (m : Nat) : ∀ i r, i + m ≤ 64 → okr2 G f g r → okr2 G f g (mdI G f g a m i r) := by
  induction m with
  | zero => intro i r _ h; exact h
  | succ m ih => intro i r hi h; exact ih (i + 1) _ (by omega) (okr2_s h ha (by omega))
theorem okr2_O {G : Gd} {f g : Nat} (m : Nat) : ∀ a r, a + m ≤ 64 → okr2 G f g r → ∀ b, mdO G f g m a r = some b → b < 4096 := by
  induction m with
  | zero => intro a r _ h; exact h.2
  | succ m ih => intro a r ha h; exact ih (a + 1) _ (by omega) (okr2_I (by omega) m (a + 1) r (by omega) h)
theorem c_thr {f g x y : Nat} {G : Gd} {M : Mem} (h1 : RD 33 16 (df G f) M) (h2 : RD 34 16 (df G g) M) (hx : x < 16) (hy : y < 16) : fX5_farThrough (nI x) (nI y) M = some (nI (Lm G f g x y)) := by
  have a1 : df G f x ≤ 1000000 := df_le
  have a2 : df G f y ≤ 1000000 := df_le
  have a3 : df G g x ≤ 1000000 := df_le
  have a4 : df G g y ≤ 1000000 := df_le
  unfold fX5_farThrough imn Lm
  rw [ldI_n hx (by decide), Option.bind_some, ldI_n hy (by decide), Option.bind_some, ldI_n hy (by decide), Option.bind_some, ldI_n hx (by decide), Option.bind_some, h1 x hx, h1 y hy, h2 x hx, h2 y hy, nI_add, nI_add]
  have hlt : nI (df G f y + df G g x) < nI (df G f x + df G g y) ↔ df G f y + df G g x < df G f x + df G g y := nI_ltI (by omega) (by omega)
  by_cases q : df G f y + df G g x < df G f x + df G g y
  · rw [if_pos (hlt.mpr q), if_pos q, nI_1]
  · rw [if_neg (fun z => q (hlt.mp z)), if_neg q, nI_1]
theorem c_m86 {ρ : Type} {kx : Int32 → Int32 → Option ρ} {B f g a : Nat} {G : Gd} {M : Mem} (hw : WG B G) (hg : RG 1 G M) (h1 : RD 33 16 (df G f) M) (h2 : RD 34 16 (df G g) M) (ha : a < 4 * gF G) (m : Nat) : ∀ (i n : Nat) (r : Nat × Option Nat), okr2 G f g r → i + m = 4 * gF G → m < n → fX5_mends_86 kx (nI a) M n (nI r.1) (gl r.2) (nI i) = kx (nI (mdI G f g a m i r).1) (gl (mdI G f g a m i r).2) := by
  have h16 := hw.1
  induction m with
  | zero =>
    intro i n r hr e h
    obtain rfl : i = 4 * gF G := by omega
    obtain ⟨n, rfl⟩ : ∃ k, n = k + 1 := ⟨n - 1, by omega⟩
    rw [fX5_mends_86, c_ways hg, if_pos (Int32.le_refl _)]; rfl
  | succ m ih =>
    intro i n r hr e h
    obtain ⟨n, rfl⟩ : ∃ k, n = k + 1 := ⟨n - 1, by omega⟩
    have hi : i < 4 * gF G := by omega
    have h6 : df G f g ≤ 1000000 := df_le
    have hr1 := hr.1
    have hLb : Lm G f g (a / 4) (i / 4) ≤ 2000001 := by
      have a1 : df G f (a / 4) ≤ 1000000 := df_le
      have a2 : df G f (i / 4) ≤ 1000000 := df_le
      have a3 : df G g (a / 4) ≤ 1000000 := df_le
      have a4 : df G g (i / 4) ≤ 1000000 := df_le
      unfold Lm; split <;> omega
    rw [fX5_mends_86, c_ways hg, if_neg (nI_ge hi (by omega)), c_isFree hw hg ha, Option.bind_some]
    by_cases q1 : gG G a = none
    · have hle : nI r.1 ≤ nI (Lm G f g (a / 4) (i / 4)) ↔ r.1 ≤ Lm G f g (a / 4) (i / 4) := nI_leI (by omega) (by omega)
      rw [if_pos q1, if_neg (by decide), c_fieldOf (by omega), c_fieldOf (by omega), c_thr h1 h2 (by omega) (by omega), Option.bind_some, nI_1]
      show _ = kx (nI (mdI G f g a m (i + 1) (if gG G a = none ∧ gG G i = none ∧ Lm G f g (a / 4) (i / 4) < r.1 then (Lm G f g (a / 4) (i / 4), some (64 * a + i)) else r)).1) (gl (mdI G f g a m (i + 1) (if gG G a = none ∧ gG G i = none ∧ Lm G f g (a / 4) (i / 4) < r.1 then (Lm G f g (a / 4) (i / 4), some (64 * a + i)) else r)).2)
      rw [← ih (i + 1) n _ (okr2_s hr (by omega) (by omega)) (by omega) (by omega)]
      by_cases q2 : r.1 ≤ Lm G f g (a / 4) (i / 4)
      · rw [if_pos (hle.mpr q2), Option.bind_some, if_neg (fun z => by have := z.2.2; omega)]
      · rw [if_neg (fun z => q2 (hle.mp z)), c_isFree hw hg hi, Option.bind_some]
        by_cases q3 : gG G i = none
        · rw [if_pos q3, if_neg (by decide), Option.bind_some, if_pos ⟨q1, q3, by omega⟩]
          show fX5_mends_86 kx (nI a) M n (nI (Lm G f g (a / 4) (i / 4))) (nI 64 * nI a + nI i) (nI (i + 1)) = _
          rw [pk_mul, nI_add]; rfl
        · rw [if_neg q3, if_pos rfl, Option.bind_some, if_neg (fun z => q3 z.2.1)]
    · rw [if_neg q1, if_pos rfl, mdI_n q1]
theorem c_m68 {ρ : Type} {kx : Int32 → Option ρ} {B f g : Nat} {G : Gd} {M : Mem} (hw : WG B G) (hg : RG 1 G M) (h1 : RD 33 16 (df G f) M) (h2 : RD 34 16 (df G g) M) (m : Nat) : ∀ (a n : Nat) (r : Nat × Option Nat), okr2 G f g r → a + m = 4 * gF G → m < n → fX5_mends_68 kx M n (nI r.1) (gl r.2) (nI a) = kx (gl (mdO G f g m a r)) := by
  have h16 := hw.1
  induction m with
  | zero =>
    intro a n r hr e h
    obtain rfl : a = 4 * gF G := by omega
    obtain ⟨n, rfl⟩ : ∃ k, n = k + 1 := ⟨n - 1, by omega⟩
    rw [fX5_mends_68, c_ways hg, if_pos (Int32.le_refl _)]; rfl
  | succ m ih =>
    intro a n r hr e h
    obtain ⟨n, rfl⟩ : ∃ k, n = k + 1 := ⟨n - 1, by omega⟩
    rw [fX5_mends_68, c_ways hg, if_neg (nI_ge (show a < 4 * gF G by omega) (by omega)), nI_1]
    refine Eq.trans (c_m86 (kx := fun u25 u26 => (fX5_mends_68 kx M n u25 u26 (nI (a + 1)))) hw hg h1 h2 (show a < 4 * gF G by omega) m (a + 1) FU r hr (by omega) (by unfold FU; omega)) ?_
    exact ih (a + 1) n _ (okr2_I (by omega) m (a + 1) r (by omega) hr) (by omega) (by omega)
theorem m_m55 {ρ : Type} {kx : Int32 → Int32 → Mem → Option ρ} {B f g a : Nat} {G : Gd} (hw : WG B G) (hf : f < gF G) (hg : g < gF G) (ha : a < 4 * gF G) (m : Nat) : ∀ (i n : Nat) (r : Nat × Option Nat) (M : Mem), RS 50 G M → okr2 G f g r → a < i → i + m = 4 * gF G → m < n → ∃ M', fX6_mends_55 kx (nI f) (nI g) (nI a) n (gl r.2) (nI r.1) (nI i) M = kx (gl (mdI G f g a m i r).2) (nI (mdI G f g a m i r).1) M' ∧ RS 50 G M' ∧ One 50 M M' := by
  have h16 := hw.1
  have e4 : (4 : Int32) * nI (gF G) = nI (4 * gF G) := pk_mul 4 (gF G)
  induction m with
  | zero =>
    intro i n r M hs hr hai e h
    obtain rfl : i = 4 * gF G := by omega
    obtain ⟨n, rfl⟩ : ∃ k, n = k + 1 := ⟨n - 1, by omega⟩
    exact ⟨M, by rw [fX6_mends_55, ld50_0, Option.bind_some, hs.1, e4, if_pos (Int32.le_refl _)]; rfl, hs, One_rf _ _⟩
  | succ m ih =>
    intro i n r M hs hr hai e h
    obtain ⟨n, rfl⟩ : ∃ k, n = k + 1 := ⟨n - 1, by omega⟩
    have hi : i < 4 * gF G := by omega
    have h6 : df G f g ≤ 1000000 := df_le
    have hr1 := hr.1
    have hok := okr2_s (a := a) (i := i) hr (by omega) (by omega)
    rw [fX6_mends_55, ld50_0, Option.bind_some, hs.1, e4, if_neg (nI_ge hi (by omega)), m_ix3, m_glued hs (by omega), Option.bind_some, m_ix3, m_glued hs (by omega), Option.bind_some, nI_1]
    show ∃ M', _ = kx (gl (mdI G f g a m (i + 1) (if gG G a = none ∧ gG G i = none ∧ Lm G f g (a / 4) (i / 4) < r.1 then (Lm G f g (a / 4) (i / 4), some (64 * a + i)) else r)).2) (nI (mdI G f g a m (i + 1) (if gG G a = none ∧ gG G i = none ∧ Lm G f g (a / 4) (i / 4) < r.1 then (Lm G f g (a / 4) (i / 4), some (64 * a + i)) else r)).1) M' ∧ _
    by_cases q1 : gG G a = none
    · rw [if_neg (fun z => (gm_le hw a).2.2.mp z q1)]
      by_cases q2 : gG G i = none
      · rw [if_pos ((gm_le hw i).2.1.mpr q2), m_glues (by omega) (by omega), Option.bind_some]
        let M1 := setI (setI M 50 (18 + a) (nI (i + 1))) 50 (18 + i) (nI (a + 1))
        have s1 : RS 50 (gSetG G (gJoin (gG G) a i)) M1 := RS_join h16 hs (by omega) (by omega)
        have w1 : WG B (gSetG G (gJoin (gG G) a i)) := WG_join hw ha hi (by omega) q1 q2
        have f1 : fX6_farOf (nI f) (nI g) M1 = some (nI (df (gSetG G (gJoin (gG G) a i)) f g)) := m_far w1 s1 hf hg
        have c1 : fX6_cuts (nI a) M1 = some (setI (setI M1 50 (18 + i) 0) 50 (18 + a) 0) := m_cuts w1 s1 (jn_pq (show a ≠ i by omega)).1
        have s2 : RS 50 G (setI (setI M1 50 (18 + i) 0) 50 (18 + a) 0) := by
          refine RS_glue (gG G) hs h16 (fun j hj => ?_) (fun x hx => ?_)
          · rw [sI_j _ _ (by omega), sI_j _ _ (by omega)]
            show (setI (setI M 50 (18 + a) (nI (i + 1))) 50 (18 + i) (nI (a + 1))).1 50 j = _
            rw [sI_j _ _ (by omega), sI_j _ _ (by omega)]
          · by_cases x1 : x = a
            · rw [x1, sI_s, q1]; rfl
            · rw [sI_j _ _ (by omega)]
              by_cases x2 : x = i
              · rw [x2, sI_s, q2]; rfl
              · rw [sI_j _ _ (by omega)]
                show (setI (setI M 50 (18 + a) (nI (i + 1))) 50 (18 + i) (nI (a + 1))).1 50 (18 + x) = _
                rw [sI_j _ _ (by omega), sI_j _ _ (by omega)]; exact hs.2.2.2.1 x hx
        have o2 : One 50 M (setI (setI M1 50 (18 + i) 0) 50 (18 + a) 0) := One_tr (One_tr (One_tr (One_set _ _ _ _) (One_set _ _ _ _)) (One_set _ _ _ _)) (One_set _ _ _ _)
        obtain ⟨M', k1, k2, k3⟩ := ih (i + 1) n _ (setI (setI M1 50 (18 + i) 0) 50 (18 + a) 0) s2 hok (by omega) (by omega) (by omega)
        refine ⟨M', ?_, k2, One_tr o2 k3⟩
        refine Eq.trans ?_ k1
        show ((((fX6_farOf (nI f) (nI g) M1).bind _)).bind _) = _
        rw [f1, Option.bind_some]
        show (((fX6_cuts (nI a) M1).bind _).bind _) = _
        rw [c1, Option.bind_some, Option.bind_some]
        obtain ⟨L1, L2⟩ := jn_less hw ha hi q1 q2 (show a ≠ i by omega) (f := f) (g := g) hr1
        have hdl : df (gSetG G (gJoin (gG G) a i)) f g ≤ 1000000 := df_le
        have hle : nI r.1 ≤ nI (df (gSetG G (gJoin (gG G) a i)) f g) ↔ r.1 ≤ df (gSetG G (gJoin (gG G) a i)) f g := nI_leI (by omega) (by omega)
        by_cases q3 : Lm G f g (a / 4) (i / 4) < r.1
        · have hL := L1 q3
          rw [if_neg (fun z => by have := hle.mp z; omega), if_neg (fun z => by have := hle.mp z; omega), if_pos ⟨q1, q2, q3⟩, hL]
          show fX6_mends_55 kx (nI f) (nI g) (nI a) n (nI 64 * nI a + nI i) _ _ _ = _
          rw [pk_mul, nI_add]; rfl
        · rw [if_pos (hle.mpr (L2 q3)), if_pos (hle.mpr (L2 q3)), if_neg (fun z => q3 z.2.2)]
      · rw [if_neg (fun z => q2 ((gm_le hw i).2.1.mp z)), Option.bind_some, if_neg (fun z => q2 z.2.1)]
        exact ih (i + 1) n r M hs hr (by omega) (by omega) (by omega)
    · rw [if_pos ((gm_le hw a).2.2.mpr q1), Option.bind_some, if_neg (fun z => q1 z.1)]
      exact ih (i + 1) n r M hs hr (by omega) (by omega) (by omega)
theorem m_m36 {ρ : Type} {kx : Int32 → Mem → Option ρ} {B f g : Nat} {G : Gd} (hw : WG B G) (hf : f < gF G) (hg : g < gF G) (m : Nat) : ∀ (a n : Nat) (r : Nat × Option Nat) (M : Mem), RS 50 G M → okr2 G f g r → a + m = 4 * gF G → m < n → ∃ M', fX6_mends_36 kx (nI f) (nI g) n (gl r.2) (nI r.1) (nI a) M = kx (gl (mdO G f g m a r)) M' ∧ RS 50 G M' ∧ One 50 M M' := by
  have h16 := hw.1
  have e4 : (4 : Int32) * nI (gF G) = nI (4 * gF G) := pk_mul 4 (gF G)
  induction m with
  | zero =>
    intro a n r M hs hr e h
    obtain rfl : a = 4 * gF G := by omega
    obtain ⟨n, rfl⟩ : ∃ k, n = k + 1 := ⟨n - 1, by omega⟩
    exact ⟨M, by rw [fX6_mends_36, ld50_0, Option.bind_some, hs.1, e4, if_pos (Int32.le_refl _)]; rfl, hs, One_rf _ _⟩
  | succ m ih =>
    intro a n r M hs hr e h
    obtain ⟨n, rfl⟩ : ∃ k, n = k + 1 := ⟨n - 1, by omega⟩
    obtain ⟨M1, p1, s1, o1⟩ := m_m55 (kx := fun u34 u35 M36 => (fX6_mends_36 kx (nI f) (nI g) n u34 u35 (nI (a + 1)) M36)) hw hf hg (show a < 4 * gF G by omega) m (a + 1) FU r M hs hr (by omega) (by omega) (by unfold FU; omega)
    obtain ⟨M', p2, s2, o2⟩ := ih (a + 1) n (mdI G f g a m (a + 1) r) M1 s1 (okr2_I (show a < 64 by omega) m (a + 1) r (by omega) hr) (by omega) (by omega)
    refine ⟨M', ?_, s2, One_tr o1 o2⟩
    rw [fX6_mends_36, ld50_0, Option.bind_some, hs.1, e4, if_neg (nI_ge (show a < 4 * gF G by omega) (by omega)), nI_1]
    exact p1.trans p2
theorem ok_mends {t : Nat} {M : Mem} (ht : t < 512) (hI : Inv t M) (a1 : Int32) (a2 : Int32) : ∃ v w, fX5_mends a1 a2 M = some v ∧ fX6_mends a1 a2 v.2 = some w ∧ v.1 = w.1 ∧ Inv (t + 1) w.2 := by
  refine ok_of hI (fun G hw hg => ?_)
  have h16 := hw.1
  by_cases h1 : okx (gF G) a1 = true
  · by_cases h2 : okx (gF G) a2 = true
    · obtain ⟨f, hf, rfl⟩ := okx_t (by omega) h1
      obtain ⟨g, hg2, rfl⟩ := okx_t (by omega) h2
      obtain ⟨Ma, p1, r1, o1⟩ := c_spr1 hw hg hf
      have ga := RG_one hw hg o1 (by decide)
      obtain ⟨Mb, p2, r2, o2⟩ := c_spread (cst := one1) al_34 (by decide) hw ga (cst_1 G) hg2
      have gb := RG_one hw ga o2 (by decide)
      have r1b : RD 33 16 (df G f) Mb := RD_one r1 o2 (by decide)
      have fb : FC M Mb := FC_tr (FC_33 o1 (by decide) (by decide)) (FC_33 o2 (by decide) (by decide))
      have b8 : Mb.1 48 = M.1 48 := (o2.1 48 (by decide)).trans (o1.1 48 (by decide))
      have hr0 : okr2 G f g (df G f g, none) := ⟨Nat.le_refl _, fun b e => by cases e⟩
      have hcl : fX5_mends (nI f) (nI g) M = ((fX5_numberOrNone (gl (mdO G f g (4 * gF G) 0 (df G f g, none))) Mb).bind fun w28 => some (w28.1, w28.2)) := by
        unfold fX5_mends
        rw [c_hasField hw hg, if_neg (b1 h1), c_hasField hw hg, if_neg (b1 h2), p1, Option.bind_some, p2, Option.bind_some, ldI_n (by omega) (by decide), Option.bind_some, r1b g (by omega)]
        exact c_m68 (kx := fun u27 => ((fX5_numberOrNone u27 Mb).bind fun w28 => some (w28.1, w28.2))) hw gb r1b r2 (4 * gF G) 0 FU (df G f g, none) hr0 (Nat.zero_add _) (by unfold FU; omega)
      have hml : ∀ M1, RS 50 G M1 → ∃ M', RS 50 G M' ∧ FM M1 M' ∧ M'.1 54 = M1.1 54 ∧ fX6_mends (nI f) (nI g) M1 = (if 0 ≤ gl (mdO G f g (4 * gF G) 0 (df G f g, none)) then some (gl (mdO G f g (4 * gF G) 0 (df G f g, none)), M') else ((fX6_finds (-1000000004 : Int32) M').bind fun w40 => some (w40.1, w40.2))) := by
        intro M1 hs
        obtain ⟨M', k1, k2, k3⟩ := m_m36 (kx := fun u37 M38 => (if 0 ≤ u37 then some (u37, M38) else ((fX6_finds (-1000000004 : Int32) M38).bind fun w40 => some (w40.1, w40.2)))) hw hf hg2 (4 * gF G) 0 FU (df G f g, none) M1 hs hr0 (Nat.zero_add _) (by unfold FU; omega)
        refine ⟨M', k2, FM_one k3 (by omega) (by omega), k3.1 54 (by decide), ?_⟩
        unfold fX6_mends
        rw [m_isField hw hs, Option.bind_some, if_neg (b1 h1), m_isField hw hs, Option.bind_some, if_neg (b1 h2), m_far hw hs hf hg2, Option.bind_some]
        exact k1
      have hlt := okr2_O (G := G) (f := f) (g := g) (4 * gF G) 0 (df G f g, none) (by omega) hr0
      cases hz : mdO G f g (4 * gF G) 0 (df G f g, none) with
      | none =>
        rw [hz] at hcl hml
        refine ⟨fnd 3, G, some 3, WG_t hw, o7 (by decide), csp_fin' hw gb fb b8 ?_, fun M1 hs => ?_⟩
        · rw [hcl]
          unfold fX5_numberOrNone
          rw [if_pos (show gl none = -1 from rfl), tb3]; rfl
        · obtain ⟨M', r', f', b', e'⟩ := hml M1 hs
          refine msp_fin' r' f' b' ?_
          rw [e', if_neg (show ¬ (0 : Int32) ≤ gl none by decide), mb3]
      | some b =>
        have hb := hlt b hz
        rw [hz] at hcl hml
        refine ⟨nI b, G, none, WG_t hw, o0, ⟨Mb, ?_, gb, fb, b8⟩, fun M1 hs => ?_⟩
        · rw [hcl]
          unfold fX5_numberOrNone
          rw [if_neg (show ¬ gl (some b) = -1 from nI_m1 b (by omega))]; rfl
        · obtain ⟨M', r', f', b', e'⟩ := hml M1 hs
          exact ⟨M', by rw [e', if_pos (show (0 : Int32) ≤ gl (some b) from nI_pos' (by omega))]; rfl, r', f', b'⟩
    · refine ⟨fnd 0, G, some 0, WG_t hw, o7 (by decide), csp_fin hw hg ?_, fun M1 hs => msp_fin hs ?_⟩
      · unfold fX5_mends; rw [c_hasField hw hg, if_neg (b1 h1), c_hasField hw hg, if_pos (b0 h2), tb0]
      · unfold fX6_mends; rw [m_isField hw hs, Option.bind_some, if_neg (b1 h1), m_isField hw hs, Option.bind_some, if_pos (b0 h2), mb0]
  · refine ⟨fnd 0, G, some 0, WG_t hw, o7 (by decide), csp_fin hw hg ?_, fun M1 hs => msp_fin hs ?_⟩
    · unfold fX5_mends; rw [c_hasField hw hg, if_pos (b0 h1), tb0]
    · unfold fX6_mends; rw [m_isField hw hs, Option.bind_some, if_pos (b0 h1), mb0]
