/-! MATHS: one step of a walker -/
def qbN (kd : Nat) : Nat := if kd = 1 then 3 else if kd = 2 then 2 else if kd = 3 then 3 else if kd = 4 then 5 else if kd = 5 then 6 else 2
def qcN (kd r m : Nat) : Nat := if kd = 2 then (if r < 5 then 0 else 1) else if kd = 3 then (if m % 3 = 0 then 3 else 0) else if kd = 4 then (if r < 5 then 0 else 1) else if kd = 5 then m % 2 else 0
theorem qbN_le (kd : Nat) : qbN kd ≤ 6 := by
  unfold qbN; repeat' split
  all_goals omega
theorem qcN_le (kd r m : Nat) : qcN kd r m ≤ 3 := by
  unfold qcN; repeat' split
  all_goals omega
theorem c_qb {kd : Nat} (hk : kd ≤ 5) : fX4_quartersAtBump 4 (nI kd) = some (nI (qbN kd)) :=
  (by decide +kernel : ∀ kd, kd < 6 → fX4_quartersAtBump 4 (nI kd) = some (nI (qbN kd))) kd (by omega)
theorem m_qb {kd : Nat} (hk : kd ≤ 5) : fX6_atBump (nI kd) = nI (qbN kd) :=
  (by decide +kernel : ∀ kd, kd < 6 → fX6_atBump (nI kd) = nI (qbN kd)) kd (by omega)
theorem r5 {r : Nat} (hr : r ≤ 9) : nI r < (5 : Int32) ↔ r < 5 :=
  (by decide +kernel : ∀ r, r < 10 → (nI r < (5 : Int32) ↔ r < 5)) r (by omega)
theorem rem3 {m : Nat} (hm : m < 2 ^ 30) : nI m - nI m / (3 : Int32) * (3 : Int32) = nI (m % 3) := pk_rem (d := 3) (by omega) (by decide) (by decide)
theorem rem2 {m : Nat} (hm : m < 2 ^ 30) : nI m - nI m / (2 : Int32) * (2 : Int32) = nI (m % 2) := pk_rem (d := 2) (by omega) (by decide) (by decide)
theorem rem4 {m : Nat} (hm : m < 2 ^ 30) : nI m - nI m / (4 : Int32) * (4 : Int32) = nI (m % 4) := pk_rem (d := 4) (by omega) (by decide) (by decide)
theorem div4 {m : Nat} (hm : m < 2 ^ 30) : nI m / (4 : Int32) = nI (m / 4) := pk_div (d := 4) (by omega) (by decide) (by decide)
theorem z3 {m : Nat} (hm : m < 2 ^ 30) : nI (m % 3) = 0 ↔ m % 3 = 0 := nI_eq (b := 0) (by omega) (by decide)
theorem q0 {n : Nat} {x y : Int32} : fX4_quartersOnComing (n + 1) (nI 0) x y = some (nI 0) := by rw [fX4_quartersOnComing, if_pos (by decide)]; rfl
theorem q1 {n : Nat} {x y : Int32} : fX4_quartersOnComing (n + 1 + 1) (nI 1) x y = some (nI 0) := by
  rw [fX4_quartersOnComing, if_neg (by decide), if_pos (by decide), show fX4_above (nI 1) = nI 0 by decide, q0]; rfl
theorem q2 {n r : Nat} {y : Int32} (hr : r ≤ 9) : fX4_quartersOnComing (n + 1 + 1) (nI 2) (nI r) y = some (nI (if r < 5 then 0 else 1)) := by
  rw [fX4_quartersOnComing, if_neg (by decide), if_neg (by decide), if_pos (by decide)]
  by_cases h : r < 5
  · rw [if_pos ((r5 hr).mpr h), show fX4_above (nI 2) = nI 0 by decide, q0, if_pos h]; rfl
  · rw [if_neg (fun z => h ((r5 hr).mp z)), if_neg h]; rfl
theorem q3 {n m : Nat} {x : Int32} (hm : m < 2 ^ 30) : fX4_quartersOnComing (n + 1 + 1 + 1) (nI 3) x (nI m) = some (nI (if m % 3 = 0 then 3 else 0)) := by
  rw [fX4_quartersOnComing, if_neg (by decide), if_neg (by decide), if_neg (by decide), if_pos (by decide), rem3 hm]
  by_cases h : m % 3 = 0
  · rw [if_pos ((z3 hm).mpr h), if_pos h]; rfl
  · rw [if_neg (fun z => h ((z3 hm).mp z)), show fX4_above (nI 3) = nI 1 by decide, q1, if_neg h]; rfl
theorem q4 {n r : Nat} {y : Int32} (hr : r ≤ 9) : fX4_quartersOnComing (n + 1 + 1 + 1) (nI 4) (nI r) y = some (nI (if r < 5 then 0 else 1)) := by
  rw [fX4_quartersOnComing, if_neg (by decide), if_neg (by decide), if_neg (by decide), if_neg (by decide), if_pos (by decide), show fX4_above (nI 4) = nI 2 by decide, q2 hr]; rfl
theorem q5 {n m : Nat} {x : Int32} (hm : m < 2 ^ 30) : fX4_quartersOnComing (n + 1 + 1 + 1) (nI 5) x (nI m) = some (nI (m % 2)) := by
  rw [fX4_quartersOnComing, if_neg (by decide), if_neg (by decide), if_neg (by decide), if_neg (by decide), if_neg (by decide), if_pos (by decide), show fX4_above (nI 5) = nI 1 by decide, q1, Option.bind_some, rem2 hm]
  rcases (show m % 2 = 0 ∨ m % 2 = 1 by omega) with h | h
  · rw [h]; decide
  · rw [h]; decide
theorem c_qc {kd r m : Nat} (hk : kd ≤ 5) (hr : r ≤ 9) (hm : m < 2 ^ 30) : fX4_quartersOnComing 4 (nI kd) (nI r) (nI m) = some (nI (qcN kd r m)) := by
  obtain rfl | rfl | rfl | rfl | rfl | rfl : kd = 0 ∨ kd = 1 ∨ kd = 2 ∨ kd = 3 ∨ kd = 4 ∨ kd = 5 := by omega
  · exact q0 (n := 3)
  · exact q1 (n := 2)
  · exact q2 (n := 2) hr
  · exact q3 (n := 1) hm
  · exact q4 (n := 1) hr
  · exact q5 (n := 1) hm
theorem m_qc {kd r m : Nat} (hk : kd ≤ 5) (hr : r ≤ 9) (hm : m < 2 ^ 30) : fX6_quarters (nI kd) (nI r) (nI m) = nI (qcN kd r m) := by
  unfold fX6_quarters
  rw [rem3 hm, rem2 hm]
  obtain rfl | rfl | rfl | rfl | rfl | rfl : kd = 0 ∨ kd = 1 ∨ kd = 2 ∨ kd = 3 ∨ kd = 4 ∨ kd = 5 := by omega
  · rfl
  · rfl
  · rw [if_pos (by decide)]
    show _ = nI (if r < 5 then 0 else 1)
    by_cases h : r < 5
    · rw [if_pos ((r5 hr).mpr h), if_pos h]; rfl
    · rw [if_neg (fun z => h ((r5 hr).mp z)), if_neg h]; rfl
  · rw [if_neg (by decide), if_pos (by decide)]
    show _ = nI (if m % 3 = 0 then 3 else 0)
    by_cases h : m % 3 = 0
    · rw [if_pos ((z3 hm).mpr h), if_pos h]; rfl
    · rw [if_neg (fun z => h ((z3 hm).mp z)), if_neg h]; rfl
  · rw [if_neg (by decide), if_neg (by decide), if_pos (by decide)]
    show _ = nI (if r < 5 then 0 else 1)
    by_cases h : r < 5
    · rw [if_pos ((r5 hr).mpr h), if_pos h]; rfl
    · rw [if_neg (fun z => h ((r5 hr).mp z)), if_neg h]; rfl
  · rw [if_neg (by decide), if_neg (by decide), if_neg (by decide), if_pos (by decide)]; rfl
abbrev Wk : Type := Nat × Nat × Nat × Nat
def mv1 (G : Gd) (u : Wk) : Wk := match on1 G u.2.1 with
  | none => (u.1, trn u.2.1 (qbN u.1), u.2.2.1, u.2.2.2 + 1)
  | some v => (u.1, trn v (qcN u.1 (gR G (v / 4)) (u.2.2.1 + payN u.1 (gR G (v / 4)))), u.2.2.1 + payN u.1 (gR G (v / 4)), u.2.2.2)
def okw (B : Nat) (G : Gd) (u : Wk) : Prop := u.1 ≤ 5 ∧ u.2.1 < 4 * gF G ∧ u.2.2.1 ≤ B ∧ u.2.2.2 ≤ B
theorem trn_lt {v q F : Nat} (h : v < 4 * F) : trn v q < 4 * F := by unfold trn; omega
theorem okw_mv {B B' : Nat} {G : Gd} {u : Wk} (hw : WG B' G) (h : okw B G u) : okw (B + 13) G (mv1 G u) := by
  obtain ⟨h1, h2, h3, h4⟩ := h
  unfold mv1
  cases ho : on1 G u.2.1 with
  | none => exact ⟨h1, trn_lt h2, by show u.2.2.1 ≤ _; omega, by show u.2.2.2 + 1 ≤ _; omega⟩
  | some v =>
    have hv := (on1_lt hw ho).1
    have := payN_le (kd := u.1) (hw.2.2.1 (v / 4) (by omega))
    exact ⟨h1, trn_lt hv, by show u.2.2.1 + payN _ _ ≤ _; omega, by show u.2.2.2 ≤ _; omega⟩
/-- only one cell changed -/
def One (c : Nat) (M M' : Mem) : Prop := (∀ a, a ≠ c → M'.1 a = M.1 a) ∧ M'.2 = M.2
theorem One_rf (c : Nat) (M : Mem) : One c M M := ⟨fun _ _ => rfl, rfl⟩
theorem One_tr {c : Nat} {M M1 M2 : Mem} (h : One c M M1) (k : One c M1 M2) : One c M M2 := ⟨fun a ha => (k.1 a ha).trans (h.1 a ha), k.2.trans h.2⟩
theorem One_set (M : Mem) (c j : Nat) (v : Int32) : One c M (setI M c j v) := ⟨fun a ha => sI_c M j v ha, rfl⟩
theorem c_move {B B' : Nat} {G : Gd} {M : Mem} {c : Nat} {u : Wk} (hw : WG B' G) (hg : RG 1 G M) (hB : B < 2 ^ 28) (hu : okw B G u) (hr : RW c u M) : ∃ M', fX4_move c M = some M' ∧ RW c (mv1 G u) M' ∧ One c M M' := by
  have h16 := hw.1
  obtain ⟨h1, h2, h3, h4⟩ := hu
  obtain ⟨c1, c2, c3, c4⟩ := hr
  unfold fX4_move mv1
  rw [c2, c_goOn hw hg h2, Option.bind_some]
  cases ho : on1 G u.2.1 with
  | none =>
    rw [if_pos (show gl none = -1 from rfl), sI_j _ _ (by decide), c1, c_qb h1, Option.bind_some, sI_j _ _ (by decide), c2, c_turned (by omega) (by have := qbN_le u.1; omega), c4, nI_1]
    refine ⟨_, rfl, ⟨?_, ?_, ?_, ?_⟩, One_tr (One_set _ _ _ _) (One_set _ _ _ _)⟩
    · rw [sI_j _ _ (by decide), sI_j _ _ (by decide)]; exact c1
    · rw [sI_s]
    · rw [sI_j _ _ (by decide), sI_j _ _ (by decide)]; exact c3
    · rw [sI_j _ _ (by decide), sI_s]
  | some v =>
    have hv := (on1_lt hw ho).1
    have hR := hw.2.2.1 (v / 4) (by omega)
    have hp := payN_le (kd := u.1) hR
    rw [if_neg (show ¬ gl (some v) = -1 from nI_m1 v (by omega)), show gl (some v) = nI v from rfl, c_fieldOf (by omega), c_roughOf hw hg (by omega), Option.bind_some, c1, c_pay h1 hR, Option.bind_some, sI_j _ _ (by decide), c1, sI_s, c3, nI_add, c_qc h1 hR (by omega), Option.bind_some, c_turned (by omega) (by have := qcN_le u.1 (gR G (v / 4)) (u.2.2.1 + payN u.1 (gR G (v / 4))); omega)]
    refine ⟨_, rfl, ⟨?_, ?_, ?_, ?_⟩, One_tr (One_set _ _ _ _) (One_set _ _ _ _)⟩
    · rw [sI_j _ _ (by decide), sI_j _ _ (by decide)]; exact c1
    · rw [sI_s]
    · rw [sI_j _ _ (by decide), sI_s]
    · rw [sI_j _ _ (by decide), sI_j _ _ (by decide)]; exact c4
theorem FC_one {c : Nat} {M M' : Mem} (h : One c M M') (hc : ¬ ((11 ≤ c ∧ c ≤ 20) ∨ c = 37 ∨ (40 ≤ c ∧ c ≤ 47) ∨ 49 ≤ c)) (h0 : c ≠ 0) (h1 : c ≠ 36) : FC M M' :=
  ⟨fun a ha => ⟨h.1 a (fun q => hc (q ▸ ha)), by rw [h.2]⟩, by rw [h.1 0 (fun q => h0 q.symm)], by rw [h.1 36 (fun q => h1 q.symm)]⟩
theorem FM_one {c : Nat} {M M' : Mem} (h : One c M M') (hc : ¬ (c < 49 ∨ c = 51 ∨ (56 ≤ c ∧ c ≤ 59))) (h1 : c ≠ 49) : FM M M' :=
  ⟨fun a ha => ⟨h.1 a (fun q => hc (q ▸ ha)), by rw [h.2]⟩, by rw [h.1 49 (fun q => h1 q.symm)], by rw [h.1 49 (fun q => h1 q.symm)]⟩
/-- the ground after walker k has become u -/
def gPut (G : Gd) (k : Nat) (u : Wk) : Gd := gSetK G (gW G) (va_up (gK G) k u)
theorem m_goes {B : Nat} {G : Gd} {M : Mem} {k : Nat} (hw : WG B G) (hB : B < 2 ^ 28) (hs : RS 50 G M) (hk : k < gW G) : ∃ M', fX6_goes (nI k) M = some M' ∧ RS 50 (gPut G k (mv1 G (gK G k))) M' ∧ One 50 M M' := by
  have h16 := hw.1
  have h6 := hw.2.1
  obtain ⟨h1, h2, h3, h4⟩ := hw.2.2.2.2 k hk
  obtain ⟨s1, s2, s3, s4, s5⟩ := hs.2.2.2.2 k hk
  unfold fX6_goes mv1
  rw [m_part0 (by omega), Option.bind_some, m_wayOf hs hk h6, Option.bind_some, m_onward hw hs (by omega), Option.bind_some, s1]
  cases ho : on1 G (gK G k).2.1 with
  | none =>
    have hq := qbN_le (gK G k).1
    rw [if_neg (show ¬ (0 : Int32) ≤ gl none by decide), m_part2 (by omega), Option.bind_some, s3, m_qb h1, nI_add, Option.bind_some, if_neg (show ¬ (0 : Int32) ≤ gl none by decide), m_sp4, ldI_n (by omega) (by decide), Option.bind_some, s5, nI_1, stI_n (by omega) (by decide), Option.bind_some, Option.bind_some, m_sp2, rem4 (by omega), stI_n (by omega) (by decide), Option.bind_some]
    refine ⟨_, rfl, RS_wk hs h16 (by omega) (by omega) (Or.inr (Nat.le_refl _)) _ (fun j q1 q2 => by rw [sI_j _ _ (by omega), sI_j _ _ (by omega)]) (by rw [sI_j _ _ (by omega), sI_j _ _ (by omega)]; exact hs.2.1) ⟨?_, ?_, ?_, ?_, ?_⟩, One_tr (One_set _ _ _ _) (One_set _ _ _ _)⟩
    · rw [sI_j _ _ (by omega), sI_j _ _ (by omega)]; exact s1
    · rw [sI_j _ _ (by omega), sI_j _ _ (by omega), s2]
      show nI _ = nI (trn _ _ / 4)
      congr 1; unfold trn; omega
    · rw [sI_s]
      show nI _ = nI (trn _ _ % 4)
      congr 1; unfold trn; omega
    · rw [sI_j _ _ (by omega), sI_j _ _ (by omega)]; exact s4
    · rw [sI_j _ _ (by omega), sI_s]
  | some v =>
    have hv := (on1_lt hw ho).1
    have hR := hw.2.2.1 (v / 4) (by omega)
    have hp := payN_le (kd := (gK G k).1) hR
    have hq := qcN_le (gK G k).1 (gR G (v / 4)) ((gK G k).2.2.1 + payN (gK G k).1 (gR G (v / 4)))
    rw [show gl (some v) = nI v from rfl, if_pos (nI_pos' (by omega)), rem4 (m := v) (by omega), Option.bind_some, if_pos (nI_pos' (by omega)), div4 (m := v) (by omega), m_ix4, ldI_n (by omega) (by decide), Option.bind_some, hs.2.2.1 _ (by omega), m_sp1, stI_n (by omega) (by decide), Option.bind_some, m_sp3, ldI_n (by omega) (by decide), Option.bind_some, sI_j _ _ (by omega), s4, m_pay h1 hR, nI_add, stI_n (by omega) (by decide), Option.bind_some, m_part3 (by omega), Option.bind_some, sI_s, m_qc h1 hR (by omega), nI_add, Option.bind_some]
    show ∃ M', ((stI _ 50 112 (fX6_spot (nI k) 2) (nI _ - nI _ / 4 * 4)).bind fun M31 => some M31) = some M' ∧ _
    rw [m_sp2, rem4 (by omega), stI_n (by omega) (by decide), Option.bind_some]
    refine ⟨_, rfl, RS_wk hs h16 (by omega) (by omega) (Or.inr (Nat.le_refl _)) _ (fun j q1 q2 => by rw [sI_j _ _ (by omega), sI_j _ _ (by omega), sI_j _ _ (by omega)]) (by rw [sI_j _ _ (by omega), sI_j _ _ (by omega), sI_j _ _ (by omega)]; exact hs.2.1) ⟨?_, ?_, ?_, ?_, ?_⟩, One_tr (One_tr (One_set _ _ _ _) (One_set _ _ _ _)) (One_set _ _ _ _)⟩
    · rw [sI_j _ _ (by omega), sI_j _ _ (by omega), sI_j _ _ (by omega)]; exact s1
    · rw [sI_j _ _ (by omega), sI_j _ _ (by omega), sI_s]
      show nI _ = nI (trn _ _ / 4)
      congr 1; unfold trn; omega
    · rw [sI_s]
      show nI _ = nI (trn _ _ % 4)
      congr 1; unfold trn; omega
    · rw [sI_j _ _ (by omega), sI_s]
    · rw [sI_j _ _ (by omega), sI_j _ _ (by omega), sI_j _ _ (by omega)]; exact s5
