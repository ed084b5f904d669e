/-! MATHS: squares -/
theorem m_tr1 {v : Nat} (hv : v < 64) : (nI v / (4 : Int32)) * (4 : Int32) + ((nI v + (1 : Int32)) - (nI v + (1 : Int32)) / (4 : Int32) * (4 : Int32)) = nI (trn v 1) := by
  have := m_onwardq 1 (by decide) hv
  rw [nI_pred] at this
  exact this
theorem c_gol {ρ : Type} {kx : Int32 → Option ρ} {B N : Nat} {G : Gd} {M : Mem} (hw : WG B G) (hg : RG 1 G M) (hN : N < 1000) (m : Nat) : ∀ (i n : Nat) (o : Option Nat), (∀ v, o = some v → v < 4 * gF G) → i + m = N → m < n → fX0_goOnOften_5 kx (nI N) M n (gl o) (nI i) = kx (gl (o.bind (itr (on1 G) m))) := by
  induction m with
  | zero =>
    intro i n o ho e h
    obtain rfl : i = N := by omega
    obtain ⟨n, rfl⟩ : ∃ k, n = k + 1 := ⟨n - 1, by omega⟩
    rw [fX0_goOnOften_5, if_pos (Int32.le_refl _)]
    cases o <;> rfl
  | succ m ih =>
    intro i n o ho e h
    obtain ⟨n, rfl⟩ : ∃ k, n = k + 1 := ⟨n - 1, by omega⟩
    rw [fX0_goOnOften_5, if_neg (nI_ge (show i < N by omega) (by omega))]
    cases o with
    | none =>
      rw [show fX0_goOn (gl none) M = some (gl none) from rfl, Option.bind_some, nI_1, ih (i + 1) n none (fun v e => by cases e) (by omega) (by omega)]; rfl
    | some w =>
      rw [show gl (some w) = nI w from rfl, c_goOn hw hg (ho w rfl), Option.bind_some, nI_1, ih (i + 1) n (on1 G w) (fun v e => (on1_lt hw e).1) (by omega) (by omega)]; rfl
theorem m_gol2 {ρ : Type} {kx : Int32 → Option ρ} {B N : Nat} {G : Gd} {M : Mem} {y4 y6 : Int32} (hw : WG B G) (hs : RS 50 G M) (hN : N < 1000) (m : Nat) : ∀ (i n : Nat) (o : Option Nat), (∀ v, o = some v → v < 4 * gF G) → i + m = N → m < n → fX6_square_52 kx (nI N) y4 y6 M n (gl o) (nI i) = kx (gl (o.bind (itr (on1 G) m))) := by
  have h16 := hw.1
  induction m with
  | zero =>
    intro i n o ho e h
    obtain rfl : i = N := by omega
    obtain ⟨n, rfl⟩ : ∃ k, n = k + 1 := ⟨n - 1, by omega⟩
    rw [fX6_square_52, if_pos (Int32.le_refl _)]
    cases o <;> rfl
  | succ m ih =>
    intro i n o ho e h
    obtain ⟨n, rfl⟩ : ∃ k, n = k + 1 := ⟨n - 1, by omega⟩
    rw [fX6_square_52, if_neg (nI_ge (show i < N by omega) (by omega))]
    cases o with
    | none => rw [if_pos (show gl none < 0 by decide)]; rfl
    | some w =>
      have hl := ho w rfl
      rw [show gl (some w) = nI w from rfl, if_neg (nI_pos (by omega)), m_onward hw hs (by omega), Option.bind_some, nI_1, ih (i + 1) n (on1 G w) (fun v e => (on1_lt hw e).1) (by omega) (by omega)]; rfl
def sqr (f : Nat → Option Nat) (N w0 : Nat) : Nat → Nat → Nat → Option Nat
  | 0, _, _ => none
  | m + 1, i, w => match itr f N w with
    | none => none
    | some v => if trn v 1 = w0 then some i else sqr f N w0 m (i + 1) (trn v 1)
theorem sqr_n {f : Nat → Option Nat} {N w0 m i w : Nat} (h : itr f N w = none) : sqr f N w0 (m + 1) i w = none := by unfold sqr; rw [h]
theorem sqr_v {f : Nat → Option Nat} {N w0 m i w v : Nat} (h : itr f N w = some v) : sqr f N w0 (m + 1) i w = if trn v 1 = w0 then some i else sqr f N w0 m (i + 1) (trn v 1) := by rw [sqr, h]
theorem c_sql {B N w0 : Nat} {G : Gd} {M : Mem} (hw : WG B G) (hg : RG 1 G M) (hN : N < 100) (h0 : w0 < 4 * gF G) (m : Nat) : ∀ (i n w : Nat), w < 4 * gF G → i + m = 65 → m < n → fX5_square_44 ((fX5_tell (-1000000004 : Int32) M).bind fun w15 => some (w15.1, w15.2)) (nI N) (nI w0) M n (nI w) (nI i) = match sqr (on1 G) N w0 m i w with
    | none => some (fnd 3, tellM 3 M)
    | some j => some (nI j, M) := by
  have h16 := hw.1
  induction m with
  | zero =>
    intro i n w hl e h
    obtain rfl : i = 65 := by omega
    obtain ⟨n, rfl⟩ : ∃ k, n = k + 1 := ⟨n - 1, by omega⟩
    rw [fX5_square_44, if_pos (by decide), tb3]; rfl
  | succ m ih =>
    intro i n w hl e h
    obtain ⟨n, rfl⟩ : ∃ k, n = k + 1 := ⟨n - 1, by omega⟩
    have eg : fX0_goOnOften (nI w) (nI N) M = some (gl (itr (on1 G) N w)) := c_gol (kx := fun u4 => some u4) hw hg (by omega) N 0 FU (some w) (fun v e => by cases e; exact hl) (Nat.zero_add _) (by unfold FU; omega)
    rw [fX5_square_44, if_neg (show ¬ (64 : Int32) < nI i from nI_nlt (a := 64) (by omega) (by decide)), eg, Option.bind_some]
    cases hx : itr (on1 G) N w with
    | none => rw [if_pos (show gl none = -1 from rfl), tb3, sqr_n hx]
    | some v =>
      have hv := itr_lt (inj_on hw) hl N hx
      rw [show gl (some v) = nI v from rfl, if_neg (nI_m1 v (by omega)), show (1 : Int32) = nI 1 from rfl, c_turned (by omega) (by decide), sqr_v hx]
      have ht := trn_lt (q := 1) hv
      by_cases q : trn v 1 = w0
      · rw [if_pos (by rw [q]), if_pos q]
      · rw [if_neg (fun z => q ((nI_eq (by omega) (by omega)).mp z)), if_neg q, nI_add, ih (i + 1) n _ ht (by omega) (by omega)]
theorem m_sql {B N w0 : Nat} {G : Gd} {M : Mem} (hw : WG B G) (hs : RS 50 G M) (hN : N < 100) (h0 : w0 < 4 * gF G) (m : Nat) : ∀ (i n w : Nat), w < 4 * gF G → i + m = 65 → m < n → fX6_square_42 ((fX6_finds (-1000000004 : Int32) M).bind fun w17 => some (w17.1, w17.2)) (nI N) (nI w0) M n (nI w) (nI i) = match sqr (on1 G) N w0 m i w with
    | none => some (fnd 3, findM 3 M)
    | some j => some (nI j, M) := by
  have h16 := hw.1
  induction m with
  | zero =>
    intro i n w hl e h
    obtain rfl : i = 65 := by omega
    obtain ⟨n, rfl⟩ : ∃ k, n = k + 1 := ⟨n - 1, by omega⟩
    rw [fX6_square_42, if_pos (by decide), mb3]; rfl
  | succ m ih =>
    intro i n w hl e h
    obtain ⟨n, rfl⟩ : ∃ k, n = k + 1 := ⟨n - 1, by omega⟩
    rw [fX6_square_42, if_neg (show ¬ (64 : Int32) < nI i from nI_nlt (a := 64) (by omega) (by decide)), show (0 : Int32) = nI 0 from rfl, show nI w = gl (some w) from rfl, m_gol2 hw hs (by omega) N 0 FU (some w) (fun v e => by cases e; exact hl) (Nat.zero_add _) (by unfold FU; omega), Option.bind_some]
    cases hx : itr (on1 G) N w with
    | none => rw [if_neg (show ¬ nI 0 ≤ gl none by decide), mb3, sqr_n hx]
    | some v =>
      have hv := itr_lt (inj_on hw) hl N hx
      rw [show gl (some v) = nI v from rfl, if_pos (show nI 0 ≤ nI v from nI_pos' (by omega)), m_tr1 (by omega), sqr_v hx]
      have ht := trn_lt (q := 1) hv
      by_cases q : trn v 1 = w0
      · rw [if_pos (by rw [q]), if_pos q]
      · rw [if_neg (fun z => q ((nI_eq (by omega) (by omega)).mp z)), if_neg q, nI_1, ih (i + 1) n _ ht (by omega) (by omega)]
theorem ok_square {t : Nat} {M : Mem} (ht : t < 512) (hI : Inv t M) (a1 : Int32) (a2 : Int32) (a3 : Int32) : ∃ v w, fX5_square a1 a2 a3 M = some v ∧ fX6_square a1 a2 a3 v.2 = some w ∧ v.1 = w.1 ∧ Inv (t + 1) w.2 := by
  refine ok_of hI (fun G hw hg => ?_)
  have h16 := hw.1
  have e1 : fX6_in a3.toInt64 1 9 = if okr 1 9 a3 = true then 1 else 0 := in_r a3 rfl rfl
  have q1 : a3 < 1 ↔ a3.toInt < 1 := Int32.lt_iff_toInt_lt
  have q2 : a3 ≤ 9 ↔ a3.toInt ≤ 9 := Int32.le_iff_toInt_le
  by_cases h1 : okx (gF G) a1 = true ∧ okx 4 a2 = true
  · by_cases h3 : okr 1 9 a3 = true
    · have hx : 1 ≤ a3.toInt ∧ a3.toInt ≤ 9 := of_decide_eq_true h3
      have q1' : ¬ a3 < 1 := fun z => by have := q1.mp z; omega
      have q2' : a3 ≤ 9 := q2.mpr hx.2
      obtain ⟨N, hN, rfl⟩ := okx_t (n := 10) (x := a3) (by decide) (decide_eq_true ⟨by omega, by omega⟩)
      obtain ⟨a, d, ha, hd, rfl, rfl⟩ := way_t h16 h1
      have hl : 4 * a + d < 4 * gF G := by omega
      have hcl := c_sql (N := N) hw hg (by omega) hl 64 1 FU (4 * a + d) hl (by decide) (by decide)
      have hml := fun M1 (hs : RS 50 G M1) => m_sql (N := N) hw hs (by omega) hl 64 1 FU (4 * a + d) hl (by decide) (by decide)
      have ec : fX5_square (nI a) (nI d) (nI N) M = fX5_square_44 ((fX5_tell (-1000000004 : Int32) M).bind fun w15 => some (w15.1, w15.2)) (nI N) (nI (4 * a + d)) M FU (nI (4 * a + d)) (nI 1) := by
        unfold fX5_square; rw [c_hasWay hw hg, if_neg (b1 h1), if_neg q1', if_pos q2', c_wayOf]; rfl
      have em : ∀ M1, RS 50 G M1 → fX6_square (nI a) (nI d) (nI N) M1 = fX6_square_42 ((fX6_finds (-1000000004 : Int32) M1).bind fun w17 => some (w17.1, w17.2)) (nI N) (nI (4 * a + d)) M1 FU (nI (4 * a + d)) (nI 1) := fun M1 hs => by
        unfold fX6_square; rw [m_isWay hw hs, Option.bind_some, if_neg (b1 h1), e1, if_neg (b1 h3), m_ix2]; rfl
      cases hd : sqr (on1 G) N (4 * a + d) 64 1 (4 * a + d) with
      | none =>
        refine ⟨fnd 3, G, some 3, WG_t hw, o7 (by decide), csp_fin hw hg ?_, fun M1 hs => msp_fin hs ?_⟩
        · rw [ec, hcl, hd]
        · rw [em M1 hs, hml M1 hs, hd]
      | some j =>
        refine ⟨nI j, G, none, WG_t hw, o0, csp_val hg ?_, fun M1 hs => msp_val hs ?_⟩
        · rw [ec, hcl, hd]
        · rw [em M1 hs, hml M1 hs, hd]
    · refine ⟨fnd 0, G, some 0, WG_t hw, o7 (by decide), csp_fin hw hg ?_, fun M1 hs => msp_fin hs ?_⟩
      · unfold fX5_square
        rw [c_hasWay hw hg, if_neg (b1 h1)]
        by_cases z : a3 < 1
        · rw [if_pos z, tb0]
        · rw [if_neg z, if_neg (fun z2 => h3 (decide_eq_true ⟨Int.not_lt.mp (fun y => z (q1.mpr y)), q2.mp z2⟩)), tb0]
      · unfold fX6_square; rw [m_isWay hw hs, Option.bind_some, if_neg (b1 h1), e1, if_pos (b0 h3), mb0]
  · refine ⟨fnd 0, G, some 0, WG_t hw, o7 (by decide), csp_fin hw hg ?_, fun M1 hs => msp_fin hs ?_⟩
    · unfold fX5_square; rw [c_hasWay hw hg, if_pos (b0 h1), tb0]
    · unfold fX6_square; rw [m_isWay hw hs, Option.bind_some, if_pos (b0 h1), mb0]
