/-! MATHS: dining -/
def din (f : Nat → Option Nat) : Nat → Nat → Option Nat → Option Nat → Option Nat
  | 0, _, _, _ => none
  | m + 1, i, some u, some v => if u / 4 = v / 4 then some i else din f m (i + 1) (f u) (f v)
  | _ + 1, _, _, _ => none
theorem din_1 (f : Nat → Option Nat) (m i : Nat) (o : Option Nat) : din f m i none o = none := by cases m <;> rfl
theorem din_2 (f : Nat → Option Nat) (m i : Nat) (o : Option Nat) : din f m i o none = none := by cases m <;> cases o <;> rfl
theorem c_dil {B : Nat} {G : Gd} {M : Mem} (hw : WG B G) (hg : RG 1 G M) (m : Nat) : ∀ (i n u v : Nat), u < 4 * gF G → v < 4 * gF G → i + m = 65 → m < n → fX5_dine_50 ((fX5_tell (-1000000004 : Int32) M).bind fun w17 => some (w17.1, w17.2)) M n (nI u) (nI v) (nI i) = match din (on1 G) m i (some u) (some v) with
    | none => some (fnd 3, tellM 3 M)
    | some j => some (nI j, M) := by
  have h16 := hw.1
  induction m with
  | zero =>
    intro i n u v hu hv e h
    obtain rfl : i = 65 := by omega
    obtain ⟨n, rfl⟩ : ∃ k, n = k + 1 := ⟨n - 1, by omega⟩
    rw [fX5_dine_50, if_pos (by decide), tb3]; rfl
  | succ m ih =>
    intro i n u v hu hv e h
    obtain ⟨n, rfl⟩ : ∃ k, n = k + 1 := ⟨n - 1, by omega⟩
    rw [fX5_dine_50, if_neg (show ¬ (64 : Int32) < nI i from nI_nlt (a := 64) (by omega) (by decide)), c_fieldOf (by omega), c_fieldOf (by omega), c_goOn hw hg hu, c_goOn hw hg hv]
    by_cases q : u / 4 = v / 4
    · have ez : din (on1 G) (m + 1) i (some u) (some v) = some i := if_pos q
      rw [ez, if_pos (by rw [q])]
    · have ez : din (on1 G) (m + 1) i (some u) (some v) = din (on1 G) m (i + 1) (on1 G u) (on1 G v) := if_neg q
      rw [ez, if_neg (fun z => q ((nI_eq (by omega) (by omega)).mp z)), Option.bind_some, Option.bind_some]
      cases hx : on1 G u with
      | none => rw [if_pos (show gl none = -1 from rfl), din_1, tb3]
      | some x =>
        have h1 := (on1_lt hw hx).1
        rw [show gl (some x) = nI x from rfl, if_neg (nI_m1 x (by omega))]
        cases hy : on1 G v with
        | none => rw [if_pos (show gl none = -1 from rfl), din_2, tb3]
        | some y =>
          have h2 := (on1_lt hw hy).1
          rw [show gl (some y) = nI y from rfl, if_neg (nI_m1 y (by omega)), nI_1, ih (i + 1) n x y h1 h2 (by omega) (by omega)]
theorem m_dil {B : Nat} {G : Gd} {M : Mem} (hw : WG B G) (hs : RS 50 G M) (m : Nat) : ∀ (i n : Nat) (o p : Option Nat), (∀ v, o = some v → v < 4 * gF G) → (∀ v, p = some v → v < 4 * gF G) → i + m = 65 → m < n → fX6_dine_44 ((fX6_finds (-1000000004 : Int32) M).bind fun w17 => some (w17.1, w17.2)) M n (gl o) (gl p) (nI i) = match din (on1 G) m i o p with
    | none => some (fnd 3, findM 3 M)
    | some j => some (nI j, M) := by
  have h16 := hw.1
  induction m with
  | zero =>
    intro i n o p ho hp e h
    obtain rfl : i = 65 := by omega
    obtain ⟨n, rfl⟩ : ∃ k, n = k + 1 := ⟨n - 1, by omega⟩
    rw [fX6_dine_44, if_pos (by decide), mb3]; rfl
  | succ m ih =>
    intro i n o p ho hp e h
    obtain ⟨n, rfl⟩ : ∃ k, n = k + 1 := ⟨n - 1, by omega⟩
    rw [fX6_dine_44, if_neg (show ¬ (64 : Int32) < nI i from nI_nlt (a := 64) (by omega) (by decide))]
    cases o with
    | none => rw [if_pos (show gl none < 0 by decide), din_1, mb3]
    | some u =>
      have hu := ho u rfl
      rw [show gl (some u) = nI u from rfl, if_neg (nI_pos (by omega))]
      cases p with
      | none => rw [if_pos (show gl none < 0 by decide), din_2, mb3]
      | some v =>
        have hv := hp v rfl
        rw [show gl (some v) = nI v from rfl, if_neg (nI_pos (by omega)), div4 (m := u) (by omega), div4 (m := v) (by omega), m_onward hw hs (by omega), m_onward hw hs (by omega)]
        by_cases q : u / 4 = v / 4
        · have ez : din (on1 G) (m + 1) i (some u) (some v) = some i := if_pos q
          rw [ez, if_pos (by rw [q])]
        · have ez : din (on1 G) (m + 1) i (some u) (some v) = din (on1 G) m (i + 1) (on1 G u) (on1 G v) := if_neg q
          rw [ez, if_neg (fun z => q ((nI_eq (by omega) (by omega)).mp z)), Option.bind_some, Option.bind_some, nI_1, ih (i + 1) n _ _ (fun x e => (on1_lt hw e).1) (fun x e => (on1_lt hw e).1) (by omega) (by omega)]
theorem ok_dine {t : Nat} {M : Mem} (ht : t < 512) (hI : Inv t M) (a1 : Int32) (a2 : Int32) (a3 : Int32) (a4 : Int32) : ∃ v w, fX5_dine a1 a2 a3 a4 M = some v ∧ fX6_dine a1 a2 a3 a4 v.2 = some w ∧ v.1 = w.1 ∧ Inv (t + 1) w.2 := by
  refine ok_of hI (fun G hw hg => ?_)
  have h16 := hw.1
  by_cases h1 : okx (gF G) a1 = true ∧ okx 4 a2 = true
  · by_cases h2 : okx (gF G) a3 = true ∧ okx 4 a4 = true
    · obtain ⟨a, d, ha, hd, rfl, rfl⟩ := way_t h16 h1
      obtain ⟨b, c, hb, hc, rfl, rfl⟩ := way_t h16 h2
      have hl : 4 * a + d < 4 * gF G := by omega
      have hl2 : 4 * b + c < 4 * gF G := by omega
      have ec : fX5_dine (nI a) (nI d) (nI b) (nI c) M = fX5_dine_50 ((fX5_tell (-1000000004 : Int32) M).bind fun w17 => some (w17.1, w17.2)) M FU (nI (4 * a + d)) (nI (4 * b + c)) (nI 0) := by
        unfold fX5_dine; rw [c_hasWay hw hg, if_neg (b1 h1), c_hasWay hw hg, if_neg (b1 h2), c_wayOf, c_wayOf]; rfl
      have em : ∀ M1, RS 50 G M1 → fX6_dine (nI a) (nI d) (nI b) (nI c) M1 = fX6_dine_44 ((fX6_finds (-1000000004 : Int32) M1).bind fun w17 => some (w17.1, w17.2)) M1 FU (gl (some (4 * a + d))) (gl (some (4 * b + c))) (nI 0) := fun M1 hs => by
        unfold fX6_dine; rw [m_isWay hw hs, Option.bind_some, if_neg (b1 h1), m_isWay hw hs, Option.bind_some, if_neg (b1 h2), m_ix2, m_ix2]; rfl
      have hcl := c_dil hw hg 65 0 FU (4 * a + d) (4 * b + c) hl hl2 (by decide) (by decide)
      have hml := fun M1 (hs : RS 50 G M1) => m_dil hw hs 65 0 FU (some (4 * a + d)) (some (4 * b + c)) (fun v e => by cases e; exact hl) (fun v e => by cases e; exact hl2) (by decide) (by decide)
      cases hd : din (on1 G) 65 0 (some (4 * a + d)) (some (4 * b + c)) with
      | none =>
        refine ⟨fnd 3, G, some 3, WG_t hw, o7 (by decide), csp_fin hw hg ?_, fun M1 hs => msp_fin hs ?_⟩
        · rw [ec, hcl, hd]
        · rw [em M1 hs, hml M1 hs, hd]
      | some j =>
        refine ⟨nI j, G, none, WG_t hw, o0, csp_val hg ?_, fun M1 hs => msp_val hs ?_⟩
        · rw [ec, hcl, hd]
        · rw [em M1 hs, hml M1 hs, hd]
    · refine ⟨fnd 0, G, some 0, WG_t hw, o7 (by decide), csp_fin hw hg ?_, fun M1 hs => msp_fin hs ?_⟩
      · unfold fX5_dine; rw [c_hasWay hw hg, if_neg (b1 h1), c_hasWay hw hg, if_pos (b0 h2), tb0]
      · unfold fX6_dine; rw [m_isWay hw hs, Option.bind_some, if_neg (b1 h1), m_isWay hw hs, Option.bind_some, if_pos (b0 h2), mb0]
  · refine ⟨fnd 0, G, some 0, WG_t hw, o7 (by decide), csp_fin hw hg ?_, fun M1 hs => msp_fin hs ?_⟩
    · unfold fX5_dine; rw [c_hasWay hw hg, if_pos (b0 h1), tb0]
    · unfold fX6_dine; rw [m_isWay hw hs, Option.bind_some, if_pos (b0 h1), mb0]
