/-! MATHS: bumps, dining -/
/-- after how many steps a way bumps -/
def bum (f : Nat → Option Nat) : Nat → Nat → Option Nat → Option Nat
  | 0, _, _ => none
  | _ + 1, i, none => some i
  | m + 1, i, some v => bum f m (i + 1) (f v)
theorem itr_66 {n : Nat} {f : Nat → Option Nat} (h : Inj n f) (hn : n ≤ 64) {w : Nat} (hw : w < n) (h65 : itr f 65 w ≠ none) : itr f 66 w ≠ none := by
  obtain ⟨m, hm, e⟩ := cyc h hw
  rcases e with e | e
  · exact absurd (itr_none e (by omega)) h65
  · intro z
    obtain ⟨c, hc⟩ : ∃ c, 66 = m + 1 + c := ⟨66 - (m + 1), by omega⟩
    rw [hc, itr_add, e] at z
    exact h65 (itr_none (a := c) z (by omega))
theorem c_bul {kx : Option (Int32 × Mem)} {B : Nat} {G : Gd} {M : Mem} (hw : WG B G) (hg : RG 1 G M) (m : Nat) : ∀ (i n w : Nat), w < 4 * gF G → i + m = 65 → m < n → fX5_bumps_28 kx M n (nI w) (nI i) = match bum (on1 G) m i (on1 G w) with
    | none => kx
    | some j => some (nI j, M) := by
  have h16 := hw.1
  induction m with
  | zero =>
    intro i n w hl e h
    obtain rfl : i = 65 := by omega
    obtain ⟨n, rfl⟩ : ∃ k, n = k + 1 := ⟨n - 1, by omega⟩
    rw [fX5_bumps_28, if_pos (by decide)]; rfl
  | succ m ih =>
    intro i n w hl e h
    obtain ⟨n, rfl⟩ : ∃ k, n = k + 1 := ⟨n - 1, by omega⟩
    rw [fX5_bumps_28, if_neg (show ¬ (64 : Int32) < nI i from nI_nlt (a := 64) (by omega) (by decide)), c_goOn hw hg hl, Option.bind_some]
    cases ho : on1 G w with
    | none => rw [if_pos (show gl none = -1 from rfl)]; rfl
    | some v =>
      have hv := (on1_lt hw ho).1
      rw [show gl (some v) = nI v from rfl, if_neg (nI_m1 v (by omega)), nI_1, ih (i + 1) n v hv (by omega) (by omega)]; rfl
theorem m_bul {B : Nat} {G : Gd} {M : Mem} {w0 : Nat} (hw : WG B G) (hs : RS 50 G M) (h0 : w0 < 4 * gF G) (m : Nat) : ∀ (i n : Nat) (o : Option Nat), o = itr (on1 G) (i + 1) w0 → (i = 0 ∨ itr (on1 G) i w0 ≠ none) → i + m = 65 → m < n → fX6_bumps_29 (fun u10 u11 => (if 0 ≤ u10 then ((fX6_finds (-1000000004 : Int32) M).bind fun w13 => some (w13.1, w13.2)) else some (u11, M))) M n (gl o) (nI i) = match bum (on1 G) m i o with
    | none => some (fnd 3, findM 3 M)
    | some j => some (nI j, M) := by
  have h16 := hw.1
  induction m with
  | zero =>
    intro i n o ho hp e h
    obtain rfl : i = 65 := by omega
    obtain ⟨n, rfl⟩ : ∃ k, n = k + 1 := ⟨n - 1, by omega⟩
    have h66 := itr_66 (inj_on hw) (by omega) h0 (hp.resolve_left (by decide))
    cases o with
    | none => exact absurd ho.symm h66
    | some v =>
      have hl := itr_lt (inj_on hw) h0 _ ho.symm
      rw [fX6_bumps_29, show gl (some v) = nI v from rfl, if_neg (nI_pos (by omega)), if_pos (by decide), if_pos (nI_pos' (by omega)), mb3]; rfl
  | succ m ih =>
    intro i n o ho hp e h
    obtain ⟨n, rfl⟩ : ∃ k, n = k + 1 := ⟨n - 1, by omega⟩
    cases o with
    | none => rw [fX6_bumps_29, if_pos (show gl none < 0 by decide), if_neg (show ¬ (0 : Int32) ≤ gl none by decide)]; rfl
    | some v =>
      have hl := itr_lt (inj_on hw) h0 _ ho.symm
      rw [fX6_bumps_29, show gl (some v) = nI v from rfl, if_neg (nI_pos (by omega)), if_neg (show ¬ (64 : Int32) < nI i from nI_nlt (a := 64) (by omega) (by decide)), m_onward hw hs (by omega), Option.bind_some, nI_1, ih (i + 1) n (on1 G v) (by rw [itr_s, ← ho]; rfl) (Or.inr (by rw [← ho]; exact fun z => by cases z)) (by omega) (by omega)]; rfl
theorem ok_bumps {t : Nat} {M : Mem} (ht : t < 512) (hI : Inv t M) (a1 : Int32) (a2 : Int32) : ∃ v w, fX5_bumps a1 a2 M = some v ∧ fX6_bumps a1 a2 v.2 = some w ∧ v.1 = w.1 ∧ Inv (t + 1) w.2 := by
  refine ok_of hI (fun G hw hg => ?_)
  have h16 := hw.1
  by_cases h1 : okx (gF G) a1 = true ∧ okx 4 a2 = true
  · obtain ⟨a, d, ha, hd, rfl, rfl⟩ := way_t h16 h1
    have hl : 4 * a + d < 4 * gF G := by omega
    have hcl := c_bul (kx := ((fX5_tell (-1000000004 : Int32) M).bind fun w6 => some (w6.1, w6.2))) hw hg 65 0 FU (4 * a + d) hl (by decide) (by decide)
    have hml := fun M1 (hs : RS 50 G M1) => m_bul hw hs hl 65 0 FU (on1 G (4 * a + d)) (by show _ = (on1 G (4 * a + d)).bind some; cases on1 G (4 * a + d) <;> rfl) (Or.inl rfl) (by decide) (by decide)
    have ec : fX5_bumps (nI a) (nI d) M = fX5_bumps_28 (((fX5_tell (-1000000004 : Int32) M).bind fun w6 => some (w6.1, w6.2))) M FU (nI (4 * a + d)) (nI 0) := by
      unfold fX5_bumps; rw [c_hasWay hw hg, if_neg (b1 h1), c_wayOf]; rfl
    have em : ∀ M1, RS 50 G M1 → fX6_bumps (nI a) (nI d) M1 = fX6_bumps_29 (fun u10 u11 => (if 0 ≤ u10 then ((fX6_finds (-1000000004 : Int32) M1).bind fun w13 => some (w13.1, w13.2)) else some (u11, M1))) M1 FU (gl (on1 G (4 * a + d))) (nI 0) := fun M1 hs => by
      unfold fX6_bumps; rw [m_isWay hw hs, Option.bind_some, if_neg (b1 h1), m_ix2, m_onward hw hs (by omega), Option.bind_some]; rfl
    cases hb : bum (on1 G) 65 0 (on1 G (4 * a + d)) with
    | none =>
      refine ⟨fnd 3, G, some 3, WG_t hw, o7 (by decide), csp_fin hw hg ?_, fun M1 hs => msp_fin hs ?_⟩
      · rw [ec, hcl, hb]; exact tb3 M
      · rw [em M1 hs, hml M1 hs, hb]
    | some j =>
      refine ⟨nI j, G, none, WG_t hw, o0, csp_val hg ?_, fun M1 hs => msp_val hs ?_⟩
      · rw [ec, hcl, hb]
      · rw [em M1 hs, hml M1 hs, hb]
  · refine ⟨fnd 0, G, some 0, WG_t hw, o7 (by decide), csp_fin hw hg ?_, fun M1 hs => msp_fin hs ?_⟩
    · unfold fX5_bumps; rw [c_hasWay hw hg, if_pos (b0 h1), tb0]
    · unfold fX6_bumps; rw [m_isWay hw hs, Option.bind_some, if_pos (b0 h1), mb0]
