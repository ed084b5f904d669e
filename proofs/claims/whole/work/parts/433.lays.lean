/-! MATHS: a sheet laid on the fields -/
theorem ok_of2 {t : Nat} {M : Mem} {f5 f6 : Mem → Option (Int32 × Mem)} (hI : Inv t M) (h : ∀ G, WG (1400 * t) G → RG 1 G M → ∃ r G' o, WG (1400 * (t + 1)) G' ∧ (∀ i, o = some i → i < 7) ∧ CSp f5 M r G' o ∧ ∀ M1, RS 50 G M1 → FC M M1 → MSp f6 M1 r G' o) : ∃ v w, f5 M = some v ∧ f6 v.2 = some w ∧ v.1 = w.1 ∧ Inv (t + 1) w.2 := by
  obtain ⟨⟨G, hw, hg, hs⟩, hR⟩ := hI
  obtain ⟨r, G', o, hw', ho, ⟨M1, e1, g1, f1, b1⟩, hm⟩ := h G hw hg
  obtain ⟨M2, e2, s2, f2, b2⟩ := hm M1 (RS_cg hs (f1.1 50 (by omega)).1) f1
  exact ⟨(r, M1), (r, M2), e1, e2, rfl, ⟨G', hw', RG_cg hw' g1 (fun c q1 q2 => (f2.1 c (by omega)).1), s2⟩, REST_mono (REST_step ho hR f1 b1 f2 b2) (by omega)⟩
theorem WG_rough {B : Nat} {G : Gd} (hw : WG B G) {a r : Nat} (hr : r ≤ 9) : WG B (gSetR G (va_up (gR G) a r)) := by
  refine ⟨hw.1, hw.2.1, fun f hf => ?_, hw.2.2.2.1, hw.2.2.2.2⟩
  show va_up (gR G) a r f ≤ 9
  unfold va_up
  split
  · omega
  · exact hw.2.2.1 f hf
theorem RG_rough {B : Nat} {G : Gd} {M : Mem} (hw : WG B G) (hg : RG 1 G M) (a r : Nat) : RG 1 (gSetR G (va_up (gR G) a r)) (setI M 9 a (nI r)) := by
  obtain ⟨g1, g2, g3, g4, g5⟩ := hg
  refine ⟨by rw [sI_c M _ _ (by decide)]; exact g1, by rw [sI_c M _ _ (by decide)]; exact g2, fun f hf => ?_, fun w hw => by rw [sI_c M _ _ (by decide)]; exact g4 w hw, fun k hk => ?_⟩
  · show (setI M 9 a (nI r)).1 9 f = nI (va_up (gR G) a r f)
    rw [sI_if]
    unfold va_up
    by_cases hq : f = a
    · rw [if_pos ⟨rfl, hq⟩, if_pos hq]
    · rw [if_neg (fun z => hq z.2), if_neg hq]; exact g3 f hf
  · have := hw.2.1
    have hk' : k < gW G := hk
    unfold RW; rw [sI_c M _ _ (by omega)]; exact g5 k hk
theorem RS_rough {G : Gd} {M : Mem} (hs : RS 50 G M) {a : Nat} (ha : a < 16) (r : Nat) : RS 50 (gSetR G (va_up (gR G) a r)) (setI M 50 (2 + a) (nI r)) := by
  obtain ⟨g1, g2, g3, g4, g5⟩ := hs
  refine ⟨by rw [sI_j M _ (by omega)]; exact g1, by rw [sI_j M _ (by omega)]; exact g2, fun f hf => ?_, fun w hw => by rw [sI_j M _ (by omega)]; exact g4 w hw, fun k hk => ?_⟩
  · show (setI M 50 (2 + a) (nI r)).1 50 (2 + f) = nI (va_up (gR G) a r f)
    rw [sI_if]
    unfold va_up
    by_cases hq : f = a
    · rw [if_pos ⟨rfl, by omega⟩, if_pos hq]
    · rw [if_neg (fun z => hq (by omega)), if_neg hq]; exact g3 f hf
  · obtain ⟨k1, k2, k3, k4, k5⟩ := g5 k hk
    exact ⟨by rw [sI_j M _ (by omega)]; exact k1, by rw [sI_j M _ (by omega)]; exact k2, by rw [sI_j M _ (by omega)]; exact k3, by rw [sI_j M _ (by omega)]; exact k4, by rw [sI_j M _ (by omega)]; exact k5⟩
def lok (v : Int64) : Bool := decide (0 ≤ v.toInt ∧ v.toInt ≤ 9)
theorem lok_t {v : Int64} (h : lok v = true) : ∃ r, r ≤ 9 ∧ v = lN r ∧ v.toInt32 = nI r := by
  have h := of_decide_eq_true h
  have h0 : ¬ v < 0 := fun q => by have := Int64.lt_iff_toInt_lt.mp q; rw [show (0 : Int64).toInt = 0 from rfl] at this; omega
  obtain ⟨k, hk, rfl⟩ := pk_lOf h0
  rw [pk_lT hk] at h
  exact ⟨k, by omega, rfl, lN_i k⟩
def lay (f : Nat → Int64) : Nat → Nat → Gd → Nat → Gd × Nat
  | 0, _, G, c => (G, c)
  | m + 1, i, G, c => if lok (f i) = true then lay f m (i + 1) (gSetR G (va_up (gR G) i (f i).toInt.toNat)) (c + 1) else lay f m (i + 1) G c
theorem lok_r {v : Int64} {r : Nat} (hr : r ≤ 9) (e : v = lN r) : v.toInt.toNat = r := by
  rw [e, pk_lT (by omega)]; rfl
theorem lay_wg {B : Nat} {f : Nat → Int64} (m : Nat) : ∀ (i c : Nat) (G : Gd), WG B G → WG B (lay f m i G c).1 := by
  induction m with
  | zero => intro i c G h; exact h
  | succ m ih =>
    intro i c G h
    by_cases q : lok (f i) = true
    · obtain ⟨r, hr, e, _⟩ := lok_t q
      rw [lay, if_pos q]
      exact ih (i + 1) (c + 1) _ (WG_rough h (by rw [lok_r hr e]; exact hr))
    · rw [lay, if_neg q]; exact ih (i + 1) c G h
theorem c_lyl {ρ : Type} {kx : Int32 → Mem → Option ρ} {f : Nat → Int64} {s z F B : Nat} (hs : s < 4) (hz : z ≤ 40) (hF : F ≤ 16) (m : Nat) : ∀ (i n c : Nat) (M : Mem) (G : Gd), WG B G → gF G = F → RG 1 G M → M.1 (40 + 2 * s) 1 = nI z → (∀ j, j < 40 → M.2 (41 + 2 * s) j = f j) → i + m = min z F → m < n → ∃ M', fX5_lays_29 kx (40 + 2 * s) n (nI c) (nI i) M = kx (nI (lay f m i G c).2) M' ∧ RG 1 (lay f m i G c).1 M' ∧ One 9 M M' := by
  induction m with
  | zero =>
    intro i n c M G hw hF' hg e1 e2 e h
    obtain ⟨n, rfl⟩ : ∃ k, n = k + 1 := ⟨n - 1, by omega⟩
    refine ⟨M, ?_, hg, One_rf _ _⟩
    rw [fX5_lays_29, e1, hg.1, hF']
    by_cases q : z ≤ i
    · rw [if_pos ((nI_leI (by omega) (by omega)).mpr q)]; rfl
    · rw [if_neg (fun w => q ((nI_leI (by omega) (by omega)).mp w)), if_pos ((nI_leI (by omega) (by omega)).mpr (by omega))]; rfl
  | succ m ih =>
    intro i n c M G hw hF' hg e1 e2 e h
    obtain ⟨n, rfl⟩ : ∃ k, n = k + 1 := ⟨n - 1, by omega⟩
    have hiz : i < z := by omega
    have hiF : i < F := by omega
    rw [fX5_lays_29, e1, hg.1, hF', if_neg (nI_ge hiz (by omega)), if_neg (nI_ge hiF (by omega)), ldJ_n (by omega) (by decide), Option.bind_some, show 40 + 2 * s + 1 = 41 + 2 * s by omega, e2 i (by omega)]
    by_cases q : lok (f i) = true
    · obtain ⟨r, hr, er, e32⟩ := lok_t q
      have hlt : ¬ lg_cmp (f i) 0 < 0 := fun w => by
        have := (lg_lt _ _).mp w
        have h9 := of_decide_eq_true q
        rw [show (0 : Int64).toInt = 0 from rfl] at this; omega
      have hgt : ¬ 0 < lg_cmp (f i) 9 := fun w => by
        have := (lg_gt _ _).mp w
        have h9 := of_decide_eq_true q
        rw [show (9 : Int64).toInt = 9 from rfl] at this; omega
      have hmk : fX0_makeRough (nI i) (nI r) M = some (setI M 9 i (nI r)) := by
        unfold fX0_makeRough
        rw [c_hasField hw hg, hF', if_neg (b1 (okx_tt hiF (by omega))), stI_n (by omega) (by decide)]; rfl
      rw [if_neg hlt, if_neg hgt, e32, hmk, Option.bind_some, Option.bind_some]
      obtain ⟨M', k1, k2, k3⟩ := ih (i + 1) n (c + 1) (setI M 9 i (nI r)) (gSetR G (va_up (gR G) i r)) (WG_rough hw hr) hF' (RG_rough hw hg i r) (by rw [sI_c _ _ _ (by omega)]; exact e1) (fun j hj => e2 j hj) (by omega) (by omega)
      rw [lay, if_pos q, lok_r hr er]
      exact ⟨M', by rw [← k1, nI_1, nI_1], k2, One_tr (One_set _ _ _ _) k3⟩
    · rw [lay, if_neg q]
      obtain ⟨M', k1, k2, k3⟩ := ih (i + 1) n c M G hw hF' hg e1 e2 (by omega) (by omega)
      refine ⟨M', ?_, k2, k3⟩
      have hq : ¬ (0 ≤ (f i).toInt ∧ (f i).toInt ≤ 9) := fun w => q (decide_eq_true w)
      by_cases w : lg_cmp (f i) 0 < 0
      · rw [if_pos w, Option.bind_some, nI_1, ← k1]
      · have h0 : ¬ (f i).toInt < 0 := fun y => w ((lg_lt _ _).mpr y)
        rw [if_neg w, if_pos ((lg_gt _ _).mpr (by rw [show (9 : Int64).toInt = 9 from rfl]; omega)), Option.bind_some, nI_1, ← k1]
theorem m_lyl {ρ : Type} {kx : Int32 → Mem → Option ρ} {f : Nat → Int64} {s z F : Nat} (hs : s < 4) (hz : z ≤ 40) (hF : F ≤ 16) (m : Nat) : ∀ (i n c : Nat) (M : Mem) (G : Gd), gF G = F → RS 50 G M → M.1 58 s = nI z → (∀ j, j < 40 → M.2 59 (40 * s + j) = f j) → i + m = min z F → m < n → ∃ M', fX6_lays_21 kx (nI s) n (nI c) (nI i) M = kx (nI (lay f m i G c).2) M' ∧ RS 50 (lay f m i G c).1 M' ∧ One 50 M M' := by
  induction m with
  | zero =>
    intro i n c M G hF' hg e1 e2 e h
    obtain ⟨n, rfl⟩ : ∃ k, n = k + 1 := ⟨n - 1, by omega⟩
    refine ⟨M, ?_, hg, One_rf _ _⟩
    rw [fX6_lays_21, ldI_n hs (by decide), Option.bind_some, e1, ld50_0, Option.bind_some, hg.1, hF']
    by_cases q : z ≤ i
    · rw [if_pos ((nI_leI (by omega) (by omega)).mpr q)]; rfl
    · rw [if_neg (fun w => q ((nI_leI (by omega) (by omega)).mp w)), if_pos ((nI_leI (by omega) (by omega)).mpr (by omega))]; rfl
  | succ m ih =>
    intro i n c M G hF' hg e1 e2 e h
    obtain ⟨n, rfl⟩ : ∃ k, n = k + 1 := ⟨n - 1, by omega⟩
    have hiz : i < z := by omega
    have hiF : i < F := by omega
    rw [fX6_lays_21, ldI_n hs (by decide), Option.bind_some, e1, ld50_0, Option.bind_some, hg.1, hF', if_neg (nI_ge hiz (by omega)), if_neg (nI_ge hiF (by omega)), m_ix5, ldJ_n (by omega) (by decide), Option.bind_some, e2 i (by omega), in_J]
    by_cases q : lok (f i) = true
    · obtain ⟨r, hr, er, e32⟩ := lok_t q
      rw [if_neg (b1 (show (0 : Int64).toInt ≤ (f i).toInt ∧ (f i).toInt ≤ (9 : Int64).toInt from of_decide_eq_true q)), m_ix4, e32, stI_n (by omega) (by decide), Option.bind_some, Option.bind_some]
      obtain ⟨M', k1, k2, k3⟩ := ih (i + 1) n (c + 1) (setI M 50 (2 + i) (nI r)) (gSetR G (va_up (gR G) i r)) hF' (RS_rough hg (by omega) r) (by rw [sI_c _ _ _ (by omega)]; exact e1) (fun j hj => e2 j hj) (by omega) (by omega)
      rw [lay, if_pos q, lok_r hr er]
      exact ⟨M', by rw [← k1, nI_1, nI_1], k2, One_tr (One_set _ _ _ _) k3⟩
    · rw [lay, if_neg q]
      obtain ⟨M', k1, k2, k3⟩ := ih (i + 1) n c M G hF' hg e1 e2 (by omega) (by omega)
      refine ⟨M', ?_, k2, k3⟩
      rw [if_pos (b0 (show ¬ ((0 : Int64).toInt ≤ (f i).toInt ∧ (f i).toInt ≤ (9 : Int64).toInt) from fun w => q (decide_eq_true w))), Option.bind_some, nI_1, ← k1]
theorem ok_lays {t : Nat} {M : Mem} (ht : t < 512) (hI : Inv t M) (a1 : Int32) : ∃ v w, fX5_lays a1 M = some v ∧ fX6_lays a1 v.2 = some w ∧ v.1 = w.1 ∧ Inv (t + 1) w.2 := by
  by_cases h1 : okx 4 a1 = true
  · obtain ⟨s, hs, rfl⟩ := okx_t (by decide) h1
    obtain ⟨bt, z, e1, e2, e3, e4, e5, e6, e7, e8⟩ := hI.2.2.2.2 s hs
    have hb : bt ≤ 64 := by omega
    by_cases q : bt = 0
    · refine ⟨(fnd 5, tellM 5 M), (fnd 5, findM 5 (tellM 5 M)), ?_, ?_, rfl, Inv_fin (i := 5) hI (by decide)⟩
      · unfold fX5_lays; rw [shf_c hs hb e4, Option.bind_some, if_pos q, if_neg (fnd_ne 5 (by decide)), c_tell (by decide)]; rfl
      · unfold fX6_lays; rw [shf_m hs hb (by rw [tell_1 5 M (by decide)]; exact e5), Option.bind_some, if_pos q, if_neg (fnd_ne 5 (by decide)), m_finds (by decide)]; rfl
    · refine ok_of2 hI (fun G hw hg => ?_)
      have h16 := hw.1
      obtain ⟨Ma, p1, r1, o1⟩ := c_lyl (kx := fun u17 M18 => some (u17, M18)) (f := M.2 (41 + 2 * s)) hs e2 h16 (min z (gF G)) 0 FU 0 M G hw rfl hg e6 (fun j _ => rfl) (Nat.zero_add _) (by unfold FU; omega)
      refine ⟨nI (lay (M.2 (41 + 2 * s)) (min z (gF G)) 0 G 0).2, _, none, WG_t (lay_wg _ 0 0 G hw), o0, ⟨Ma, ?_, r1, FC_one o1 (by omega) (by omega) (by omega), o1.1 48 (by omega)⟩, fun M1 hs1 fc => ?_⟩
      · unfold fX5_lays
        rw [shf_c hs hb e4, Option.bind_some, if_neg q, if_pos rfl, ldS_n hs, Option.bind_some]
        exact p1
      · obtain ⟨Mb, p2, r2, o2⟩ := m_lyl (kx := fun u18 M19 => some (u18, M19)) (f := M.2 (41 + 2 * s)) hs e2 h16 (min z (gF G)) 0 FU 0 M1 G rfl hs1 (by rw [(fc.1 58 (by omega)).1]; exact e7) (fun j hj => by rw [(fc.1 59 (by omega)).2]; exact (e8 j hj).symm) (Nat.zero_add _) (by unfold FU; omega)
        refine ⟨Mb, ?_, r2, FM_one o2 (by omega) (by omega), o2.1 54 (by omega)⟩
        unfold fX6_lays
        rw [shf_m hs hb (by rw [(fc.1 57 (by omega)).1]; exact e5), Option.bind_some, if_neg q, if_pos rfl]
        exact p2
  · refine ⟨(fnd 0, tellM 0 M), (fnd 0, findM 0 (tellM 0 M)), ?_, ?_, rfl, Inv_fin (i := 0) hI (by decide)⟩
    · unfold fX5_lays; rw [shf_cb h1, Option.bind_some, if_neg (fnd_ne 0 (by decide)), c_tell (by decide)]; rfl
    · unfold fX6_lays; rw [shf_mb h1, Option.bind_some, if_neg (fnd_ne 0 (by decide)), m_finds (by decide)]; rfl
