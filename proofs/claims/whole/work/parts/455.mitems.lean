/-! MATHS: the model reads a text -/
def FN (M M' : Mem) : Prop := (∀ c, c ≠ 49 → c ≠ 50 → M'.1 c = M.1 c) ∧ M'.2 = M.2 ∧ M'.1 49 5 = M.1 49 5
theorem FN_rf (M : Mem) : FN M M := ⟨fun _ _ _ => rfl, rfl, rfl⟩
theorem FN_tr {M M1 M2 : Mem} (h : FN M M1) (k : FN M1 M2) : FN M M2 := ⟨fun c q1 q2 => (k.1 c q1 q2).trans (h.1 c q1 q2), k.2.1.trans h.2.1, k.2.2.trans h.2.2⟩
theorem FN_49 {M M' : Mem} (h : F49 M M') : FN M M' := ⟨fun c q1 _ => h.1.1 c q1, h.1.2, h.2⟩
theorem FN_50 {M M' : Mem} (h : One 50 M M') : FN M M' := ⟨fun c _ q2 => h.1 c q2, h.2, by rw [h.1 49 (by decide)]⟩
theorem MTk_50 {T : Tpe} {s : Nat} {b : Int32} {M M' : Mem} (h : MTk T s b M) (o : One 50 M M') : MTk T s b M' := by
  obtain ⟨t0, t1, t2, t3, tb⟩ := h
  refine ⟨by rw [o.1 49 (by decide)]; exact t0, by rw [o.1 49 (by decide)]; exact t1, by rw [o.1 49 (by decide)]; exact t2, by rw [o.1 49 (by decide)]; exact t3, fun x hx => by rw [o.1 56 (by decide)]; exact tb x hx⟩
theorem RS_49 {G : Gd} {M M' : Mem} (h : RS 50 G M) (f : F49 M M') : RS 50 G M' := RS_cg h (f.1.1 50 (by decide))
def MRes (T : Tpe) (r : PR) (f : Option Mem) (M : Mem) : Prop := ∃ M', f = some M' ∧ (r.1 = true → MTk T r.2.2 0 M' ∧ RS 50 r.2.1 M') ∧ (r.1 = false → MTk T r.2.2 1 M') ∧ FN M M'
theorem MRes_f {T : Tpe} {s : Nat} {G : Gd} {f : Option Mem} {M M' : Mem} (h : f = some M') (c : MTk T s 1 M') (r : FN M M') : MRes T (false, G, s) f M := ⟨M', h, fun q => (by cases q), fun _ => c, r⟩
theorem MRes_t {T : Tpe} {s : Nat} {G : Gd} {f : Option Mem} {M M' : Mem} (h : f = some M') (c : MTk T s 0 M') (g : RS 50 G M') (r : FN M M') : MRes T (true, G, s) f M := ⟨M', h, fun _ => ⟨c, g⟩, fun q => (by cases q), r⟩
theorem wv_lt {T : Tpe} (hT : okT T) {s : Nat} (hs : s ≤ T.1) : wv T s < 2 ^ 61 := by
  have hT1 := hT.1
  have hge := tkE_ge hT hs
  unfold wv
  split
  · next q =>
    exact scd_lt _ (fun j hj => (run_all T isL (120 - s) s (s + j) (by omega) (by have := tkE_L q; unfold rn1 at this; rw [← this]; omega)).2)
  · exact Nat.two_pow_pos 61
theorem lgw {v c : Nat} (hv : v < 2 ^ 61) (hc : c < 2 ^ 61) : lg_cmp (lN v) (lN c) = 0 ↔ v = c := by
  rw [lg_eq, pk_lEQ (by omega) (by omega)]
theorem ck_lt : ∀ k, k < 15 → CK k < 2 ^ 61 := by decide +kernel
theorem ck_0 : (6591876 : Int64) = lN (CK 0) := by decide +kernel
theorem ck_1 : (19387624 : Int64) = lN (CK 1) := by decide +kernel
theorem ck_2 : (242341 : Int64) = lN (CK 2) := by decide +kernel
theorem ck_3 : (15190664 : Int64) = lN (CK 3) := by decide +kernel
theorem ck_4 : (165492 : Int64) = lN (CK 4) := by decide +kernel
theorem ck_5 : (20436616 : Int64) = lN (CK 5) := by decide +kernel
theorem ck_6 : (759412 : Int64) = lN (CK 6) := by decide +kernel
theorem ck_7 : (3764 : Int64) = lN (CK 7) := by decide +kernel
theorem ck_8 : (773205170 : Int64) = lN (CK 8) := by decide +kernel
theorem ck_9 : (676010845682 : Int64) = lN (CK 9) := by decide +kernel
theorem ck_10 : (20917134514 : Int64) = lN (CK 10) := by decide +kernel
theorem ck_11 : (2553 : Int64) = lN (CK 11) := by decide +kernel
theorem ck_12 : (102322354 : Int64) = lN (CK 12) := by decide +kernel
theorem ck_13 : (3124 : Int64) = lN (CK 13) := by decide +kernel
theorem ck_14 : (52 : Int64) = lN (CK 14) := by decide +kernel
theorem if_lg {v k : Nat} (hv : v < 2 ^ 61) (hk : k < 15) (d : Nat) (o : Option Nat) (x : Option Int32) (h : x = some (gl o)) : (if lg_cmp (lN v) (lN (CK k)) = 0 then some (nI d) else x) = some (gl (if v = CK k then some d else o)) := by
  have := lgw hv (ck_lt k hk)
  by_cases q : v = CK k
  · rw [if_pos (this.mpr q), if_pos q]; rfl
  · rw [if_neg (fun z => q (this.mp z)), if_neg q]; exact h
theorem m_side {T : Tpe} {s : Nat} {M : Mem} (hT : okT T) (hs : s ≤ T.1) (h : MTk T s 0 M) : fX6_sideNamed M = some (gl (sd (wv T s))) := by
  have hv := wv_lt hT hs
  unfold fX6_sideNamed sd
  rw [m_word hT hs h, Option.bind_some, ck_3, ck_4, ck_5, ck_6]
  exact if_lg hv (by decide) 0 _ _ (if_lg hv (by decide) 1 _ _ (if_lg hv (by decide) 2 _ _ (if_lg hv (by decide) 3 _ _ rfl)))
theorem m_kindH {T : Tpe} {s : Nat} {M : Mem} (hT : okT T) (hs : s ≤ T.1) (h : MTk T s 0 M) : fX6_kindHere M = some (gl (knd (wv T s))) := by
  have hv := wv_lt hT hs
  unfold fX6_kindHere knd
  rw [m_word hT hs h, Option.bind_some, ck_8, ck_9, ck_10, ck_11, ck_12, ck_13]
  exact if_lg hv (by decide) 0 _ _ (if_lg hv (by decide) 1 _ _ (if_lg hv (by decide) 2 _ _ (if_lg hv (by decide) 3 _ _ (if_lg hv (by decide) 4 _ _ (if_lg hv (by decide) 5 _ _ rfl)))))
theorem m_fieldH {T : Tpe} {B s : Nat} {G : Gd} {M : Mem} (hT : okT T) (hw : WG B G) (hs : s ≤ T.1) (hg : RS 50 G M) (h : MTk T s 0 M) : ∃ M', fX6_fieldHere M = some M' ∧ F49 M M' ∧ ((nb T s (gF G) ∧ MTk T (adv T s) 0 M' ∧ M'.1 49 11 = nI (mnum T s)) ∨ (¬ nb T s (gF G) ∧ MTk T s 1 M')) := by
  have h16 := hw.1
  obtain ⟨M', p, f, r⟩ := m_numb (lim := gF G) hT hs (by omega) h
  refine ⟨M', ?_, f, r⟩
  unfold fX6_fieldHere
  rw [ld50_0, Option.bind_some, hg.1, p]; rfl
theorem m_fieldW {T : Tpe} {s : Nat} {M : Mem} (h : MTk T s 1 M) : fX6_fieldHere M = some M := by
  unfold fX6_fieldHere
  rw [ld50_0, Option.bind_some, m_numw h]; rfl
theorem m_iField {T : Tpe} {B s : Nat} {G : Gd} {M : Mem} (hT : okT T) (hw : WG B G) (hs : s ≤ T.1) (hg : RS 50 G M) (h : MTk T s 0 M) : MRes T (pField T G s) (fX6_fieldItem M) M := by
  have h16 := hw.1
  have a1 := adv_le hs
  have a2 := adv_le a1
  have hle : (16 : Int32) ≤ nI (gF G) ↔ 16 ≤ gF G := nI_leI (a := 16) (by decide) (by omega)
  unfold pField fX6_fieldItem
  rw [ld50_0, Option.bind_some, hg.1]
  by_cases hF : gF G < 16
  · rw [if_pos hF, if_neg (show ¬ (16 : Int32) ≤ nI (gF G) from fun z => by have := hle.mp z; omega)]
    obtain ⟨M1, p1, c1, f1, _⟩ := m_w1 hT hs h
    have g1 := RS_49 hg f1
    have hv := wv_lt hT a1
    rw [p1, Option.bind_some, m_word hT a1 c1, Option.bind_some, ck_1]
    have hl := lgw hv (ck_lt 1 (by decide))
    by_cases q : wv T (adv T s) = CK 1
    · rw [if_pos (hl.mpr q), if_pos q]
      obtain ⟨M2, p2, c2, f2, _⟩ := m_w1 hT a1 c1
      have g2 := RS_49 g1 f2
      obtain ⟨M3, p3, f3, r3⟩ := m_numb (lim := 10) hT a2 (by decide) c2
      have g3 := RS_49 g2 f3
      have p3 : fX6_number 0 9 M2 = some M3 := p3
      have f13 := F49_tr f1 (F49_tr f2 f3)
      rw [p2, Option.bind_some, p3, Option.bind_some, Option.bind_some]
      rcases r3 with ⟨r1, r2, r3⟩ | ⟨r1, r2⟩
      · rw [if_pos (nbB_t.mpr r1)]
        refine MRes_t (M' := setI (setI M3 50 (2 + gF G) (nI (mnum T (adv T (adv T s))))) 50 0 (nI (gF G + 1))) ?_ (MTk_50 r2 (One_tr (One_set _ _ _ _) (One_set _ _ _ _))) (RS_field g3 hF _) (FN_tr (FN_49 f13) (FN_50 (One_tr (One_set _ _ _ _) (One_set _ _ _ _))))
        show (if M3.1 49 12 = 0 then ((fX6_adds (M3.1 49 11) M3).bind fun w17 => some w17.2) else some M3) = _
        rw [r2.2.2.2.1, if_pos rfl, r3, m_adds g3 hF]; rfl
      · rw [if_neg (fun z => r1 (nbB_t.mp z))]
        refine MRes_f (M' := M3) ?_ r2 (FN_49 f13)
        show (if M3.1 49 12 = 0 then ((fX6_adds (M3.1 49 11) M3).bind fun w17 => some w17.2) else some M3) = _
        rw [r2.2.2.2.1, if_neg (by decide)]
    · rw [if_neg (fun z => q (hl.mp z)), if_neg q, Option.bind_some]
      refine MRes_t (M' := setI (setI M1 50 (2 + gF G) (nI 0)) 50 0 (nI (gF G + 1))) ?_ (MTk_50 c1 (One_tr (One_set _ _ _ _) (One_set _ _ _ _))) (RS_field g1 hF _) (FN_tr (FN_49 f1) (FN_50 (One_tr (One_set _ _ _ _) (One_set _ _ _ _))))
      show (if M1.1 49 12 = 0 then ((fX6_adds (nI 0) M1).bind fun w17 => some w17.2) else some M1) = _
      rw [c1.2.2.2.1, if_pos rfl, m_adds g1 hF]; rfl
  · rw [if_neg hF, if_pos (hle.mpr (by omega))]
    obtain ⟨M1, p1, c1, f1, _⟩ := m_w0 h
    rw [p1, Option.bind_some, m_wordw hT hs c1, Option.bind_some, if_neg (by decide), Option.bind_some]
    refine MRes_f (M' := M1) ?_ c1 (FN_49 f1)
    show (if M1.1 49 12 = 0 then _ else some M1) = _
    rw [c1.2.2.2.1, if_neg (by decide)]
/-- a side named behind a field -/
theorem m_sideH {T : Tpe} {B s f x2 : Nat} {x3 : Int32} {G : Gd} {M : Mem} (hT : okT T) (hw : WG B G) (hs : s ≤ T.1) (hf : f < gF G) (hg : RS 50 G M) (h : MTk T s 0 M) (hx : x2 = 0 ∨ x2 = 1) : (sd (wv T s) = none ∧ ∃ y M', fX6_sideHere (nI f) (nI x2) x3 M = some (y, M') ∧ MTk T s 1 M' ∧ F49 M M') ∨ (∃ d, sd (wv T s) = some d ∧ (((¬ nI (4 * f + d) = x3 ∧ (gG G (4 * f + d) = none ↔ x2 = 0)) ∧ ∃ M', fX6_sideHere (nI f) (nI x2) x3 M = some (nI (4 * f + d), M') ∧ MTk T (adv T s) 0 M' ∧ F49 M M') ∨ (¬ (¬ nI (4 * f + d) = x3 ∧ (gG G (4 * f + d) = none ↔ x2 = 0)) ∧ ∃ M', fX6_sideHere (nI f) (nI x2) x3 M = some (nI (4 * f + d), M') ∧ MTk T s 1 M' ∧ F49 M M'))) := by
  have h16 := hw.1
  unfold fX6_sideHere
  rw [m_side hT hs h, Option.bind_some]
  cases hd : sd (wv T s) with
  | none =>
    refine Or.inl ⟨rfl, ?_⟩
    obtain ⟨M1, p1, c1, f1, _⟩ := m_w0 h
    rw [if_pos (show gl none < 0 by decide), Option.bind_some, p1]
    exact ⟨_, M1, rfl, c1, f1⟩
  | some d =>
    have hdl := sd_lt hd
    refine Or.inr ⟨d, rfl, ?_⟩
    rw [show gl (some d) = nI d from rfl, if_neg (nI_pos (by omega)), m_ix2, m_ix3, m_glued hg (by omega), Option.bind_some]
    by_cases q1 : nI (4 * f + d) = x3
    · refine Or.inr ⟨fun z => z.1 q1, ?_⟩
      obtain ⟨M1, p1, c1, f1, _⟩ := m_w0 h
      rw [if_pos q1, Option.bind_some, p1]
      exact ⟨M1, rfl, c1, f1⟩
    · rw [if_neg q1]
      have hgl : (if gm (gG G (4 * f + d)) ≤ 0 then (0 : Int32) else 1) = nI x2 ↔ (gG G (4 * f + d) = none ↔ x2 = 0) := by
        have := (gm_le hw (4 * f + d)).2.1
        by_cases q : gG G (4 * f + d) = none
        · rw [if_pos (this.mpr q)]
          rcases hx with rfl | rfl
          · exact ⟨fun _ => ⟨fun _ => rfl, fun _ => q⟩, fun _ => rfl⟩
          · exact ⟨fun z => absurd z (by decide), fun z => absurd (z.mp q) (by decide)⟩
        · rw [if_neg (fun z => q (this.mp z))]
          rcases hx with rfl | rfl
          · exact ⟨fun z => absurd z (by decide), fun z => absurd (z.mpr rfl) q⟩
          · exact ⟨fun _ => ⟨fun z => absurd z q, fun z => absurd z (by decide)⟩, fun _ => rfl⟩
      by_cases q2 : gG G (4 * f + d) = none ↔ x2 = 0
      · refine Or.inl ⟨⟨q1, q2⟩, ?_⟩
        obtain ⟨M1, p1, c1, f1, _⟩ := m_w1 hT hs h
        rw [if_pos (hgl.mpr q2), Option.bind_some, p1]
        exact ⟨M1, rfl, c1, f1⟩
      · refine Or.inr ⟨fun z => q2 z.2, ?_⟩
        obtain ⟨M1, p1, c1, f1, _⟩ := m_w0 h
        rw [if_neg (fun z => q2 (hgl.mp z)), Option.bind_some, p1]
        exact ⟨M1, rfl, c1, f1⟩
theorem look_n {T : Tpe} {F s : Nat} (h : ¬ nb T s F) : look T F s = (none, s) := by unfold look; rw [if_neg (fun z => h (nbB_t.mp z))]
theorem look_0 {T : Tpe} {F s : Nat} (h : nb T s F) (hd : sd (wv T (adv T s)) = none) : look T F s = (none, adv T s) := by unfold look; rw [if_pos (nbB_t.mpr h), hd]; rfl
theorem look_1 {T : Tpe} {F s d : Nat} (h : nb T s F) (hd : sd (wv T (adv T s)) = some d) : look T F s = (some (4 * mnum T s + d), adv T s) := by unfold look; rw [if_pos (nbB_t.mpr h), hd]; rfl
theorem m_iCut {T : Tpe} {B s : Nat} {G : Gd} {M : Mem} (hT : okT T) (hw : WG B G) (hs : s ≤ T.1) (hg : RS 50 G M) (h : MTk T s 0 M) : MRes T (pCut T G s) (fX6_cutItem M) M := by
  have h16 := hw.1
  have a1 := adv_le hs
  have a2 := adv_le a1
  obtain ⟨M1, p1, c1, f1, _⟩ := m_w1 hT hs h
  have g1 := RS_49 hg f1
  obtain ⟨M2, p2, f2, r2⟩ := m_fieldH hT hw a1 g1 c1
  have g2 := RS_49 g1 f2
  have f12 := F49_tr f1 f2
  unfold pCut fX6_cutItem
  rw [p1, Option.bind_some, p2, Option.bind_some]
  rcases r2 with ⟨n1, c2, v2⟩ | ⟨n1, c2⟩
  · rw [c2.2.2.2.1, if_pos rfl, v2]
    have hfl : mnum T (adv T s) < gF G := n1.2
    rcases m_sideH (x2 := 1) (x3 := -1) hT hw a2 hfl g2 c2 (Or.inr rfl) with ⟨hd, y, M3, p3, c3, f3⟩ | ⟨d, hd, r3⟩
    · have p3 : fX6_sideHere (nI (mnum T (adv T s))) 1 (-1) M2 = some (y, M3) := p3
      rw [look_0 n1 hd, p3, Option.bind_some, Option.bind_some]
      refine MRes_f (M' := M3) ?_ c3 (FN_49 (F49_tr f12 f3))
      show (if M3.1 49 12 = 0 then _ else some M3) = _
      rw [c3.2.2.2.1, if_neg (by decide)]
    · have hdl := sd_lt hd
      rw [look_1 n1 hd]
      show MRes T (pCut2 T G (4 * mnum T (adv T s) + d) (adv T (adv T s)) (gG G (4 * mnum T (adv T s) + d))) _ M
      rcases r3 with ⟨⟨_, q⟩, M3, p3, c3, f3⟩ | ⟨q, M3, p3, c3, f3⟩
      · have p3 : fX6_sideHere (nI (mnum T (adv T s))) 1 (-1) M2 = some (nI (4 * mnum T (adv T s) + d), M3) := p3
        have g3 := RS_49 g2 f3
        rw [p3, Option.bind_some, Option.bind_some]
        cases hgw : gG G (4 * mnum T (adv T s) + d) with
        | none => exact absurd (q.mp hgw) (by decide)
        | some v =>
          have hv := (hw.2.2.2.1 _ v hgw).2.1
          refine MRes_t (M' := setI (setI M3 50 (18 + v) 0) 50 (18 + (4 * mnum T (adv T s) + d)) 0) ?_ (MTk_50 c3 (One_tr (One_set _ _ _ _) (One_set _ _ _ _))) (RS_cut h16 g3 (by omega) (by omega)) (FN_tr (FN_49 (F49_tr f12 f3)) (FN_50 (One_tr (One_set _ _ _ _) (One_set _ _ _ _))))
          show (if M3.1 49 12 = 0 then ((fX6_cuts (nI (4 * mnum T (adv T s) + d)) M3).bind fun w12 => some w12) else some M3) = _
          rw [c3.2.2.2.1, if_pos rfl, m_cuts hw g3 hgw]; rfl
      · have p3 : fX6_sideHere (nI (mnum T (adv T s))) 1 (-1) M2 = some (nI (4 * mnum T (adv T s) + d), M3) := p3
        rw [p3, Option.bind_some, Option.bind_some]
        cases hgw : gG G (4 * mnum T (adv T s) + d) with
        | none =>
          refine MRes_f (M' := M3) ?_ c3 (FN_49 (F49_tr f12 f3))
          show (if M3.1 49 12 = 0 then _ else some M3) = _
          rw [c3.2.2.2.1, if_neg (by decide)]
        | some v =>
          exfalso
          refine q ⟨nI_m1 _ (by omega), ⟨fun z => ?_, fun z => absurd z (by decide)⟩⟩
          rw [hgw] at z; cases z
  · rw [c2.2.2.2.1, if_neg (by decide), Option.bind_some, look_n n1]
    refine MRes_f (M' := M2) ?_ c2 (FN_49 f12)
    show (if M2.1 49 12 = 0 then _ else some M2) = _
    rw [c2.2.2.2.1, if_neg (by decide)]
