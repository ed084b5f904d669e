/-! MATHS: the model's glue, walker, items -/
theorem m_iGlue {T : Tpe} {B s : Nat} {G : Gd} {M : Mem} (hT : okT T) (hw : WG B G) (hs : s ≤ T.1) (hg : RS 50 G M) (h : MTk T s 0 M) : MRes T (pGlue T G s) (fX6_glueItem M) M := by
  have h16 := hw.1
  have a1 := adv_le hs
  have a2 := adv_le a1
  have a3 := adv_le a2
  have a4 := adv_le a3
  obtain ⟨M1, p1, c1, f1, _⟩ := m_w1 hT hs h
  have g1 := RS_49 hg f1
  obtain ⟨M2, p2, f2, r2⟩ := m_fieldH hT hw a1 g1 c1
  have g2 := RS_49 g1 f2
  have f12 := F49_tr f1 f2
  unfold pGlue fX6_glueItem
  rw [p1, Option.bind_some, p2, Option.bind_some]
  have hend : ∀ (y : Int32) (M3 : Mem) (s' : Nat), MTk T s' 1 M3 → ((fX6_fieldHere M3).bind fun w11 => ((if (w11.1 49 12) = 0 then ((fX6_sideHere (w11.1 49 11) (0 : Int32) y w11).bind fun w17 => some (w17.1, w17.2)) else some ((0 : Int32), w11)).bind fun t15 => (if (t15.2.1 49 12) = 0 then ((fX6_glues y t15.1 t15.2).bind fun w20 => some w20) else some t15.2))) = some M3 := by
    intro y M3 s' hm
    rw [m_fieldW hm, Option.bind_some, hm.2.2.2.1, if_neg (by decide), Option.bind_some]
    show (if M3.1 49 12 = 0 then _ else some M3) = _
    rw [hm.2.2.2.1, if_neg (by decide)]
  rcases r2 with ⟨n1, c2, v2⟩ | ⟨n1, c2⟩
  · rw [c2.2.2.2.1, if_pos rfl, v2]
    have hfl : mnum T (adv T s) < gF G := n1.2
    rcases m_sideH (x2 := 0) (x3 := -1) hT hw a2 hfl g2 c2 (Or.inl rfl) with ⟨hd, y, M3, p3, c3, f3⟩ | ⟨d, hd, r3⟩
    · have p3 : fX6_sideHere (nI (mnum T (adv T s))) 0 (-1) M2 = some (y, M3) := p3
      rw [look_0 n1 hd, p3, Option.bind_some, Option.bind_some]
      exact MRes_f (M' := M3) (hend y M3 _ c3) c3 (FN_49 (F49_tr f12 f3))
    · have hdl := sd_lt hd
      rw [look_1 n1 hd]
      show MRes T (if gG G (4 * mnum T (adv T s) + d) = none then pGlue2 T G (4 * mnum T (adv T s) + d) (look T (gF G) (adv T (adv T (adv T s)))) else (false, G, adv T (adv T s))) _ M
      rcases r3 with ⟨⟨_, q⟩, M3, p3, c3, f3⟩ | ⟨q, M3, p3, c3, f3⟩
      · have p3 : fX6_sideHere (nI (mnum T (adv T s))) 0 (-1) M2 = some (nI (4 * mnum T (adv T s) + d), M3) := p3
        have q1 : gG G (4 * mnum T (adv T s) + d) = none := q.mpr rfl
        have g3 := RS_49 g2 f3
        have f13 := F49_tr f12 f3
        rw [if_pos q1, p3, Option.bind_some, Option.bind_some]
        show MRes T _ ((fX6_fieldHere M3).bind fun w11 => ((if (w11.1 49 12) = 0 then ((fX6_sideHere (w11.1 49 11) (0 : Int32) (nI (4 * mnum T (adv T s) + d)) w11).bind fun w17 => some (w17.1, w17.2)) else some ((0 : Int32), w11)).bind fun t15 => (if (t15.2.1 49 12) = 0 then ((fX6_glues (nI (4 * mnum T (adv T s) + d)) t15.1 t15.2).bind fun w20 => some w20) else some t15.2))) M
        obtain ⟨M4, p4, f4, r4⟩ := m_fieldH hT hw a3 g3 c3
        have g4 := RS_49 g3 f4
        have f14 := F49_tr f13 f4
        rw [p4, Option.bind_some]
        rcases r4 with ⟨n2, c4, v4⟩ | ⟨n2, c4⟩
        · rw [c4.2.2.2.1, if_pos rfl, v4]
          have hfl2 : mnum T (adv T (adv T (adv T s))) < gF G := n2.2
          rcases m_sideH (x2 := 0) (x3 := nI (4 * mnum T (adv T s) + d)) hT hw a4 hfl2 g4 c4 (Or.inl rfl) with ⟨hd2, y, M5, p5, c5, f5⟩ | ⟨d2, hd2, r5⟩
          · have p5 : fX6_sideHere (nI (mnum T (adv T (adv T (adv T s))))) 0 (nI (4 * mnum T (adv T s) + d)) M4 = some (y, M5) := p5
            rw [look_0 n2 hd2, p5, Option.bind_some, Option.bind_some]
            refine MRes_f (M' := M5) ?_ c5 (FN_49 (F49_tr f14 f5))
            show (if M5.1 49 12 = 0 then _ else some M5) = _
            rw [c5.2.2.2.1, if_neg (by decide)]
          · have hdl2 := sd_lt hd2
            rw [look_1 n2 hd2]
            show MRes T (if gG G (4 * mnum T (adv T (adv T (adv T s))) + d2) = none ∧ 4 * mnum T (adv T (adv T (adv T s))) + d2 ≠ 4 * mnum T (adv T s) + d then (true, gSetG G (gJoin (gG G) (4 * mnum T (adv T s) + d) (4 * mnum T (adv T (adv T (adv T s))) + d2)), adv T (adv T (adv T (adv T (adv T s))))) else (false, G, adv T (adv T (adv T (adv T s))))) _ M
            rcases r5 with ⟨⟨z1, z2⟩, M5, p5, c5, f5⟩ | ⟨z, M5, p5, c5, f5⟩
            · have p5 : fX6_sideHere (nI (mnum T (adv T (adv T (adv T s))))) 0 (nI (4 * mnum T (adv T s) + d)) M4 = some (nI (4 * mnum T (adv T (adv T (adv T s))) + d2), M5) := p5
              have g5 := RS_49 g4 f5
              rw [if_pos ⟨z2.mpr rfl, fun w => z1 (by rw [w])⟩, p5, Option.bind_some, Option.bind_some]
              refine MRes_t (M' := setI (setI M5 50 (18 + (4 * mnum T (adv T s) + d)) (nI (4 * mnum T (adv T (adv T (adv T s))) + d2 + 1))) 50 (18 + (4 * mnum T (adv T (adv T (adv T s))) + d2)) (nI (4 * mnum T (adv T s) + d + 1))) ?_ (MTk_50 c5 (One_tr (One_set _ _ _ _) (One_set _ _ _ _))) (RS_join h16 g5 (by omega) (by omega)) (FN_tr (FN_49 (F49_tr f14 f5)) (FN_50 (One_tr (One_set _ _ _ _) (One_set _ _ _ _))))
              show (if M5.1 49 12 = 0 then ((fX6_glues (nI (4 * mnum T (adv T s) + d)) (nI (4 * mnum T (adv T (adv T (adv T s))) + d2)) M5).bind fun w20 => some w20) else some M5) = _
              rw [c5.2.2.2.1, if_pos rfl, m_glues (by omega) (by omega)]; rfl
            · have p5 : fX6_sideHere (nI (mnum T (adv T (adv T (adv T s))))) 0 (nI (4 * mnum T (adv T s) + d)) M4 = some (nI (4 * mnum T (adv T (adv T (adv T s))) + d2), M5) := p5
              rw [if_neg (fun w => z ⟨fun e => w.2 ((nI_eq (by omega) (by omega)).mp e), ⟨fun _ => rfl, fun _ => w.1⟩⟩), p5, Option.bind_some, Option.bind_some]
              refine MRes_f (M' := M5) ?_ c5 (FN_49 (F49_tr f14 f5))
              show (if M5.1 49 12 = 0 then _ else some M5) = _
              rw [c5.2.2.2.1, if_neg (by decide)]
        · rw [c4.2.2.2.1, if_neg (by decide), Option.bind_some, look_n n2]
          refine MRes_f (M' := M4) ?_ c4 (FN_49 f14)
          show (if M4.1 49 12 = 0 then _ else some M4) = _
          rw [c4.2.2.2.1, if_neg (by decide)]
      · have p3 : fX6_sideHere (nI (mnum T (adv T s))) 0 (-1) M2 = some (nI (4 * mnum T (adv T s) + d), M3) := p3
        have q1 : ¬ gG G (4 * mnum T (adv T s) + d) = none := fun z => q ⟨nI_m1 _ (by omega), ⟨fun _ => rfl, fun _ => z⟩⟩
        rw [if_neg q1, p3, Option.bind_some, Option.bind_some]
        exact MRes_f (M' := M3) (hend _ M3 _ c3) c3 (FN_49 (F49_tr f12 f3))
  · rw [c2.2.2.2.1, if_neg (by decide), Option.bind_some, look_n n1]
    exact MRes_f (M' := M2) (hend 0 M2 _ c2) c2 (FN_49 f12)
theorem RS_cm {G : Gd} {M : Mem} (h16 : gF G ≤ 16) (hs : RS 50 G M) (hW : gW G < 6) (kd f d : Nat) (hd : d < 4) : RS 50 (gSetK G (gW G + 1) (va_up (gK G) (gW G) (kd, 4 * f + d, 0, 0))) (setI (cmM M (gW G) kd f d) 50 1 (nI (gW G + 1))) ∧ One 50 M (setI (cmM M (gW G) kd f d) 50 1 (nI (gW G + 1))) := by
  refine ⟨RS_wk hs h16 hW (Nat.le_refl _) (Or.inl rfl) _ (fun j q1 q2 => ?_) (sI_s _ _ _ _) ?_, ?_⟩
  · unfold cmM
    rw [sI_j _ _ (by omega), sI_j _ _ (by omega), sI_j _ _ (by omega), sI_j _ _ (by omega), sI_j _ _ (by omega), sI_j _ _ (by omega)]
  · unfold RK cmM
    refine ⟨?_, ?_, ?_, ?_, ?_⟩
    · rw [sI_j _ _ (by omega), sI_j _ _ (by omega), sI_j _ _ (by omega), sI_j _ _ (by omega), sI_j _ _ (by omega), sI_s]
    · rw [sI_j _ _ (by omega), sI_j _ _ (by omega), sI_j _ _ (by omega), sI_j _ _ (by omega), sI_s]
      show nI f = nI ((4 * f + d) / 4)
      exact congrArg nI (by omega)
    · rw [sI_j _ _ (by omega), sI_j _ _ (by omega), sI_j _ _ (by omega), sI_s]
      show nI d = nI ((4 * f + d) % 4)
      exact congrArg nI (by omega)
    · rw [sI_j _ _ (by omega), sI_j _ _ (by omega), sI_s]; rfl
    · rw [sI_j _ _ (by omega), sI_s]; rfl
  · unfold cmM
    exact One_tr (One_tr (One_tr (One_tr (One_tr (One_set _ _ _ _) (One_set _ _ _ _)) (One_set _ _ _ _)) (One_set _ _ _ _)) (One_set _ _ _ _)) (One_set _ _ _ _)
theorem m_iWalk {T : Tpe} {B s kd : Nat} {G : Gd} {M : Mem} (hT : okT T) (hw : WG B G) (hs : s ≤ T.1) (hk : kd < 6) (hg : RS 50 G M) (h : MTk T s 0 M) : MRes T (pWalk T G s kd) (fX6_walkerItem (nI kd) M) M := by
  have h16 := hw.1
  have h6 := hw.2.1
  have a1 := adv_le hs
  have a2 := adv_le a1
  have a3 := adv_le a2
  have hle : (6 : Int32) ≤ nI (gW G) ↔ 6 ≤ gW G := nI_leI (a := 6) (by decide) (by omega)
  -- once wrong, the rest does nothing
  have hend : ∀ (M3 : Mem) (s' : Nat), MTk T s' 1 M3 → ∃ M', ((fX6_fieldHere M3).bind fun w11 => ((if (w11.1 49 12) = 0 then ((fX6_sideNamed w11).bind fun v17 => some v17) else some (0 : Int32)).bind fun t15 => ((fX6_wants (if t15 < 0 then (0 : Int32) else (1 : Int32)) w11).bind fun w20 => (if (w20.1 49 12) = 0 then ((fX6_comes (nI kd) (w11.1 49 11) t15 w20).bind fun w23 => some w23.2) else some w20)))) = some M' ∧ MTk T s' 1 M' ∧ F49 M3 M' := by
    intro M3 s' hm
    obtain ⟨M', p, c, f, _⟩ := m_ww hm (if (0 : Int32) < 0 then (0 : Int32) else (1 : Int32))
    refine ⟨M', ?_, c, f⟩
    rw [m_fieldW hm, Option.bind_some, hm.2.2.2.1, if_neg (show ¬ (1 : Int32) = 0 by decide), Option.bind_some, p, Option.bind_some, c.2.2.2.1, if_neg (show ¬ (1 : Int32) = 0 by decide)]
  unfold pWalk fX6_walkerItem
  rw [ld50_1, Option.bind_some, hg.2.1]
  by_cases hW : gW G < 6
  · rw [if_pos hW, if_neg (show ¬ (6 : Int32) ≤ nI (gW G) from fun z => by have := hle.mp z; omega)]
    obtain ⟨M1, p1, c1, f1, _⟩ := m_w1 hT hs h
    have g1 := RS_49 hg f1
    have hv := wv_lt hT a1
    have hl := lgw hv (ck_lt 14 (by decide))
    rw [p1, Option.bind_some, m_word hT a1 c1, Option.bind_some, ck_14]
    by_cases q : wv T (adv T s) = CK 14
    · rw [if_pos (hl.mpr q), if_pos q]
      obtain ⟨M2, p2, c2, f2, _⟩ := m_w1 hT a1 c1
      have g2 := RS_49 g1 f2
      have f12 := F49_tr f1 f2
      obtain ⟨M3, p3, f3, r3⟩ := m_fieldH hT hw a2 g2 c2
      have g3 := RS_49 g2 f3
      have f13 := F49_tr f12 f3
      rw [p2, Option.bind_some]
      rcases r3 with ⟨n1, c3, v3⟩ | ⟨n1, c3⟩
      · have hfl : mnum T (adv T (adv T s)) < gF G := n1.2
        rw [p3, Option.bind_some, c3.2.2.2.1, if_pos rfl, m_side hT a3 c3, Option.bind_some, Option.bind_some, v3]
        cases hd : sd (wv T (adv T (adv T (adv T s)))) with
        | none =>
          obtain ⟨M4, p4, c4, f4, _⟩ := m_w0 c3
          rw [look_0 n1 hd, if_pos (show gl none < 0 by decide), p4, Option.bind_some]
          refine MRes_f (M' := M4) ?_ c4 (FN_49 (F49_tr f13 f4))
          rw [c4.2.2.2.1, if_neg (show ¬ (1 : Int32) = 0 by decide)]
        | some d =>
          have hdl := sd_lt hd
          obtain ⟨M4, p4, c4, f4, _⟩ := m_w1 hT a3 c3
          have g4 := RS_49 g3 f4
          obtain ⟨r1, r2⟩ := RS_cm h16 g4 hW kd (mnum T (adv T (adv T s))) d hdl
          rw [look_1 n1 hd, show gl (some d) = nI d from rfl, if_neg (nI_pos (by omega)), p4, Option.bind_some]
          refine MRes_t (M' := setI (cmM M4 (gW G) kd (mnum T (adv T (adv T s))) d) 50 1 (nI (gW G + 1))) ?_ (MTk_50 c4 r2) r1 (FN_tr (FN_49 (F49_tr f13 f4)) (FN_50 r2))
          rw [c4.2.2.2.1, if_pos rfl, m_comes g4 hW]; rfl
      · obtain ⟨M4, p4, c4, f4⟩ := hend M3 _ c3
        rw [look_n n1]
        refine MRes_f (M' := M4) ?_ c4 (FN_49 (F49_tr f13 f4))
        rw [m_fieldW c3] at p4
        rw [p3]; exact p4
    · rw [if_neg (fun z => q (hl.mp z)), if_neg q]
      obtain ⟨M2, p2, c2, f2, _⟩ := m_w0 c1
      obtain ⟨M4, p4, c4, f4⟩ := hend M2 _ c2
      rw [p2, Option.bind_some]
      exact MRes_f (M' := M4) p4 c4 (FN_49 (F49_tr f1 (F49_tr f2 f4)))
  · rw [if_neg hW, if_pos (hle.mpr (by omega))]
    obtain ⟨M1, p1, c1, f1, _⟩ := m_w0 h
    obtain ⟨M2, p2, c2, f2, _⟩ := m_ww c1 0
    obtain ⟨M4, p4, c4, f4⟩ := hend M2 _ c2
    rw [p1, Option.bind_some, m_wordw hT hs c1, Option.bind_some, if_neg (show ¬ lg_cmp 0 (52 : Int64) = 0 by decide), p2, Option.bind_some]
    exact MRes_f (M' := M4) p4 c4 (FN_49 (F49_tr f1 (F49_tr f2 f4)))
theorem ck_ex : ∀ k, k < 15 → (k = 0 ∨ k = 2 ∨ k = 7) → knd (CK k) = none := by decide +kernel
theorem m_item {T : Tpe} {B s : Nat} {G : Gd} {M : Mem} (hT : okT T) (hw : WG B G) (hs : s ≤ T.1) (hg : RS 50 G M) (h : MTk T s 0 M) : MRes T (pItem T G s) (fX6_item M) M := by
  have hv := wv_lt hT hs
  have l0 := lgw hv (ck_lt 0 (by decide))
  have l2 := lgw hv (ck_lt 2 (by decide))
  have l7 := lgw hv (ck_lt 7 (by decide))
  have z1 : ∀ (r : PR) (f : Option Mem), MRes T r f M → MRes T r (f.bind fun w => some w) M := by
    rintro r f ⟨M', e, k⟩
    exact ⟨M', by rw [e]; rfl, k⟩
  unfold pItem fX6_item
  rw [m_kindH hT hs h, Option.bind_some, m_word hT hs h, Option.bind_some, ck_0, ck_2, ck_7]
  by_cases q0 : wv T s = CK 0
  · rw [if_pos q0, q0, ck_ex 0 (by decide) (by decide), if_pos (show gl none < 0 by decide)]
    rw [if_pos ((lg_eq _ _).mpr rfl)]
    exact z1 _ _ (m_iField hT hw hs hg h)
  · rw [if_neg q0]
    by_cases q2 : wv T s = CK 2
    · rw [if_pos q2, if_neg (fun z => q0 (l0.mp z)), q2, ck_ex 2 (by decide) (by decide), if_pos (show gl none < 0 by decide)]
      rw [if_pos ((lg_eq _ _).mpr rfl)]
      exact z1 _ _ (m_iGlue hT hw hs hg h)
    · rw [if_neg q2]
      by_cases q7 : wv T s = CK 7
      · rw [if_pos q7, if_neg (fun z => q0 (l0.mp z)), if_neg (fun z => q2 (l2.mp z)), q7, ck_ex 7 (by decide) (by decide), if_pos (show gl none < 0 by decide)]
        rw [if_pos ((lg_eq _ _).mpr rfl)]
        exact z1 _ _ (m_iCut hT hw hs hg h)
      · rw [if_neg q7, if_neg (fun z => q0 (l0.mp z)), if_neg (fun z => q2 (l2.mp z)), if_neg (fun z => q7 (l7.mp z))]
        cases hk : knd (wv T s) with
        | none =>
          rw [if_pos (show gl none < 0 by decide)]
          obtain ⟨M1, p1, c1, f1, _⟩ := m_w0 h
          exact MRes_f (M' := M1) (by rw [p1]; rfl) c1 (FN_49 f1)
        | some kd =>
          have hkd := knd_lt hk
          rw [show gl (some kd) = nI kd from rfl, if_neg (nI_pos (by omega))]
          exact z1 _ _ (m_iWalk hT hw hs hkd hg h)
