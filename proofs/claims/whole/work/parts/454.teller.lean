/-! MATHS: the class tells a text -/
theorem c_tGlue {T : Tpe} {B s : Nat} {G : Gd} {M : Mem} (hT : okT T) (hw : WG B G) (hs : s ≤ T.1) (hg : RG 1 G M) (h : CT T s M) : CRes T (pGlue T G s) (fX3_tellGlue M) M := by
  have h16 := hw.1
  have a1 := adv_le hs
  obtain ⟨M1, p1, c1, o1⟩ := c_adv hT hs h
  have g1 := RG_36 hw hg o1
  obtain ⟨M2, p2, c2, o2⟩ := c_look hT hw a1 g1 c1
  have g2 := RG_36 hw g1 o2
  have o12 := One_tr o1 o2
  unfold pGlue fX3_tellGlue
  rw [p1, Option.bind_some, p2, Option.bind_some]
  have l2 := (look_le hT (F := gF G) a1).2
  cases h1 : look T (gF G) (adv T s) with
  | mk o s2 =>
    rw [h1] at c2 l2
    have c2 : CT T s2 M2 := c2
    have l2 : s2 ≤ T.1 := l2
    cases o with
    | none => exact CRes_f (M' := M2) (by rw [if_pos (show gl none = -1 from rfl)]) c2 (FR_36 o12)
    | some one =>
      have hone := look_lt h1
      show CRes T (if gG G one = none then pGlue2 T G one (look T (gF G) (adv T s2)) else (false, G, s2)) _ M
      rw [show gl (some one, s2).1 = nI one from rfl, if_neg (nI_m1 one (by omega)), c_isFree hw g2 hone, Option.bind_some]
      by_cases q1 : gG G one = none
      · rw [if_pos q1, if_pos q1, if_neg (show ¬ (1 : Int32) = 0 by decide)]
        obtain ⟨M3, p3, c3, o3⟩ := c_adv hT l2 c2
        have g3 := RG_36 hw g2 o3
        have b1' := adv_le l2
        obtain ⟨M4, p4, c4, o4⟩ := c_look hT hw b1' g3 c3
        have g4 := RG_36 hw g3 o4
        have o14 := One_tr o12 (One_tr o3 o4)
        rw [p3, Option.bind_some, p4, Option.bind_some]
        have m2 := (look_le hT (F := gF G) b1').2
        cases h2 : look T (gF G) (adv T s2) with
        | mk o' s4 =>
          rw [h2] at c4 m2
          have c4 : CT T s4 M4 := c4
          have m2 : s4 ≤ T.1 := m2
          cases o' with
          | none => exact CRes_f (M' := M4) (by rw [if_pos (show gl none = -1 from rfl)]) c4 (FR_36 o14)
          | some two =>
            have htwo := look_lt h2
            show CRes T (if gG G two = none ∧ two ≠ one then (true, gSetG G (gJoin (gG G) one two), adv T s4) else (false, G, s4)) _ M
            rw [show gl (some two, s4).1 = nI two from rfl, if_neg (nI_m1 two (by omega)), c_isFree hw g4 htwo, Option.bind_some]
            by_cases q2 : gG G two = none
            · rw [if_pos q2, if_neg (show ¬ (1 : Int32) = 0 by decide)]
              by_cases q3 : two = one
              · rw [if_pos (show nI two = nI one by rw [q3]), if_neg (fun z => z.2 q3)]
                exact CRes_f rfl c4 (FR_36 o14)
              · obtain ⟨M5, p5, c5, o5⟩ := c_adv hT m2 c4
                have g5 := RG_36 hw g4 o5
                rw [if_neg (show ¬ nI two = nI one from fun z => q3 ((nI_eq (by omega) (by omega)).mp z)), if_pos ⟨q2, q3⟩, p5, Option.bind_some, c_join hw g5 hone htwo]
                refine CRes_t rfl (CT_fr c5 ?_ ?_) (RG_join hw g5) (FR_tr (FR_36 (One_tr o14 o5)) (FR_tr (FR_set _ _ _ (by decide) (by decide)) (FR_set _ _ _ (by decide) (by decide))))
                · rw [sI_c _ _ _ (by decide), sI_c _ _ _ (by decide)]
                · rw [sI_c _ _ _ (by decide), sI_c _ _ _ (by decide)]
            · rw [if_neg q2, if_pos (show (0 : Int32) = 0 from rfl), if_neg (fun z => q2 z.1)]
              exact CRes_f rfl c4 (FR_36 o14)
      · rw [if_neg q1, if_neg q1, if_pos (show (0 : Int32) = 0 from rfl)]
        exact CRes_f rfl c2 (FR_36 o12)
theorem c_tCut {T : Tpe} {B s : Nat} {G : Gd} {M : Mem} (hT : okT T) (hw : WG B G) (hs : s ≤ T.1) (hg : RG 1 G M) (h : CT T s M) : CRes T (pCut T G s) (fX3_tellCut M) M := by
  have h16 := hw.1
  have a1 := adv_le hs
  obtain ⟨M1, p1, c1, o1⟩ := c_adv hT hs h
  have g1 := RG_36 hw hg o1
  obtain ⟨M2, p2, c2, o2⟩ := c_look hT hw a1 g1 c1
  have g2 := RG_36 hw g1 o2
  have o12 := One_tr o1 o2
  unfold pCut fX3_tellCut
  rw [p1, Option.bind_some, p2, Option.bind_some]
  have l2 := (look_le hT (F := gF G) a1).2
  cases h1 : look T (gF G) (adv T s) with
  | mk o s2 =>
    rw [h1] at c2 l2
    have c2 : CT T s2 M2 := c2
    have l2 : s2 ≤ T.1 := l2
    cases o with
    | none => exact CRes_f (M' := M2) (by rw [if_pos (show gl none = -1 from rfl)]) c2 (FR_36 o12)
    | some w =>
      have hl := look_lt h1
      show CRes T (pCut2 T G w s2 (gG G w)) _ M
      rw [show gl (some w, s2).1 = nI w from rfl, if_neg (nI_m1 w (by omega)), c_isFree hw g2 hl, Option.bind_some]
      cases hgw : gG G w with
      | none =>
        rw [if_pos (show (none : Option Nat) = none from rfl), if_neg (show ¬ (1 : Int32) = 0 by decide)]
        exact CRes_f rfl c2 (FR_36 o12)
      | some v =>
        obtain ⟨M3, p3, c3, o3⟩ := c_adv hT l2 c2
        have g3 := RG_36 hw g2 o3
        rw [if_neg (show ¬ some v = none from fun z => by cases z), if_pos (show (0 : Int32) = 0 from rfl), p3, Option.bind_some, c_sever hw g3 hgw]
        refine CRes_t rfl (CT_fr c3 ?_ ?_) (RG_cut hw g3) (FR_tr (FR_36 (One_tr o12 o3)) (FR_tr (FR_set _ _ _ (by decide) (by decide)) (FR_set _ _ _ (by decide) (by decide))))
        · rw [sI_c _ _ _ (by decide), sI_c _ _ _ (by decide)]
        · rw [sI_c _ _ _ (by decide), sI_c _ _ _ (by decide)]
theorem RG_aw {B : Nat} {G : Gd} {M : Mem} (hw : WG B G) (hg : RG 1 G M) (hW : gW G < 6) (kd w : Nat) : RG 1 (gSetK G (gW G + 1) (va_up (gK G) (gW G) (kd, w, 0, 0))) (setI (awM M (gW G) kd w) 1 1 (nI (gW G + 1))) ∧ FR M (setI (awM M (gW G) kd w) 1 1 (nI (gW G + 1))) ∧ (setI (awM M (gW G) kd w) 1 1 (nI (gW G + 1))).1 36 = M.1 36 ∧ (setI (awM M (gW G) kd w) 1 1 (nI (gW G + 1))).1 37 = M.1 37 := by
  have e : ∀ c, ¬ (1 ≤ c ∧ c ≤ 10) → (setI (awM M (gW G) kd w) 1 1 (nI (gW G + 1))).1 c = M.1 c := fun c q => by
    unfold awM
    rw [sI_c _ _ _ (by omega), sI_c _ _ _ (by omega), sI_c _ _ _ (by omega), sI_c _ _ _ (by omega), sI_c _ _ _ (by omega)]
  refine ⟨RG_wk hw hg hW (Nat.le_refl _) (Or.inl rfl) _ (fun c q1 q2 q3 => ?_) ?_ (sI_s _ _ _ _) ?_, ⟨fun c q _ => e c q, rfl⟩, e 36 (by omega), e 37 (by omega)⟩
  · unfold awM; rw [sI_c _ _ _ (by omega), sI_c _ _ _ q3, sI_c _ _ _ q3, sI_c _ _ _ q3, sI_c _ _ _ q3]
  · rw [sI_j _ _ (by decide)]; unfold awM; rw [sI_c _ _ _ (by omega), sI_c _ _ _ (by omega), sI_c _ _ _ (by omega), sI_c _ _ _ (by omega)]
  · unfold RW awM
    rw [sI_c _ _ _ (by omega)]
    refine ⟨?_, ?_, ?_, ?_⟩
    · rw [sI_j _ _ (by decide), sI_j _ _ (by decide), sI_j _ _ (by decide), sI_s]
    · rw [sI_j _ _ (by decide), sI_j _ _ (by decide), sI_s]
    · rw [sI_j _ _ (by decide), sI_s]; rfl
    · rw [sI_s]; rfl
theorem c_tWalk {T : Tpe} {B s : Nat} {G : Gd} {M : Mem} (hT : okT T) (hw : WG B G) (hs : s ≤ T.1) (hg : RG 1 G M) (h : CT T s M) : CRes T (match knd (wv T s) with | none => (false, G, s) | some kd => pWalk T G s kd) (fX3_tellWalker M) M := by
  have h16 := hw.1
  have h6 := hw.2.1
  have a1 := adv_le hs
  have a2 := adv_le a1
  unfold fX3_tellWalker
  rw [c_kind hT hs h, Option.bind_some]
  cases hk : knd (wv T s) with
  | none =>
    rw [if_pos (show gl none = -1 from rfl)]
    exact CRes_f rfl h (FR_rf _)
  | some kd =>
    have hkd := knd_lt hk
    show CRes T (pWalk T G s kd) _ M
    unfold pWalk
    have hlt : nI (gW G) < (6 : Int32) ↔ gW G < 6 := nI_ltI (b := 6) (by omega) (by decide)
    rw [show gl (some kd) = nI kd from rfl, if_neg (nI_m1 kd (by omega)), hg.2.1]
    by_cases hW : gW G < 6
    · obtain ⟨M1, p1, c1, o1⟩ := c_adv hT hs h
      have g1 := RG_36 hw hg o1
      rw [if_pos hW, if_pos (hlt.mpr hW), p1, Option.bind_some, show (114 : Nat) = 100 + 14 from rfl, c_isW hT a1 (by decide) c1, Option.bind_some]
      by_cases q : wv T (adv T s) = CK 14
      · obtain ⟨M2, p2, c2, o2⟩ := c_adv hT a1 c1
        have g2 := RG_36 hw g1 o2
        obtain ⟨M3, p3, c3, o3⟩ := c_look hT hw a2 g2 c2
        have g3 := RG_36 hw g2 o3
        have o13 := One_tr o1 (One_tr o2 o3)
        rw [if_neg (b1 q), if_pos q, p2, Option.bind_some, p3, Option.bind_some]
        have l2 := (look_le hT (F := gF G) a2).2
        cases h1 : look T (gF G) (adv T (adv T s)) with
        | mk o s2 =>
          rw [h1] at c3 l2
          have c3 : CT T s2 M3 := c3
          have l2 : s2 ≤ T.1 := l2
          cases o with
          | none => exact CRes_f (M' := M3) (by rw [if_pos (show gl none = -1 from rfl)]) c3 (FR_36 o13)
          | some w =>
            have hl := look_lt h1
            obtain ⟨M4, p4, c4, o4⟩ := c_adv hT l2 c3
            have g4 := RG_36 hw g3 o4
            obtain ⟨r1, r2, r3, r4⟩ := RG_aw hw g4 hW kd w
            rw [show gl (some w, s2).1 = nI w from rfl, if_neg (nI_m1 w (by omega)), p4, Option.bind_some, c_addWalker hw g4 hW]
            exact CRes_t rfl (CT_fr c4 r3 r4) r1 (FR_tr (FR_36 (One_tr o13 o4)) r2)
      · rw [if_pos (b0 q), if_neg q]
        exact CRes_f rfl c1 (FR_36 o1)
    · rw [if_neg hW, if_neg (fun z => hW (hlt.mp z))]
      exact CRes_f rfl h (FR_rf _)
theorem c_item {T : Tpe} {B s : Nat} {G : Gd} {M : Mem} (hT : okT T) (hw : WG B G) (hs : s ≤ T.1) (hg : RG 1 G M) (h : CT T s M) : CRes T (pItem T G s) (fX3_tellItem M) M := by
  have zk : ∀ b : Bool, zck (if b = true then 1 else 0) = some (if b = true then 1 else 0) := by decide
  have z1 : ∀ (r : PR) (f : Option (Int32 × Mem)), CRes T r f M → CRes T r (f.bind fun w22 => (zck w22.1).bind fun v24 => some (v24, w22.2)) M := by
    rintro r f ⟨M', e, k1, k2, k3⟩
    exact ⟨M', by rw [e, Option.bind_some, zk, Option.bind_some], k1, k2, k3⟩
  unfold pItem fX3_tellItem
  rw [show (100 : Nat) = 100 + 0 from rfl, c_isW hT hs (by decide) h, Option.bind_some]
  by_cases q0 : wv T s = CK 0
  · rw [if_neg (b1 q0), if_pos q0]
    exact z1 _ _ (c_tField hT hw hs hg h)
  · rw [if_pos (b0 q0), if_neg q0, show (102 : Nat) = 100 + 2 from rfl, c_isW hT hs (by decide) h, Option.bind_some]
    by_cases q2 : wv T s = CK 2
    · rw [if_neg (b1 q2), if_pos q2]
      exact z1 _ _ (c_tGlue hT hw hs hg h)
    · rw [if_pos (b0 q2), if_neg q2, show (107 : Nat) = 100 + 7 from rfl, c_isW hT hs (by decide) h, Option.bind_some]
      by_cases q7 : wv T s = CK 7
      · rw [if_neg (b1 q7), if_pos q7]
        exact z1 _ _ (c_tCut hT hw hs hg h)
      · rw [if_pos (b0 q7), if_neg q7]
        exact z1 _ _ (c_tWalk hT hw hs hg h)
/-! all items -/
def pAll2 (T : Tpe) (r : PR) (k : Gd → Nat → Bool × Gd × Nat × Nat) (c : Nat) : Bool × Gd × Nat × Nat := if r.1 = true then (if T.1 ≤ r.2.2 then (true, r.2.1, r.2.2, c) else if T.2 r.2.2 = 59 then k r.2.1 (adv T r.2.2) else (false, r.2.1, r.2.2, c)) else (false, r.2.1, r.2.2, c)
def pAll (T : Tpe) : Nat → Gd → Nat → Nat → Bool × Gd × Nat × Nat
  | 0, G, s, c => (false, G, s, c)
  | m + 1, G, s, c => pAll2 T (pItem T G s) (fun G' s' => pAll T m G' s' (c + 1)) c
theorem c_all {T : Tpe} {B : Nat} {kx : Mem → Option (Int32 × Mem)} (hT : okT T) (m : Nat) : ∀ (G : Gd) (s c n : Nat) (M : Mem), WG B G → s ≤ T.1 → RG 1 G M → CT T s M → T.1 + 1 ≤ s + m → c + m ≤ 122 → m < n → ∃ M', fX3_tellAll_6 kx n (nI c) M = some (if (pAll T m G s c).1 = true then nI (pAll T m G s c).2.2.2 else (-1 : Int32) - nI (pAll T m G s c).2.2.1, M') ∧ ((pAll T m G s c).1 = true → RG 1 (pAll T m G s c).2.1 M' ∧ WG B (pAll T m G s c).2.1) ∧ FR M M' ∧ (pAll T m G s c).2.2.1 ≤ T.1 ∧ c ≤ (pAll T m G s c).2.2.2 ∧ (pAll T m G s c).2.2.2 ≤ 122 := by
  have hT1 := hT.1
  induction m with
  | zero => intro G s c n M hw hs hg h e1 e2 h2; omega
  | succ m ih =>
    intro G s c n M hw hs hg h e1 e2 h2
    obtain ⟨n, rfl⟩ : ∃ k, n = k + 1 := ⟨n - 1, by omega⟩
    obtain ⟨M1, p1, c1, g1, f1⟩ := c_item hT hw hs hg h
    obtain ⟨o1, o2, o3⟩ := okP_item hT hw hs
    have hs4 := srt_le T (pItem T G s).2.2
    show ∃ M', _ = some (if (pAll2 T (pItem T G s) (fun G' s' => pAll T m G' s' (c + 1)) c).1 = true then nI (pAll2 T (pItem T G s) (fun G' s' => pAll T m G' s' (c + 1)) c).2.2.2 else (-1 : Int32) - nI (pAll2 T (pItem T G s) (fun G' s' => pAll T m G' s' (c + 1)) c).2.2.1, M') ∧ ((pAll2 T (pItem T G s) (fun G' s' => pAll T m G' s' (c + 1)) c).1 = true → RG 1 (pAll2 T (pItem T G s) (fun G' s' => pAll T m G' s' (c + 1)) c).2.1 M' ∧ WG B (pAll2 T (pItem T G s) (fun G' s' => pAll T m G' s' (c + 1)) c).2.1) ∧ FR M M' ∧ (pAll2 T (pItem T G s) (fun G' s' => pAll T m G' s' (c + 1)) c).2.2.1 ≤ T.1 ∧ c ≤ (pAll2 T (pItem T G s) (fun G' s' => pAll T m G' s' (c + 1)) c).2.2.2 ∧ (pAll2 T (pItem T G s) (fun G' s' => pAll T m G' s' (c + 1)) c).2.2.2 ≤ 122
    generalize pItem T G s = r at p1 c1 g1 o1 o2 o3 hs4
    unfold pAll2
    rw [fX3_tellAll_6, if_neg (show ¬ (121 : Int32) < nI c from nI_nlt (a := 121) (by omega) (by decide)), p1, Option.bind_some]
    by_cases q : r.1 = true
    · simp only [if_pos q]
      rw [if_neg (show ¬ (1 : Int32) = 0 by decide), c1.2.1]
      by_cases q2 : T.1 ≤ r.2.2
      · simp only [if_pos q2]
        refine ⟨M1, ?_, fun _ => ⟨g1 q, o3 q⟩, f1, o1, Nat.le_refl _, by omega⟩
        rw [if_pos (show nI (srt T r.2.2) = 0 by rw [srt_0.mpr (by omega)]; rfl)]; rfl
      · simp only [if_neg q2]
        have hlt : r.2.2 < T.1 := by omega
        have hnz : ¬ nI (srt T r.2.2) = 0 := fun z => by
          have := (nI_eq (b := 0) (by omega) (by decide)).mp z
          exact srt_0.mp this hlt
        rw [if_neg hnz]
        by_cases q3 : T.2 r.2.2 = 59
        · simp only [if_pos q3]
          obtain ⟨M2, p2, c2, o4⟩ := c_adv hT o1 c1
          have hgt := adv_gt hT hlt
          obtain ⟨M', k1, k2, k3, k4, k5, k6⟩ := ih r.2.1 (adv T r.2.2) (c + 1) n M2 (o3 q) (adv_le o1) (RG_36 (o3 q) (g1 q) o4) c2 (by omega) (by omega) (by omega)
          refine ⟨M', ?_, k2, FR_tr f1 (FR_tr (FR_36 o4) k3), k4, by omega, k6⟩
          rw [if_pos (show nI (srt T r.2.2) = 1 by rw [srt_1.mpr ⟨hlt, q3⟩]; rfl), p2, Option.bind_some, nI_1]; exact k1
        · simp only [if_neg q3]
          refine ⟨M1, ?_, fun z => absurd z (by decide), f1, o1, Nat.le_refl _, by omega⟩
          rw [if_neg (show ¬ nI (srt T r.2.2) = 1 from fun z => q3 (srt_1.mp ((nI_eq (b := 1) (by omega) (by decide)).mp z)).2), c1.2.2.1]; rfl
    · simp only [if_neg q]
      refine ⟨M1, ?_, fun z => absurd z (by decide), f1, o1, Nat.le_refl _, by omega⟩
      rw [c1.2.2.1]; rfl
