/-! MATHS: a plain told in a text -/
def stop (T : Tpe) (r : Bool × Gd × Nat × Nat) (M : Mem) : Prop := (r.1 = true → MTk T r.2.2.1 0 M ∧ RS 50 r.2.1 M ∧ T.1 ≤ r.2.2.1) ∧ (r.1 = false → MTk T r.2.2.1 1 M ∨ (MTk T r.2.2.1 0 M ∧ r.2.2.1 < T.1))
theorem m_told_all {T : Tpe} {B : Nat} {ρ : Type} {kx : Int32 → Mem → Option ρ} (hT : okT T) (m : Nat) : ∀ (G : Gd) (s c n : Nat) (M : Mem), WG B G → s ≤ T.1 → RS 50 G M → MTk T s 0 M → T.1 + 1 ≤ s + m → m < n → ∃ M', ((fX6_item M).bind fun w5 => fX6_plain_24 kx n (nI c) w5) = kx (nI (pAll T m G s c).2.2.2) M' ∧ stop T (pAll T m G s c) M' ∧ FN M M' := by
  have hT1 := hT.1
  induction m with
  | zero => intro G s c n M hw hs hg h e1 h2; omega
  | succ m ih =>
    intro G s c n M hw hs hg h e1 h2
    obtain ⟨n, rfl⟩ : ∃ k, n = k + 1 := ⟨n - 1, by omega⟩
    obtain ⟨M1, p1, t1, w1, f1⟩ := m_item hT hw hs hg h
    obtain ⟨o1, o2, o3⟩ := okP_item hT hw hs
    show ∃ M', _ = kx (nI (pAll2 T (pItem T G s) (fun G' s' => pAll T m G' s' (c + 1)) c).2.2.2) M' ∧ stop T (pAll2 T (pItem T G s) (fun G' s' => pAll T m G' s' (c + 1)) c) M' ∧ FN M M'
    generalize pItem T G s = r at t1 w1 o1 o2 o3
    rw [p1, Option.bind_some, fX6_plain_24]
    unfold pAll2
    by_cases q : r.1 = true
    · obtain ⟨t2, g2⟩ := t1 q
      have h59 : ba T r.2.2 = (59 : Int32) ↔ (r.2.2 < T.1 ∧ T.2 r.2.2 = 59) := ba_c hT (c := 59) (by decide)
      rw [t2.2.2.2.1, if_pos rfl, t2.2.1, m_ba hT t2.1 t2.2.2.2.2 (by omega), Option.bind_some]
      simp only [if_pos q]
      by_cases q2 : T.1 ≤ r.2.2
      · simp only [if_pos q2]
        rw [if_neg (fun z => by have := (h59.mp z).1; omega)]
        exact ⟨M1, rfl, ⟨fun _ => ⟨t2, g2, q2⟩, fun z => (by cases z)⟩, f1⟩
      · simp only [if_neg q2]
        by_cases q3 : T.2 r.2.2 = 59
        · simp only [if_pos q3]
          have hlt : r.2.2 < T.1 := by omega
          have hgt := adv_gt hT hlt
          obtain ⟨M2, p2, c2, f2, _⟩ := m_w1 hT o1 t2
          obtain ⟨M', k1, k2, k3⟩ := ih r.2.1 (adv T r.2.2) (c + 1) n M2 (o3 q) (adv_le o1) (RS_49 g2 f2) c2 (by omega) (by omega)
          refine ⟨M', ?_, k2, FN_tr f1 (FN_tr (FN_49 f2) k3)⟩
          rw [if_pos (h59.mpr ⟨hlt, q3⟩), p2, Option.bind_some, nI_1]; exact k1
        · simp only [if_neg q3]
          rw [if_neg (fun z => q3 (h59.mp z).2)]
          exact ⟨M1, rfl, ⟨fun z => (by cases z), fun _ => Or.inr ⟨t2, by show r.2.2 < T.1; omega⟩⟩, f1⟩
    · have q' : r.1 = false := by
        cases hz : r.1 with
        | true => exact absurd hz q
        | false => rfl
      have t2 := w1 q'
      rw [t2.2.2.2.1, if_neg (by decide)]
      simp only [if_neg q]
      exact ⟨M1, rfl, ⟨fun z => (by cases z), fun _ => Or.inl t2⟩, f1⟩
theorem m_sav {ρ : Type} {kx : Mem → Option ρ} (m : Nat) : ∀ (i n : Nat) (M : Mem), i + m = 112 → m < n → ∃ M', fX6_saves_2 kx n (nI i) M = kx M' ∧ One 52 M M' ∧ (∀ j, i ≤ j → j < 112 → M'.1 52 j = M.1 50 j) ∧ ∀ j, j < i → M'.1 52 j = M.1 52 j := by
  induction m with
  | zero =>
    intro i n M e h
    obtain rfl : i = 112 := by omega
    obtain ⟨n, rfl⟩ : ∃ k, n = k + 1 := ⟨n - 1, by omega⟩
    exact ⟨M, by rw [fX6_saves_2, if_pos (by decide)], One_rf _ _, fun j q1 q2 => absurd q1 (by omega), fun j q => rfl⟩
  | succ m ih =>
    intro i n M e h
    obtain ⟨n, rfl⟩ : ∃ k, n = k + 1 := ⟨n - 1, by omega⟩
    obtain ⟨M', e1, o1, a1, z1⟩ := ih (i + 1) n (setI M 52 i (M.1 50 i)) (by omega) (by omega)
    refine ⟨M', ?_, One_tr (One_set _ _ _ _) o1, fun j q1 q2 => ?_, fun j q => ?_⟩
    · rw [fX6_saves_2, if_neg (show ¬ (112 : Int32) ≤ nI i from nI_ge (b := 112) (by omega) (by decide)), ldI_n (by omega) (by decide), Option.bind_some, stI_n (by omega) (by decide), Option.bind_some, nI_1, e1]
    · by_cases q : j = i
      · rw [q, z1 i (by omega), sI_s]
      · rw [a1 j (by omega) q2, sI_c _ _ _ (by decide)]
    · rw [z1 j (by omega), sI_j _ _ (by omega)]
theorem m_put {ρ : Type} {kx : Mem → Option ρ} (m : Nat) : ∀ (i n : Nat) (M : Mem), i + m = 112 → m < n → ∃ M', fX6_putsBack_2 kx n (nI i) M = kx M' ∧ One 50 M M' ∧ (∀ j, i ≤ j → j < 112 → M'.1 50 j = M.1 52 j) ∧ ∀ j, j < i → M'.1 50 j = M.1 50 j := by
  induction m with
  | zero =>
    intro i n M e h
    obtain rfl : i = 112 := by omega
    obtain ⟨n, rfl⟩ : ∃ k, n = k + 1 := ⟨n - 1, by omega⟩
    exact ⟨M, by rw [fX6_putsBack_2, if_pos (by decide)], One_rf _ _, fun j q1 q2 => absurd q1 (by omega), fun j q => rfl⟩
  | succ m ih =>
    intro i n M e h
    obtain ⟨n, rfl⟩ : ∃ k, n = k + 1 := ⟨n - 1, by omega⟩
    obtain ⟨M', e1, o1, a1, z1⟩ := ih (i + 1) n (setI M 50 i (M.1 52 i)) (by omega) (by omega)
    refine ⟨M', ?_, One_tr (One_set _ _ _ _) o1, fun j q1 q2 => ?_, fun j q => ?_⟩
    · rw [fX6_putsBack_2, if_neg (show ¬ (112 : Int32) ≤ nI i from nI_ge (b := 112) (by omega) (by decide)), ldI_n (by omega) (by decide), Option.bind_some, stI_n (by omega) (by decide), Option.bind_some, nI_1, e1]
    · by_cases q : j = i
      · rw [q, z1 i (by omega), sI_s]
      · rw [a1 j (by omega) q2, sI_c _ _ _ (by decide)]
    · rw [z1 j (by omega), sI_j _ _ (by omega)]
theorem neg_s : ∀ s, s < 121 → ¬ (0 : Int32) ≤ (-1 : Int32) - nI s := by decide +kernel
/-- the class -/
theorem c_plain {B n : Nat} {bt : Nat → Nat} {G : Gd} {M : Mem} (hT : okT (n, bt)) (hw : WG B G) (hg : RG 1 G M) (h0 : M.1 36 0 = nI n) (hb : BT 37 (n, bt) M) : ∃ M', fX5_plain M = some (if (pAll (n, bt) 121 G (sk (n, bt) 0) 1).1 = true then nI (pAll (n, bt) 121 G (sk (n, bt) 0) 1).2.2.2 else (-1 : Int32) - nI (pAll (n, bt) 121 G (sk (n, bt) 0) 1).2.2.1, M') ∧ RG 1 (if (pAll (n, bt) 121 G (sk (n, bt) 0) 1).1 = true then (pAll (n, bt) 121 G (sk (n, bt) 0) 1).2.1 else G) M' ∧ WG B (if (pAll (n, bt) 121 G (sk (n, bt) 0) 1).1 = true then (pAll (n, bt) 121 G (sk (n, bt) 0) 1).2.1 else G) ∧ M'.1 36 0 = 0 ∧ (∀ c, ¬ (1 ≤ c ∧ c ≤ 10) → ¬ (21 ≤ c ∧ c ≤ 30) → c ≠ 36 → M'.1 c = M.1 c) ∧ M'.2 = M.2 ∧ (pAll (n, bt) 121 G (sk (n, bt) 0) 1).2.2.1 ≤ n ∧ (pAll (n, bt) 121 G (sk (n, bt) 0) 1).2.2.2 ≤ 122 := by
  have hn : n ≤ 120 := hT.1
  obtain ⟨Ma, p1, r1, o1⟩ := c_ground (a := 21) (b := 1) (by omega) hw hg
  have ga : RG 1 G Ma := RG_cg hw hg (fun c q1 q2 => o1.1 c (by omega))
  have a0 : (setI Ma 36 4 (nI 0)).1 36 0 = nI n := by rw [sI_j _ _ (by decide), o1.1 36 (by omega)]; exact h0
  have ab : BT 37 (n, bt) (setI Ma 36 4 (nI 0)) := fun x hx => by rw [sI_c _ _ _ (by decide), o1.1 37 (by omega)]; exact hb x hx
  obtain ⟨Mb, p2, c2, o2⟩ := c_advE (e := 0) hT (Nat.zero_le _) a0 (sI_s _ _ _ _) ab
  have ob : One 36 Ma Mb := One_tr (One_set _ _ _ _) o2
  have gb := RG_36 hw ga ob
  have hsk : sk (n, bt) 0 ≤ n := sk_le (T := (n, bt)) (Nat.zero_le _)
  obtain ⟨Mc, p3, g3, f3, k1, k2, k3⟩ := c_all (kx := fun M11 => some (((-1 : Int32) - (M11.1 36 2)), M11)) hT 121 G (sk (n, bt) 0) 1 FU Mb hw hsk gb c2 (by show n + 1 ≤ _; omega) (by decide) (by decide)
  have hta : fX3_tellAll Ma = some (if (pAll (n, bt) 121 G (sk (n, bt) 0) 1).1 = true then nI (pAll (n, bt) 121 G (sk (n, bt) 0) 1).2.2.2 else (-1 : Int32) - nI (pAll (n, bt) 121 G (sk (n, bt) 0) 1).2.2.1, Mc) := by
    unfold fX3_tellAll fX2_begin
    have p2' : fX2_advance (setI Ma 36 4 (0 : Int32)) = some Mb := p2
    rw [p2', Option.bind_some, Option.bind_some]; exact p3
  have k1 : (pAll (n, bt) 121 G (sk (n, bt) 0) 1).2.2.1 ≤ n := k1
  generalize pAll (n, bt) 121 G (sk (n, bt) 0) 1 = r at hta g3 k1 k2 k3
  have r3 : RG 21 G Mc := RG_cg hw r1 (fun c q1 q2 => by rw [f3.1 c (by omega) (by omega), ob.1 c (by omega)])
  have hc : ∀ c, ¬ (1 ≤ c ∧ c ≤ 10) → ¬ (21 ≤ c ∧ c ≤ 30) → c ≠ 36 → Mc.1 c = M.1 c := fun c q1 q2 q3 => by rw [f3.1 c q1 q3, ob.1 c q3, o1.1 c q2]
  have hc2 : Mc.2 = M.2 := by rw [f3.2, ob.2, o1.2]
  unfold fX5_plain
  rw [p1, Option.bind_some, hta, Option.bind_some]
  by_cases q : r.1 = true
  · obtain ⟨g4, w4⟩ := g3 q
    rw [if_pos q, if_pos q]
    refine ⟨setI Mc 36 0 0, ?_, RG_36 w4 g4 (One_set _ _ _ _), w4, sI_s _ _ _ _, fun c q1 q2 q3 => by rw [sI_c _ _ _ q3]; exact hc c q1 q2 q3, hc2, k1, k3⟩
    rw [if_pos (show (0 : Int32) ≤ nI r.2.2.2 from nI_pos' (by omega))]; rfl
  · obtain ⟨Md, p4, r4, o4⟩ := c_ground (a := 1) (b := 21) (by omega) hw r3
    rw [if_neg q, if_neg q]
    refine ⟨setI Md 36 0 0, ?_, RG_36 hw r4 (One_set _ _ _ _), hw, sI_s _ _ _ _, fun c q1 q2 q3 => by rw [sI_c _ _ _ q3, o4.1 c (by omega)]; exact hc c q1 q2 q3, by rw [sI_2, o4.2, hc2], k1, k3⟩
    rw [if_neg (show ¬ (0 : Int32) ≤ (-1 : Int32) - nI r.2.2.1 from neg_s _ (by omega)), p4]; rfl
/-- the model -/
theorem m_plain {B n : Nat} {bt : Nat → Nat} {G : Gd} {M : Mem} (hT : okT (n, bt)) (hw : WG B G) (hg : RS 50 G M) (h8 : M.1 49 8 = nI n) (hb : BT 56 (n, bt) M) (hpos : (pAll (n, bt) 121 G (sk (n, bt) 0) 1).2.2.1 ≤ n) : ∃ M', fX6_plain M = some (if (pAll (n, bt) 121 G (sk (n, bt) 0) 1).1 = true then nI (pAll (n, bt) 121 G (sk (n, bt) 0) 1).2.2.2 else (-1 : Int32) - nI (pAll (n, bt) 121 G (sk (n, bt) 0) 1).2.2.1, M') ∧ RS 50 (if (pAll (n, bt) 121 G (sk (n, bt) 0) 1).1 = true then (pAll (n, bt) 121 G (sk (n, bt) 0) 1).2.1 else G) M' ∧ M'.1 49 8 = 0 ∧ M'.1 49 5 = M.1 49 5 ∧ (∀ c, c ≠ 49 → c ≠ 50 → c ≠ 52 → M'.1 c = M.1 c) ∧ M'.2 = M.2 := by
  have hn : n ≤ 120 := hT.1
  obtain ⟨Ma, p1, o1, a1, _⟩ := m_sav (kx := fun M6 => some M6) 112 0 FU M (by decide) (by decide)
  have r1 : RS 52 G Ma := RS_112 hw hg (fun j q => a1 j (Nat.zero_le _) q)
  have p1 : fX6_saves M = some Ma := p1
  have y8 : (setI (setI Ma 49 12 (0 : Int32)) 49 10 (0 : Int32)).1 49 8 = nI n := by rw [sI_j _ _ (by decide), sI_j _ _ (by decide), o1.1 49 (by decide)]; exact h8
  have yb : BT 56 (n, bt) (setI (setI Ma 49 12 (0 : Int32)) 49 10 (0 : Int32)) := fun x hx => by rw [sI_c _ _ _ (by decide), sI_c _ _ _ (by decide), o1.1 56 (by decide)]; exact hb x hx
  obtain ⟨Mb, p2, o2, j2, v1, v2⟩ := m_tok (e := 0) (T := (n, bt)) hT (Nat.zero_le _) y8 (sI_s _ _ _ _) yb
  have ob : F49 Ma Mb := ⟨One_tr (One_tr (One_set _ _ _ _) (One_set _ _ _ _)) o2, by rw [j2 5 (by decide) (by decide), sI_j _ _ (by decide), sI_j _ _ (by decide)]⟩
  have c2 : MTk (n, bt) (sk (n, bt) 0) 0 Mb := ⟨(j2 8 (by decide) (by decide)).trans y8, v1, v2, by rw [j2 12 (by decide) (by decide), sI_j _ _ (by decide), sI_s], fun x hx => by rw [o2.1 56 (by decide)]; exact yb x hx⟩
  have ga : RS 50 G Ma := RS_cg hg (o1.1 50 (by decide))
  have gb := RS_49 ga ob
  have hsk : sk (n, bt) 0 ≤ n := sk_le (T := (n, bt)) (Nat.zero_le _)
  obtain ⟨Mc, p3, s3, f3⟩ := m_told_all (kx := fun u15 M16 => ((if ((setI M16 49 12 (if (M16.1 49 12) = 0 then (if (M16.1 49 8) ≤ (M16.1 49 9) then (0 : Int32) else (1 : Int32)) else (1 : Int32))).1 49 12) = 0 then some (setI M16 49 12 (if (M16.1 49 12) = 0 then (if (M16.1 49 8) ≤ (M16.1 49 9) then (0 : Int32) else (1 : Int32)) else (1 : Int32))) else ((fX6_putsBack (setI M16 49 12 (if (M16.1 49 12) = 0 then (if (M16.1 49 8) ≤ (M16.1 49 9) then (0 : Int32) else (1 : Int32)) else (1 : Int32)))).bind fun w23 => some w23)).bind fun t21 => (if ((setI t21 49 8 (0 : Int32)).1 49 12) = 0 then some (u15, (setI t21 49 8 (0 : Int32))) else some (((-1 : Int32) - ((setI t21 49 8 (0 : Int32)).1 49 9)), (setI t21 49 8 (0 : Int32)))))) hT 121 G (sk (n, bt) 0) 1 FU Mb hw hsk gb c2 (by show n + 1 ≤ _; omega) (by decide)
  generalize pAll (n, bt) 121 G (sk (n, bt) 0) 1 = r at p3 s3 hpos
  have hfr : ∀ c, c ≠ 49 → c ≠ 50 → c ≠ 52 → Mc.1 c = M.1 c := fun c q1 q2 q3 => by rw [f3.1 c q1 q2, ob.1.1 c q1, o1.1 c q3]
  have h5 : Mc.1 49 5 = M.1 49 5 := by rw [f3.2.2, ob.2, o1.1 49 (by decide)]
  have h2 : Mc.2 = M.2 := by rw [f3.2.1, ob.1.2, o1.2]
  have r52 : RS 52 G Mc := RS_cg r1 (by rw [f3.1 52 (by decide) (by decide), ob.1.1 52 (by decide)])
  unfold fX6_plain
  rw [p1, Option.bind_some, p2, Option.bind_some]
  have p3' : ((fX6_item Mb).bind fun w5 => fX6_plain_24 _ FU (1 : Int32) w5) = _ := p3
  rw [p3']
  by_cases q : r.1 = true
  · obtain ⟨t1, t2, t3⟩ := s3.1 q
    rw [if_pos q, if_pos q]
    have hw0 : (if Mc.1 49 12 = 0 then (if Mc.1 49 8 ≤ Mc.1 49 9 then (0 : Int32) else 1) else 1) = 0 := by
      rw [t1.2.2.2.1, if_pos rfl, t1.1, t1.2.1, if_pos ((nI_leI (by show n < _; omega) (by omega)).mpr t3)]
    refine ⟨setI (setI Mc 49 12 0) 49 8 0, ?_, RS_cg t2 (by rw [sI_c _ _ _ (by decide), sI_c _ _ _ (by decide)]), sI_s _ _ _ _, by rw [sI_j _ _ (by decide), sI_j _ _ (by decide)]; exact h5, fun c q1 q2 q3 => by rw [sI_c _ _ _ q1, sI_c _ _ _ q1]; exact hfr c q1 q2 q3, h2⟩
    show ((if ((setI Mc 49 12 (if (Mc.1 49 12) = 0 then (if (Mc.1 49 8) ≤ (Mc.1 49 9) then (0 : Int32) else (1 : Int32)) else (1 : Int32))).1 49 12) = 0 then some (setI Mc 49 12 (if (Mc.1 49 12) = 0 then (if (Mc.1 49 8) ≤ (Mc.1 49 9) then (0 : Int32) else (1 : Int32)) else (1 : Int32))) else _).bind _) = _
    rw [hw0, sI_s, if_pos rfl, Option.bind_some, sI_j _ _ (by decide), sI_s, if_pos rfl]
  · have q' : r.1 = false := by
      cases hz : r.1 with
      | true => exact absurd hz q
      | false => rfl
    rw [if_neg q, if_neg q]
    have hMc : Mc.1 49 9 = nI r.2.2.1 ∧ (if Mc.1 49 12 = 0 then (if Mc.1 49 8 ≤ Mc.1 49 9 then (0 : Int32) else 1) else 1) = 1 := by
      rcases s3.2 q' with t1 | ⟨t1, t2⟩
      · exact ⟨t1.2.1, by rw [t1.2.2.2.1, if_neg (by decide)]⟩
      · refine ⟨t1.2.1, ?_⟩
        rw [t1.2.2.2.1, if_pos rfl, t1.1, t1.2.1, if_neg (nI_ge t2 (by show n < _; omega))]
    obtain ⟨m9, mw⟩ := hMc
    obtain ⟨Md, p4, o4, a4, _⟩ := m_put (kx := fun M6 => some M6) 112 0 FU (setI Mc 49 12 1) (by decide) (by decide)
    have p4 : fX6_putsBack (setI Mc 49 12 1) = some Md := p4
    have rs : RS 50 G Md := RS_112 hw r52 (fun j q => by rw [a4 j (Nat.zero_le _) q, sI_c _ _ _ (by decide)])
    have d49 : ∀ j, Md.1 49 j = (setI Mc 49 12 1).1 49 j := fun j => by rw [o4.1 49 (by decide)]
    refine ⟨setI Md 49 8 0, ?_, RS_cg rs (sI_c _ _ _ (by decide)), sI_s _ _ _ _, by rw [sI_j _ _ (by decide), d49, sI_j _ _ (by decide)]; exact h5, fun c q1 q2 q3 => by rw [sI_c _ _ _ q1, o4.1 c q2, sI_c _ _ _ q1]; exact hfr c q1 q2 q3, by rw [sI_2, o4.2, sI_2]; exact h2⟩
    show ((if ((setI Mc 49 12 (if (Mc.1 49 12) = 0 then (if (Mc.1 49 8) ≤ (Mc.1 49 9) then (0 : Int32) else (1 : Int32)) else (1 : Int32))).1 49 12) = 0 then _ else ((fX6_putsBack (setI Mc 49 12 (if (Mc.1 49 12) = 0 then (if (Mc.1 49 8) ≤ (Mc.1 49 9) then (0 : Int32) else (1 : Int32)) else (1 : Int32)))).bind fun w23 => some w23)).bind _) = _
    rw [mw, sI_s, if_neg (by decide), p4, Option.bind_some, Option.bind_some, sI_j _ _ (by decide), d49, sI_s, if_neg (by decide), sI_j _ _ (by decide), d49, sI_j _ _ (by decide), m9]
theorem ok_plain {t : Nat} {M : Mem} (ht : t < 512) (hI : Inv t M) : ∃ v w, fX5_plain M = some v ∧ fX6_plain v.2 = some w ∧ v.1 = w.1 ∧ Inv (t + 1) w.2 := by
  obtain ⟨⟨G, hw, hg, hs⟩, hK, hF, ⟨n, k1, k2, k3, k4⟩, hS⟩ := hI
  have hbt : ∀ i, i < n → M.1 37 i = nI ((M.1 37 i).toInt.toNat) ∧ (M.1 37 i).toInt.toNat < 256 := fun i hi => by
    obtain ⟨_, v, hv, e⟩ := k4 i hi
    have : (M.1 37 i).toInt.toNat = v := by rw [e, nI_toInt (by omega)]; rfl
    rw [this]; exact ⟨e, hv⟩
  have hT : okT (n, fun i => (M.1 37 i).toInt.toNat) := ⟨k1, fun i hi => (hbt i hi).2⟩
  obtain ⟨Ma, p1, r1, w1, a0, ac, a2, hpos, _⟩ := c_plain hT hw hg k2 (fun i hi => (hbt i hi).1)
  have sa : RS 50 G Ma := RS_cg hs (ac 50 (by omega) (by omega) (by omega))
  obtain ⟨Mb, p2, r2, b8, b5, bc, b2⟩ := m_plain hT hw sa (by rw [ac 49 (by omega) (by omega) (by omega)]; exact k3) (fun i hi => by rw [ac 56 (by omega) (by omega) (by omega), ← (k4 i hi).1]; exact (hbt i hi).1) hpos
  have hc : ∀ c, ¬ (1 ≤ c ∧ c ≤ 10) → ¬ (21 ≤ c ∧ c ≤ 30) → c ≠ 36 → c ≠ 49 → c ≠ 50 → c ≠ 52 → Mb.1 c = M.1 c := fun c q1 q2 q3 q4 q5 q6 => (bc c q4 q5 q6).trans (ac c q1 q2 q3)
  refine ⟨(_, Ma), (_, Mb), p1, p2, rfl, ⟨_, WG_t w1, RG_cg w1 r1 (fun c q1 q2 => bc c (by omega) (by omega) (by omega)), r2⟩, KE_c (KE_mono hK (by omega)) (fun c q => hc c (by omega) (by omega) (by omega) (by omega) (by omega) (by omega)) (by rw [hc 0 (by omega) (by omega) (by omega) (by omega) (by omega) (by omega)]) (by rw [b5, ac 49 (by omega) (by omega) (by omega)]), FE_c hF (hc 48 (by omega) (by omega) (by omega) (by omega) (by omega) (by omega)) (hc 54 (by omega) (by omega) (by omega) (by omega) (by omega) (by omega)), ⟨0, by decide, ?_, b8, fun i hi => absurd hi (Nat.not_lt_zero _)⟩, SE_c hS (fun c q => ⟨hc c (by omega) (by omega) (by omega) (by omega) (by omega) (by omega), by rw [b2, a2]⟩)⟩
  show Mb.1 36 0 = nI 0
  rw [bc 36 (by decide) (by decide) (by decide)]; exact a0
