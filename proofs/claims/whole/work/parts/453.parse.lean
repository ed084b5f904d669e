/-! MATHS: what a text says -/
abbrev PR : Type := Bool × Gd × Nat
def nbB (T : Tpe) (s lim : Nat) : Bool := decide ((s < T.1 ∧ isD (T.2 s) = true) ∧ mnum T s < lim)
theorem nbB_t {T : Tpe} {s lim : Nat} : nbB T s lim = true ↔ nb T s lim := by unfold nbB nb; exact decide_eq_true_iff
def sd (v : Nat) : Option Nat := if v = CK 3 then some 0 else if v = CK 4 then some 1 else if v = CK 5 then some 2 else if v = CK 6 then some 3 else none
def knd (v : Nat) : Option Nat := if v = CK 8 then some 0 else if v = CK 9 then some 1 else if v = CK 10 then some 2 else if v = CK 11 then some 3 else if v = CK 12 then some 4 else if v = CK 13 then some 5 else none
def look (T : Tpe) (F s : Nat) : Option Nat × Nat := if nbB T s F = true then ((sd (wv T (adv T s))).map (fun d => 4 * mnum T s + d), adv T s) else (none, s)
def addF (G : Gd) (a : Nat) : Gd := gSetF G (gF G + 1) (va_up (gR G) (gF G) a)
def pField (T : Tpe) (G : Gd) (s : Nat) : PR := if gF G < 16 then (if wv T (adv T s) = CK 1 then (if nbB T (adv T (adv T s)) 10 = true then (true, addF G (mnum T (adv T (adv T s))), adv T (adv T (adv T s))) else (false, G, adv T (adv T s))) else (true, addF G 0, adv T s)) else (false, G, s)
def pGlue2 (T : Tpe) (G : Gd) (one : Nat) (l : Option Nat × Nat) : PR := match l with
  | (none, s4) => (false, G, s4)
  | (some two, s4) => if gG G two = none ∧ two ≠ one then (true, gSetG G (gJoin (gG G) one two), adv T s4) else (false, G, s4)
def pGlue1 (T : Tpe) (G : Gd) (l : Option Nat × Nat) : PR := match l with
  | (none, s2) => (false, G, s2)
  | (some one, s2) => if gG G one = none then pGlue2 T G one (look T (gF G) (adv T s2)) else (false, G, s2)
def pGlue (T : Tpe) (G : Gd) (s : Nat) : PR := pGlue1 T G (look T (gF G) (adv T s))
def pCut2 (T : Tpe) (G : Gd) (w s2 : Nat) (o : Option Nat) : PR := match o with
  | none => (false, G, s2)
  | some v => (true, gSetG G (gCut (gG G) w v), adv T s2)
def pCut1 (T : Tpe) (G : Gd) (l : Option Nat × Nat) : PR := match l with
  | (none, s2) => (false, G, s2)
  | (some w, s2) => pCut2 T G w s2 (gG G w)
def pCut (T : Tpe) (G : Gd) (s : Nat) : PR := pCut1 T G (look T (gF G) (adv T s))
def pWalk1 (T : Tpe) (G : Gd) (kd : Nat) (l : Option Nat × Nat) : PR := match l with
  | (none, s2) => (false, G, s2)
  | (some w, s2) => (true, gSetK G (gW G + 1) (va_up (gK G) (gW G) (kd, w, 0, 0)), adv T s2)
def pWalk (T : Tpe) (G : Gd) (s kd : Nat) : PR := if gW G < 6 then (if wv T (adv T s) = CK 14 then pWalk1 T G kd (look T (gF G) (adv T (adv T s))) else (false, G, adv T s)) else (false, G, s)
def pItem (T : Tpe) (G : Gd) (s : Nat) : PR := if wv T s = CK 0 then pField T G s else if wv T s = CK 2 then pGlue T G s else if wv T s = CK 7 then pCut T G s else match knd (wv T s) with
  | none => (false, G, s)
  | some kd => pWalk T G s kd
theorem sd_lt {v d : Nat} (h : sd v = some d) : d < 4 := by
  unfold sd at h
  split at h
  · cases h; decide
  · split at h
    · cases h; decide
    · split at h
      · cases h; decide
      · split at h
        · cases h; decide
        · cases h
theorem knd_lt {v d : Nat} (h : knd v = some d) : d < 6 := by
  unfold knd at h
  split at h
  · cases h; decide
  · split at h
    · cases h; decide
    · split at h
      · cases h; decide
      · split at h
        · cases h; decide
        · split at h
          · cases h; decide
          · split at h
            · cases h; decide
            · cases h
theorem look_lt {T : Tpe} {F s w x : Nat} (h : look T F s = (some w, x)) : w < 4 * F := by
  unfold look at h
  by_cases q : nbB T s F = true
  · rw [if_pos q] at h
    have h1 := congrArg Prod.fst h
    have h1 : (sd (wv T (adv T s))).map (fun d => 4 * mnum T s + d) = some w := h1
    cases hd : sd (wv T (adv T s)) with
    | none => rw [hd] at h1; cases h1
    | some d =>
      rw [hd] at h1
      have h1 : some (4 * mnum T s + d) = some w := h1
      cases h1
      have := sd_lt hd
      have := (nbB_t.mp q).2
      omega
  · rw [if_neg q] at h; cases h
theorem look_le {T : Tpe} (hT : okT T) {F s : Nat} (hs : s ≤ T.1) : s ≤ (look T F s).2 ∧ (look T F s).2 ≤ T.1 := by
  unfold look
  split
  · exact ⟨adv_ge hT hs, adv_le hs⟩
  · exact ⟨Nat.le_refl _, hs⟩
def okP (T : Tpe) (B s : Nat) (r : PR) : Prop := r.2.2 ≤ T.1 ∧ s ≤ r.2.2 ∧ (r.1 = true → WG B r.2.1)
theorem okP_f {T : Tpe} {B s s' : Nat} {G : Gd} (h1 : s ≤ s') (h2 : s' ≤ T.1) : okP T B s (false, G, s') := ⟨h2, h1, fun q => by cases q⟩
theorem okP_field {T : Tpe} {B s : Nat} {G : Gd} (hT : okT T) (hw : WG B G) (hs : s ≤ T.1) : okP T B s (pField T G s) := by
  have a1 := adv_le hs
  have a2 := adv_ge hT hs
  have b1 := adv_le a1
  have b2 := adv_ge hT a1
  have c1 := adv_le b1
  have c2 := adv_ge hT b1
  unfold pField
  split
  · next hF =>
    split
    · split
      · next q =>
        exact ⟨c1, by show s ≤ adv T (adv T (adv T s)); omega, fun _ => WG_field hw hF (nbB_t.mp q).2⟩
      · exact okP_f (by omega) b1
    · exact ⟨a1, a2, fun _ => WG_field hw hF (by decide)⟩
  · exact okP_f (Nat.le_refl _) hs
theorem okP_glue {T : Tpe} {B s : Nat} {G : Gd} (hT : okT T) (hw : WG B G) (hs : s ≤ T.1) : okP T B s (pGlue T G s) := by
  have a1 := adv_le hs
  have a2 := adv_ge hT hs
  unfold pGlue
  obtain ⟨l1, l2⟩ := look_le hT (F := gF G) a1
  cases h1 : look T (gF G) (adv T s) with
  | mk o s2 =>
    rw [h1] at l1 l2
    have l1 : adv T s ≤ s2 := l1
    have l2 : s2 ≤ T.1 := l2
    cases o with
    | none => exact okP_f (by omega) l2
    | some one =>
      have hone := look_lt h1
      have l1 : adv T s ≤ s2 := l1
      have l2 : s2 ≤ T.1 := l2
      show okP T B s (if gG G one = none then pGlue2 T G one (look T (gF G) (adv T s2)) else (false, G, s2))
      split
      · next hf =>
        have d1 := adv_le l2
        have d2 := adv_ge hT l2
        obtain ⟨m1, m2⟩ := look_le hT (F := gF G) d1
        cases h2 : look T (gF G) (adv T s2) with
        | mk o2 s4 =>
          rw [h2] at m1 m2
          have m1 : adv T s2 ≤ s4 := m1
          have m2 : s4 ≤ T.1 := m2
          cases o2 with
          | none => exact okP_f (by omega) m2
          | some two =>
            have htwo := look_lt h2
            have m1 : adv T s2 ≤ s4 := m1
            have m2 : s4 ≤ T.1 := m2
            show okP T B s (if gG G two = none ∧ two ≠ one then (true, gSetG G (gJoin (gG G) one two), adv T s4) else (false, G, s4))
            split
            · next hq =>
              have e1 := adv_le m2
              have e2 := adv_ge hT m2
              exact ⟨e1, by show s ≤ adv T s4; omega, fun _ => WG_join hw hone htwo (fun z => hq.2 z.symm) hf hq.1⟩
            · exact okP_f (by omega) m2
      · exact okP_f (by omega) l2
theorem okP_cut {T : Tpe} {B s : Nat} {G : Gd} (hT : okT T) (hw : WG B G) (hs : s ≤ T.1) : okP T B s (pCut T G s) := by
  have a1 := adv_le hs
  have a2 := adv_ge hT hs
  unfold pCut
  obtain ⟨l1, l2⟩ := look_le hT (F := gF G) a1
  cases h1 : look T (gF G) (adv T s) with
  | mk o s2 =>
    rw [h1] at l1 l2
    have l1 : adv T s ≤ s2 := l1
    have l2 : s2 ≤ T.1 := l2
    cases o with
    | none => exact okP_f (by omega) l2
    | some w =>
      have l1 : adv T s ≤ s2 := l1
      have l2 : s2 ≤ T.1 := l2
      show okP T B s (pCut2 T G w s2 (gG G w))
      cases hg : gG G w with
      | none => exact okP_f (by omega) l2
      | some v =>
        have e1 := adv_le l2
        have e2 := adv_ge hT l2
        exact ⟨e1, by show s ≤ adv T s2; omega, fun _ => WG_cut hw hg⟩
theorem okP_walk {T : Tpe} {B s kd : Nat} {G : Gd} (hT : okT T) (hw : WG B G) (hs : s ≤ T.1) (hk : kd < 6) : okP T B s (pWalk T G s kd) := by
  have a1 := adv_le hs
  have a2 := adv_ge hT hs
  have b1 := adv_le a1
  have b2 := adv_ge hT a1
  unfold pWalk
  split
  · next hW =>
    split
    · obtain ⟨l1, l2⟩ := look_le hT (F := gF G) b1
      cases h1 : look T (gF G) (adv T (adv T s)) with
      | mk o s2 =>
        rw [h1] at l1 l2
        have l1 : adv T (adv T s) ≤ s2 := l1
        have l2 : s2 ≤ T.1 := l2
        cases o with
        | none => exact okP_f (by omega) l2
        | some w =>
          have hl := look_lt h1
          have l1 : adv T (adv T s) ≤ s2 := l1
          have l2 : s2 ≤ T.1 := l2
          have e1 := adv_le l2
          have e2 := adv_ge hT l2
          exact ⟨e1, by show s ≤ adv T s2; omega, fun _ => WG_wk hw hW (Nat.le_refl _) (Or.inl rfl) ⟨show kd ≤ 5 by omega, hl, Nat.zero_le _, Nat.zero_le _⟩⟩
    · exact okP_f (by omega) a1
  · exact okP_f (Nat.le_refl _) hs
theorem okP_item {T : Tpe} {B s : Nat} {G : Gd} (hT : okT T) (hw : WG B G) (hs : s ≤ T.1) : okP T B s (pItem T G s) := by
  unfold pItem
  split
  · exact okP_field hT hw hs
  · split
    · exact okP_glue hT hw hs
    · split
      · exact okP_cut hT hw hs
      · cases hk : knd (wv T s) with
        | none => exact okP_f (Nat.le_refl _) hs
        | some kd => exact okP_walk hT hw hs (knd_lt hk)
/-! the class's teller -/
def FR (M M' : Mem) : Prop := (∀ c, ¬ (1 ≤ c ∧ c ≤ 10) → c ≠ 36 → M'.1 c = M.1 c) ∧ M'.2 = M.2
theorem FR_rf (M : Mem) : FR M M := ⟨fun _ _ _ => rfl, rfl⟩
theorem FR_tr {M M1 M2 : Mem} (h : FR M M1) (k : FR M1 M2) : FR M M2 := ⟨fun c q1 q2 => (k.1 c q1 q2).trans (h.1 c q1 q2), k.2.trans h.2⟩
theorem FR_36 {M M' : Mem} (h : One 36 M M') : FR M M' := ⟨fun c _ q => h.1 c q, h.2⟩
theorem FR_set (M : Mem) {c : Nat} (j : Nat) (v : Int32) (hc : 1 ≤ c) (hc2 : c ≤ 10) : FR M (setI M c j v) := ⟨fun a q1 _ => sI_c _ _ _ (fun z => q1 (by omega)), rfl⟩
theorem CT_fr {T : Tpe} {s : Nat} {M M' : Mem} (h : CT T s M) (h1 : M'.1 36 = M.1 36) (h2 : M'.1 37 = M.1 37) : CT T s M' := by
  obtain ⟨t0, t1, t2, t3, t4, tb⟩ := h
  refine ⟨by rw [h1]; exact t0, by rw [h1]; exact t1, by rw [h1]; exact t2, by rw [h1]; exact t3, by rw [h1]; exact t4, fun x hx => by rw [h2]; exact tb x hx⟩
theorem RG_36 {B : Nat} {G : Gd} {M M' : Mem} (hw : WG B G) (hg : RG 1 G M) (o : One 36 M M') : RG 1 G M' := RG_one hw hg o (by decide)
theorem sname : ∀ d, d < 4 → fX3_sideName (nI d) = 100 + (3 + d) := by decide +kernel
theorem kname : ∀ d, d < 6 → fX3_kindName (nI d) = 100 + (8 + d) := by decide +kernel
theorem sn_st {T : Tpe} {s d n : Nat} {M : Mem} {kx : Option Int32} (hT : okT T) (hs : s ≤ T.1) (h : CT T s M) (hd : d < 4) : fX3_sideNamed_2 kx M (n + 1) (nI d) = if wv T s = CK (3 + d) then some (nI d) else fX3_sideNamed_2 kx M n (nI (d + 1)) := by
  rw [fX3_sideNamed_2, if_neg (show ¬ (4 : Int32) ≤ nI d from nI_ge (b := 4) hd (by decide)), sname d hd, c_isW hT hs (by omega) h, Option.bind_some, nI_1]
  by_cases q : wv T s = CK (3 + d)
  · rw [if_neg (b1 q), if_pos q]
  · rw [if_pos (b0 q), if_neg q]
theorem kn_st {T : Tpe} {s d n : Nat} {M : Mem} {kx : Option Int32} (hT : okT T) (hs : s ≤ T.1) (h : CT T s M) (hd : d < 6) : fX3_kindNamed_2 kx M (n + 1) (nI d) = if wv T s = CK (8 + d) then some (nI d) else fX3_kindNamed_2 kx M n (nI (d + 1)) := by
  rw [fX3_kindNamed_2, if_neg (show ¬ (6 : Int32) ≤ nI d from nI_ge (b := 6) hd (by decide)), kname d hd, c_isW hT hs (by omega) h, Option.bind_some, nI_1]
  by_cases q : wv T s = CK (8 + d)
  · rw [if_neg (b1 q), if_pos q]
  · rw [if_pos (b0 q), if_neg q]
theorem if_gl (p : Prop) {_ : Decidable p} (d : Nat) (o : Option Nat) (x : Option Int32) (h : x = some (gl o)) : (if p then some (nI d) else x) = some (gl (if p then some d else o)) := by
  by_cases q : p
  · rw [if_pos q, if_pos q]; rfl
  · rw [if_neg q, if_neg q]; exact h
theorem c_side {T : Tpe} {s : Nat} {M : Mem} (hT : okT T) (hs : s ≤ T.1) (h : CT T s M) : fX3_sideNamed M = some (gl (sd (wv T s))) := by
  unfold fX3_sideNamed sd
  show fX3_sideNamed_2 (some (-1)) M (995 + 1 + 1 + 1 + 1 + 1) (nI 0) = _
  rw [sn_st hT hs h (by decide), sn_st hT hs h (by decide), sn_st hT hs h (by decide), sn_st hT hs h (by decide)]
  refine if_gl _ 0 _ _ (if_gl _ 1 _ _ (if_gl _ 2 _ _ (if_gl _ 3 _ _ ?_)))
  rw [fX3_sideNamed_2, if_pos (by decide)]; rfl
theorem c_kind {T : Tpe} {s : Nat} {M : Mem} (hT : okT T) (hs : s ≤ T.1) (h : CT T s M) : fX3_kindNamed M = some (gl (knd (wv T s))) := by
  unfold fX3_kindNamed knd
  show fX3_kindNamed_2 (some (-1)) M (993 + 1 + 1 + 1 + 1 + 1 + 1 + 1) (nI 0) = _
  rw [kn_st hT hs h (by decide), kn_st hT hs h (by decide), kn_st hT hs h (by decide), kn_st hT hs h (by decide), kn_st hT hs h (by decide), kn_st hT hs h (by decide)]
  refine if_gl _ 0 _ _ (if_gl _ 1 _ _ (if_gl _ 2 _ _ (if_gl _ 3 _ _ (if_gl _ 4 _ _ (if_gl _ 5 _ _ ?_)))))
  rw [fX3_kindNamed_2, if_pos (by decide)]; rfl
theorem c_look {T : Tpe} {B s : Nat} {G : Gd} {M : Mem} (hT : okT T) (hw : WG B G) (hs : s ≤ T.1) (hg : RG 1 G M) (h : CT T s M) : ∃ M', fX3_lookAtSide M = some (gl (look T (gF G) s).1, M') ∧ CT T (look T (gF G) s).2 M' ∧ One 36 M M' := by
  have h16 := hw.1
  obtain ⟨n1, n2⟩ := c_nb (lim := gF G) hT (by omega) h
  unfold fX3_lookAtSide look
  rw [hg.1]
  by_cases q : nb T s (gF G)
  · obtain ⟨M', p, c, o⟩ := c_adv hT hs h
    rw [if_neg (fun z => n1.mp z q), if_pos (nbB_t.mpr q), p, Option.bind_some, c_side hT (adv_le hs) c, Option.bind_some, n2 q]
    cases hd : sd (wv T (adv T s)) with
    | none => exact ⟨M', by rw [if_pos (show gl none = -1 from rfl)]; rfl, c, o⟩
    | some d =>
      have := sd_lt hd
      refine ⟨M', ?_, c, o⟩
      rw [if_neg (show ¬ gl (some d) = -1 from nI_m1 d (by omega))]
      show some (fX5_wayOf (nI (mnum T s)) (nI d), M') = _
      rw [c_wayOf]; rfl
  · rw [if_pos (n1.mpr q), if_neg (fun z => q (nbB_t.mp z))]
    exact ⟨M, rfl, h, One_rf _ _⟩
def CRes (T : Tpe) (r : PR) (f : Option (Int32 × Mem)) (M : Mem) : Prop := ∃ M', f = some (if r.1 = true then 1 else 0, M') ∧ CT T r.2.2 M' ∧ (r.1 = true → RG 1 r.2.1 M') ∧ FR M M'
theorem CRes_f {T : Tpe} {s : Nat} {G : Gd} {f : Option (Int32 × Mem)} {M M' : Mem} (h : f = some (0, M')) (c : CT T s M') (r : FR M M') : CRes T (false, G, s) f M := ⟨M', h, c, fun q => (by cases q), r⟩
theorem CRes_t {T : Tpe} {s : Nat} {G : Gd} {f : Option (Int32 × Mem)} {M M' : Mem} (h : f = some (1, M')) (c : CT T s M') (g : RG 1 G M') (r : FR M M') : CRes T (true, G, s) f M := ⟨M', h, c, fun _ => g, r⟩
theorem af_FR (M : Mem) (F a : Nat) (v : Int32) : FR M (setI (afM M F a) 1 0 v) ∧ (setI (afM M F a) 1 0 v).1 36 = M.1 36 ∧ (setI (afM M F a) 1 0 v).1 37 = M.1 37 := by
  have e : ∀ c, ¬ (1 ≤ c ∧ c ≤ 10) → (setI (afM M F a) 1 0 v).1 c = M.1 c := fun c q => by
    unfold afM
    rw [sI_c _ _ _ (by omega), sI_c _ _ _ (by omega), sI_c _ _ _ (by omega), sI_c _ _ _ (by omega), sI_c _ _ _ (by omega), sI_c _ _ _ (by omega)]
  exact ⟨⟨fun c q _ => e c q, rfl⟩, e 36 (by omega), e 37 (by omega)⟩
theorem c_tField {T : Tpe} {B s : Nat} {G : Gd} {M : Mem} (hT : okT T) (hw : WG B G) (hs : s ≤ T.1) (hg : RG 1 G M) (h : CT T s M) : CRes T (pField T G s) (fX3_tellField M) M := by
  have h16 := hw.1
  have a1 := adv_le hs
  have a2 := adv_le a1
  unfold pField fX3_tellField
  rw [hg.1]
  have hlt : nI (gF G) < (16 : Int32) ↔ gF G < 16 := nI_ltI (b := 16) (by omega) (by decide)
  by_cases hF : gF G < 16
  · obtain ⟨M1, p1, c1, o1⟩ := c_adv hT hs h
    have g1 := RG_36 hw hg o1
    rw [if_pos hF, if_pos (hlt.mpr hF), p1, Option.bind_some, show (101 : Nat) = 100 + 1 from rfl, c_isW hT a1 (by decide) c1, Option.bind_some]
    by_cases q : wv T (adv T s) = CK 1
    · obtain ⟨M2, p2, c2, o2⟩ := c_adv hT a1 c1
      have g2 := RG_36 hw g1 o2
      obtain ⟨n1, n2⟩ := c_nb (lim := 10) hT (by decide) c2
      rw [if_neg (b1 q), if_pos q, p2, Option.bind_some]
      by_cases q2 : nb T (adv T (adv T s)) 10
      · obtain ⟨M3, p3, c3, o3⟩ := c_adv hT a2 c2
        have g3 := RG_36 hw g2 o3
        obtain ⟨f1, f2, f3⟩ := af_FR M3 (gF G) (mnum T (adv T (adv T s))) (nI (gF G + 1))
        rw [if_pos (nbB_t.mpr q2)]
        refine CRes_t (M' := setI (afM M3 (gF G) (mnum T (adv T (adv T s)))) 1 0 (nI (gF G + 1))) ?_ (CT_fr c3 f2 f3) (RG_field hw g3 hF _) (FR_tr (FR_36 (One_tr (One_tr o1 o2) o3)) f1)
        rw [if_neg (show ¬ fX2_isNumberBelow (10 : Int32) M2 = 0 from fun z => n1.mp z q2), p3, Option.bind_some, n2 q2, c_addField hw g3 hF]; rfl
      · rw [if_neg (fun z => q2 (nbB_t.mp z))]
        refine CRes_f (M' := M2) ?_ c2 (FR_36 (One_tr o1 o2))
        rw [if_pos (show fX2_isNumberBelow (10 : Int32) M2 = 0 from n1.mpr q2)]
    · obtain ⟨f1, f2, f3⟩ := af_FR M1 (gF G) 0 (nI (gF G + 1))
      rw [if_pos (b0 q), if_neg q]
      refine CRes_t (M' := setI (afM M1 (gF G) 0) 1 0 (nI (gF G + 1))) ?_ (CT_fr c1 f2 f3) (RG_field hw g1 hF _) (FR_tr (FR_36 o1) f1)
      rw [show (0 : Int32) = nI 0 from rfl, c_addField hw g1 hF]; rfl
  · rw [if_neg hF, if_neg (fun z => hF (hlt.mp z))]
    exact CRes_f rfl h (FR_rf _)
