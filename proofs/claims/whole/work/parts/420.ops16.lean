/-! MATHS: who spares himself most -/
def mil (G : Gd) (N k : Nat) : Nat := (mvn G N (gK G k)).2.2.1
def spa (G : Gd) (N : Nat) : Nat → Nat → Option Nat → Option Nat
  | 0, _, o => o
  | m + 1, i, none => spa G N m (i + 1) (some i)
  | m + 1, i, some b => spa G N m (i + 1) (some (if mil G N b ≤ mil G N i then b else i))
def mlo (G : Gd) (N : Nat) : Option Nat → Int32
  | none => 0
  | some b => nI (mil G N b)
theorem c_spl {kx : Int32 → Mem → Option (Int32 × Mem)} {B N : Nat} {G : Gd} (hw : WG B G) (hN : N < 500) (hB : B + 13 * N < 2 ^ 28) (m : Nat) : ∀ (i n : Nat) (M : Mem) (o : Option Nat), RG 1 G M → (∀ b, o = some b → b < gW G) → i + m = gW G → m < n → ∃ M', fX5_spares_21 kx (nI N) n (gl o) (mlo G N o) (nI i) M = kx (gl (spa G N m i o)) M' ∧ One 31 M M' := by
  have h16 := hw.1
  have h6 := hw.2.1
  induction m with
  | zero =>
    intro i n M o hg ho e h
    obtain rfl : i = gW G := by omega
    obtain ⟨n, rfl⟩ : ∃ k, n = k + 1 := ⟨n - 1, by omega⟩
    exact ⟨M, by rw [fX5_spares_21, hg.2.1, if_pos (Int32.le_refl _)]; rfl, One_rf _ _⟩
  | succ m ih =>
    intro i n M o hg ho e h
    obtain ⟨n, rfl⟩ : ∃ k, n = k + 1 := ⟨n - 1, by omega⟩
    have hi : i < gW G := by omega
    obtain ⟨Ma, p1, r1, o1⟩ := c_become (B := 0) (c := 31) hg hi h6 (by decide)
    have ga := RG_one hw hg o1 (by decide)
    obtain ⟨Mb, p2, r2, o2⟩ := c_often (kx := fun M4 => some M4) (c := 31) (by decide) hw N 0 FU B N Ma (gK G i) ga r1 (hw.2.2.2.2 i hi) hB (by omega) (by omega) (by unfold FU; omega)
    have gb := RG_one hw ga o2 (by decide)
    have p2' : fX4_moveOften 31 (nI N) Ma = some Mb := p2
    have r3 : Mb.1 31 2 = nI (mil G N i) := r2.2.2.1
    rw [fX5_spares_21, hg.2.1, if_neg (nI_ge hi (by omega)), ldW_n (by omega), Option.bind_some, p1, Option.bind_some, p2', Option.bind_some, r3, nI_1]
    cases o with
    | none =>
      obtain ⟨M', e1, oo⟩ := ih (i + 1) n Mb (some i) gb (fun b e => by cases e; exact hi) (by omega) (by omega)
      exact ⟨M', by rw [if_pos (show gl none = -1 from rfl), if_pos (show gl none = -1 from rfl)]; exact e1, One_tr (One_tr o1 o2) oo⟩
    | some b =>
      have hb := ho b rfl
      have m1 : mil G N b ≤ B + 13 * N := (okw_mvn hw N (hw.2.2.2.2 b hb)).2.2.1
      have m2 : mil G N i ≤ B + 13 * N := (okw_mvn hw N (hw.2.2.2.2 i hi)).2.2.1
      have hle : mlo G N (some b) ≤ nI (mil G N i) ↔ mil G N b ≤ mil G N i := nI_leI (by omega) (by omega)
      obtain ⟨M', e1, oo⟩ := ih (i + 1) n Mb (some (if mil G N b ≤ mil G N i then b else i)) gb (fun c e => by cases e; split <;> omega) (by omega) (by omega)
      refine ⟨M', ?_, One_tr (One_tr o1 o2) oo⟩
      rw [if_neg (show ¬ gl (some b) = -1 from nI_m1 b (by omega)), if_neg (show ¬ gl (some b) = -1 from nI_m1 b (by omega))]
      refine Eq.trans ?_ e1
      by_cases q : mil G N b ≤ mil G N i
      · rw [if_pos (hle.mpr q), if_pos (hle.mpr q), if_pos q]
      · rw [if_neg (fun z => q (hle.mp z)), if_neg (fun z => q (hle.mp z)), if_neg q]; rfl
theorem m_spn {ρ : Type} {kx : Mem → Option ρ} {B N : Nat} {G : Gd} (hw : WG B G) (hB : B + 13 * N + 13 < 2 ^ 28) (hN : N < 500) (m : Nat) : ∀ (i n : Nat) (M : Mem), RS 50 (gTo G (gW G) i) M → i + m = N → m < n → ∃ M', fX6_spares_25 kx (nI N) n (nI i) M = kx M' ∧ RS 50 (gTo G (gW G) N) M' ∧ One 50 M M' := by
  induction m with
  | zero =>
    intro i n M hs e h
    obtain rfl : i = N := by omega
    obtain ⟨n, rfl⟩ : ∃ k, n = k + 1 := ⟨n - 1, by omega⟩
    exact ⟨M, by rw [fX6_spares_25, if_pos (Int32.le_refl _)], hs, One_rf _ _⟩
  | succ m ih =>
    intro i n M hs e h
    obtain ⟨n, rfl⟩ : ∃ k, n = k + 1 := ⟨n - 1, by omega⟩
    obtain ⟨M1, e1, r1, o1⟩ := m_alls hw i (by omega) hs
    obtain ⟨M', e2, r2, o2⟩ := ih (i + 1) n M1 r1 (by omega) (by omega)
    exact ⟨M', by rw [fX6_spares_25, if_neg (nI_ge (show i < N by omega) (by omega)), e1, Option.bind_some, nI_1, e2], r2, One_tr o1 o2⟩
theorem m_spl {ρ : Type} {kx : Int32 → Option ρ} {B N : Nat} {G : Gd} {M : Mem} (hw : WG B G) (hB : B + 13 * N < 2 ^ 28) (hs : RS 50 (gTo G (gW G) N) M) (m : Nat) : ∀ (i n : Nat) (o : Option Nat), (∀ b, o = some b → b < gW G) → i + m = gW G → m < n → fX6_spares_44 kx M n (gl o) (nI i) = kx (gl (spa G N m i o)) := by
  have h6 := hw.2.1
  have hml : ∀ k, k < gW G → M.1 50 (85 + 5 * k) = nI (mil G N k) := fun k hk => by
    have := (hs.2.2.2.2 k hk).2.2.2.1
    rw [gTo_lt G N hk] at this; exact this
  have hmb : ∀ k, k < gW G → mil G N k ≤ B + 13 * N := fun k hk => (okw_mvn hw N (hw.2.2.2.2 k hk)).2.2.1
  induction m with
  | zero =>
    intro i n o ho e h
    obtain rfl : i = gW G := by omega
    obtain ⟨n, rfl⟩ : ∃ k, n = k + 1 := ⟨n - 1, by omega⟩
    rw [fX6_spares_44, ld50_1, Option.bind_some, show M.1 50 1 = nI (gW G) from hs.2.1, if_pos (Int32.le_refl _)]; rfl
  | succ m ih =>
    intro i n o ho e h
    obtain ⟨n, rfl⟩ : ∃ k, n = k + 1 := ⟨n - 1, by omega⟩
    have hi : i < gW G := by omega
    rw [fX6_spares_44, ld50_1, Option.bind_some, show M.1 50 1 = nI (gW G) from hs.2.1, if_neg (nI_ge hi (by omega)), nI_1]
    cases o with
    | none =>
      rw [if_pos (show gl none < 0 by decide), Option.bind_some]
      exact ih (i + 1) n (some i) (fun b e => by cases e; exact hi) (by omega) (by omega)
    | some b =>
      have hb := ho b rfl
      have m1 := hmb b hb
      have m2 := hmb i hi
      have hle : nI (mil G N b) ≤ nI (mil G N i) ↔ mil G N b ≤ mil G N i := nI_leI (by omega) (by omega)
      rw [show gl (some b) = nI b from rfl, if_neg (nI_pos (by omega)), m_part3 (by omega), Option.bind_some, m_part3 (by omega), Option.bind_some, hml i hi, hml b hb]
      refine Eq.trans ?_ (ih (i + 1) n (some (if mil G N b ≤ mil G N i then b else i)) (fun c e => by cases e; split <;> omega) (by omega) (by omega))
      by_cases q : mil G N b ≤ mil G N i
      · rw [if_pos (hle.mpr q), if_pos q]; rfl
      · rw [if_neg (fun z => q (hle.mp z)), if_neg q]; rfl
theorem spa_lt {G : Gd} {N : Nat} (m : Nat) : ∀ (i : Nat) (o : Option Nat), (∀ b, o = some b → b < gW G) → i + m = gW G → ∀ b, spa G N m i o = some b → b < gW G := by
  induction m with
  | zero => intro i o ho e b h; exact ho b h
  | succ m ih =>
    intro i o ho e b h
    cases o with
    | none => exact ih (i + 1) (some i) (fun b e => by cases e; omega) (by omega) b h
    | some c => exact ih (i + 1) _ (fun b e => by cases e; have := ho c rfl; split <;> omega) (by omega) b h
theorem ok_spares {t : Nat} {M : Mem} (ht : t < 512) (hI : Inv t M) (a1 : Int32) : ∃ v w, fX5_spares a1 M = some v ∧ fX6_spares a1 v.2 = some w ∧ v.1 = w.1 ∧ Inv (t + 1) w.2 := by
  refine ok_of hI (fun G hw hg => ?_)
  have h16 := hw.1
  have h6 := hw.2.1
  have e1 : fX6_in a1.toInt64 0 100 = if okx 101 a1 = true then 1 else 0 := in_x a1 (n := 101) rfl
  by_cases h1 : okx 101 a1 = true
  · obtain ⟨N, hN, rfl⟩ := okx_t (by decide) h1
    obtain ⟨Mb, p1, ob⟩ := c_spl (kx := fun u11 M12 => ((fX5_numberOrNone u11 M12).bind fun w13 => some (w13.1, w13.2))) (N := N) hw (by omega) (by omega) (gW G) 0 FU M none hg (fun b e => by cases e) (Nat.zero_add _) (by unfold FU; omega)
    have gb := RG_one hw hg ob (by decide)
    have fb : FC M Mb := FC_one ob (by omega) (by omega) (by omega)
    have b8 : Mb.1 48 = M.1 48 := ob.1 48 (by omega)
    have hsp := spa_lt (G := G) (N := N) (gW G) 0 none (fun b e => by cases e) (Nat.zero_add _)
    have hcl : fX5_spares (nI N) M = ((fX5_numberOrNone (gl (spa G N (gW G) 0 none)) Mb).bind fun w13 => some (w13.1, w13.2)) := by
      unfold fX5_spares
      rw [c_isStepsOn, if_neg (b1 h1)]; exact p1
    have hml : ∀ M1, RS 50 G M1 → ∃ M', RS 50 G M' ∧ FM M1 M' ∧ M'.1 54 = M1.1 54 ∧ fX6_spares (nI N) M1 = (if 0 ≤ gl (spa G N (gW G) 0 none) then some (gl (spa G N (gW G) 0 none), M') else ((fX6_finds (-1000000004 : Int32) M').bind fun w24 => some (w24.1, w24.2))) := by
      intro M1 hs
      obtain ⟨Mc, s1, sc, sd, oc⟩ := m_laysAside hw hs
      obtain ⟨Md, s2, rd, od⟩ := m_spn (kx := fun M7 => (fX6_spares_44 (fun u20 => ((fX6_takesBack u20 M7).bind fun w21 => (if 0 ≤ w21.1 then some (w21.1, w21.2) else ((fX6_finds (-1000000004 : Int32) w21.2).bind fun w24 => some (w24.1, w24.2))))) M7 FU (-1 : Int32) (0 : Int32))) hw (show 1400 * t + 13 * N + 13 < 2 ^ 28 by omega) (by omega) N 0 FU Mc (by rw [gTo_z]; exact sc) (Nat.zero_add _) (by unfold FU; omega)
      obtain ⟨Me, s3, re, oe⟩ := m_takesBack hw (RS_cg sd (od.1 53 (by decide))) (gl (spa G N (gW G) 0 none))
      have oo := One_tr od oe
      refine ⟨Me, re, FM_tr (FM_one oc (by omega) (by omega)) (FM_one oo (by omega) (by omega)), (oo.1 54 (by decide)).trans (oc.1 54 (by decide)), ?_⟩
      unfold fX6_spares
      rw [e1, if_neg (b1 h1), s1, Option.bind_some]
      refine Eq.trans s2 ?_
      refine Eq.trans (m_spl (N := N) hw (show 1400 * t + 13 * N < 2 ^ 28 by omega) rd (gW G) 0 FU none (fun b e => by cases e) (Nat.zero_add _) (by unfold FU; omega)) ?_
      rw [s3, Option.bind_some]
    cases hz : spa G N (gW G) 0 none with
    | none =>
      rw [hz] at hcl hml
      refine ⟨fnd 3, G, some 3, WG_t hw, o7 (by decide), csp_fin' hw gb fb b8 ?_, fun M1 hs => ?_⟩
      · rw [hcl]
        unfold fX5_numberOrNone
        rw [if_pos (show gl none = -1 from rfl), tb3]; rfl
      · obtain ⟨M', r', f', b', e'⟩ := hml M1 hs
        refine msp_fin' r' f' b' ?_
        rw [e', if_neg (show ¬ (0 : Int32) ≤ gl none by decide), mb3]
    | some b =>
      have hb := hsp b hz
      rw [hz] at hcl hml
      refine ⟨nI b, G, none, WG_t hw, o0, ⟨Mb, ?_, gb, fb, b8⟩, fun M1 hs => ?_⟩
      · rw [hcl]
        unfold fX5_numberOrNone
        rw [if_neg (show ¬ gl (some b) = -1 from nI_m1 b (by omega))]; rfl
      · obtain ⟨M', r', f', b', e'⟩ := hml M1 hs
        exact ⟨M', by rw [e', if_pos (show (0 : Int32) ≤ gl (some b) from nI_pos' (by omega))]; rfl, r', f', b'⟩
  · refine ⟨fnd 0, G, some 0, WG_t hw, o7 (by decide), csp_fin hw hg ?_, fun M1 hs => msp_fin hs ?_⟩
    · unfold fX5_spares; rw [c_isStepsOn, if_pos (b0 h1), tb0]
    · unfold fX6_spares; rw [e1, if_pos (b0 h1), mb0]
