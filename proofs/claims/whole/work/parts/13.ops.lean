theorem sh_0 : sh 0 = (0, 4, [some 1, some 11, some 21, some 31, some 32, some 33, some 34, some 35, some 36, some 39, some 48, none]) := by decide +kernel
theorem sh_1 : sh 1 = (0, 0, [none, none, some 2, some 9, some 10]) := by decide +kernel
theorem sh_2 : sh 2 = (3, 6, [some 3, some 4, some 5, some 6, some 7, some 8]) := by decide +kernel
theorem sh_3 : sh 3 = (0, 3, [none, none, none, none]) := by decide +kernel
theorem sh_4 : sh 4 = (0, 3, [none, none, none, none]) := by decide +kernel
theorem sh_5 : sh 5 = (0, 3, [none, none, none, none]) := by decide +kernel
theorem sh_6 : sh 6 = (0, 3, [none, none, none, none]) := by decide +kernel
theorem sh_7 : sh 7 = (0, 3, [none, none, none, none]) := by decide +kernel
theorem sh_8 : sh 8 = (0, 3, [none, none, none, none]) := by decide +kernel
theorem sh_9 : sh 9 = (1, 16, []) := by decide +kernel
theorem sh_10 : sh 10 = (1, 64, []) := by decide +kernel
theorem sh_11 : sh 11 = (0, 0, [none, none, some 12, some 19, some 20]) := by decide +kernel
theorem sh_12 : sh 12 = (3, 6, [some 13, some 14, some 15, some 16, some 17, some 18]) := by decide +kernel
theorem sh_13 : sh 13 = (0, 3, [none, none, none, none]) := by decide +kernel
theorem sh_14 : sh 14 = (0, 3, [none, none, none, none]) := by decide +kernel
theorem sh_15 : sh 15 = (0, 3, [none, none, none, none]) := by decide +kernel
theorem sh_16 : sh 16 = (0, 3, [none, none, none, none]) := by decide +kernel
theorem sh_17 : sh 17 = (0, 3, [none, none, none, none]) := by decide +kernel
theorem sh_18 : sh 18 = (0, 3, [none, none, none, none]) := by decide +kernel
theorem sh_19 : sh 19 = (1, 16, []) := by decide +kernel
theorem sh_20 : sh 20 = (1, 64, []) := by decide +kernel
theorem sh_21 : sh 21 = (0, 0, [none, none, some 22, some 29, some 30]) := by decide +kernel
theorem sh_22 : sh 22 = (3, 6, [some 23, some 24, some 25, some 26, some 27, some 28]) := by decide +kernel
theorem sh_23 : sh 23 = (0, 3, [none, none, none, none]) := by decide +kernel
theorem sh_24 : sh 24 = (0, 3, [none, none, none, none]) := by decide +kernel
theorem sh_25 : sh 25 = (0, 3, [none, none, none, none]) := by decide +kernel
theorem sh_26 : sh 26 = (0, 3, [none, none, none, none]) := by decide +kernel
theorem sh_27 : sh 27 = (0, 3, [none, none, none, none]) := by decide +kernel
theorem sh_28 : sh 28 = (0, 3, [none, none, none, none]) := by decide +kernel
theorem sh_29 : sh 29 = (1, 16, []) := by decide +kernel
theorem sh_30 : sh 30 = (1, 64, []) := by decide +kernel
theorem sh_31 : sh 31 = (0, 3, [none, none, none, none]) := by decide +kernel
theorem sh_32 : sh 32 = (0, 3, [none, none, none, none]) := by decide +kernel
theorem sh_33 : sh 33 = (1, 16, []) := by decide +kernel
theorem sh_34 : sh 34 = (1, 16, []) := by decide +kernel
theorem sh_35 : sh 35 = (1, 64, []) := by decide +kernel
theorem sh_36 : sh 36 = (0, 2, [none, none, none, none, none, some 37]) := by decide +kernel
theorem sh_37 : sh 37 = (1, 120, []) := by decide +kernel
theorem sh_38 : sh 38 = (2, 40, []) := by decide +kernel
theorem sh_39 : sh 39 = (4, 4, [some 40, some 42, some 44, some 46]) := by decide +kernel
theorem sh_40 : sh 40 = (0, 1, [none, none, some 41]) := by decide +kernel
theorem sh_41 : sh 41 = (2, 40, []) := by decide +kernel
theorem sh_42 : sh 42 = (0, 1, [none, none, some 43]) := by decide +kernel
theorem sh_43 : sh 43 = (2, 40, []) := by decide +kernel
theorem sh_44 : sh 44 = (0, 1, [none, none, some 45]) := by decide +kernel
theorem sh_45 : sh 45 = (2, 40, []) := by decide +kernel
theorem sh_46 : sh 46 = (0, 1, [none, none, some 47]) := by decide +kernel
theorem sh_47 : sh 47 = (2, 40, []) := by decide +kernel
theorem sh_48 : sh 48 = (1, 7, []) := by decide +kernel
theorem sh_49 : sh 49 = (0, 5, [some 50, some 51, some 52, some 53, some 54, none, some 55, some 56, none, none, none, none, none, some 57, some 58, some 59, some 38]) := by decide +kernel
theorem sh_50 : sh 50 = (1, 112, []) := by decide +kernel
theorem sh_51 : sh 51 = (1, 112, []) := by decide +kernel
theorem sh_52 : sh 52 = (1, 112, []) := by decide +kernel
theorem sh_53 : sh 53 = (1, 112, []) := by decide +kernel
theorem sh_54 : sh 54 = (1, 7, []) := by decide +kernel
theorem sh_55 : sh 55 = (1, 64, []) := by decide +kernel
theorem sh_56 : sh 56 = (1, 120, []) := by decide +kernel
theorem sh_57 : sh 57 = (1, 4, []) := by decide +kernel
theorem sh_58 : sh 58 = (1, 4, []) := by decide +kernel
theorem sh_59 : sh 59 = (2, 160, []) := by decide +kernel
abbrev isW (r : Nat) : Prop := sh r = (0, 3, [none, none, none, none])
abbrev isG (r : Nat) : Prop := sh r = (0, 0, [none, none, some (r + 1), some (r + 8), some (r + 9)]) ∧ sh (r + 1) = (3, 6, [some (r + 2), some (r + 3), some (r + 4), some (r + 5), some (r + 6), some (r + 7)]) ∧ sh (r + 8) = (1, 16, []) ∧ sh (r + 9) = (1, 64, []) ∧ isW (r + 2) ∧ isW (r + 3) ∧ isW (r + 4) ∧ isW (r + 5) ∧ isW (r + 6) ∧ isW (r + 7)
abbrev isS (r : Nat) : Prop := sh r = (0, 1, [none, none, some (r + 1)]) ∧ sh (r + 1) = (2, 40, [])
def alen (r : Nat) : Nat := (sh r).2.1
abbrev isI (r : Nat) : Prop := sh r = (1, alen r, [])
abbrev isJ (r : Nat) : Prop := sh r = (2, alen r, [])
theorem isG_1 : isG 1 := ⟨sh_1, sh_2, sh_9, sh_10, sh_3, sh_4, sh_5, sh_6, sh_7, sh_8⟩
theorem isG_11 : isG 11 := ⟨sh_11, sh_12, sh_19, sh_20, sh_13, sh_14, sh_15, sh_16, sh_17, sh_18⟩
theorem isG_21 : isG 21 := ⟨sh_21, sh_22, sh_29, sh_30, sh_23, sh_24, sh_25, sh_26, sh_27, sh_28⟩
theorem isW_31 : isW 31 := sh_31
theorem isW_32 : isW 32 := sh_32
theorem isS_40 : isS 40 := by decide +kernel
theorem isS_42 : isS 42 := by decide +kernel
theorem isS_44 : isS 44 := by decide +kernel
theorem isS_46 : isS 46 := by decide +kernel
theorem isI_33 : isI 33 := by decide +kernel
theorem isI_34 : isI 34 := by decide +kernel
theorem isI_35 : isI 35 := by decide +kernel
def inb (i : Int32) (n : Nat) : Bool := decide (¬ (i < 0 ∨ n ≤ i.toNatClampNeg))
def ix (i : Int32) : Nat := i.toNatClampNeg
theorem inb_in {i : Int32} {n : Nat} (h : inb i n = true) : vp_in i n := of_decide_eq_true (p := ¬ (i < 0 ∨ n ≤ i.toNatClampNeg)) h
theorem inb_lt {i : Int32} {n : Nat} (h : inb i n = true) : ix i < n := Nat.not_le.mp fun q => inb_in h (Or.inr q)
def ldI (M : Mem) (c n : Nat) (i : Int32) : Option Int32 := if inb i n = true then some (M.1 c (ix i)) else none
def ldJ (M : Mem) (c n : Nat) (i : Int32) : Option Int64 := if inb i n = true then some (M.2 c (ix i)) else none
def stI (M : Mem) (c n : Nat) (i x : Int32) : Option Mem := if inb i n = true then some (setI M c (ix i) x) else none
def stJ (M : Mem) (c n : Nat) (i : Int32) (x : Int64) : Option Mem := if inb i n = true then some (setJ M c (ix i) x) else none
/-- the walker at a place of the people of the ground r; the sheet at a place -/
def ldW (r : Nat) (i : Int32) : Option Nat := if inb i 6 = true then some (r + 2 + ix i) else none
def ldS (i : Int32) : Option Nat := if inb i 4 = true then some (40 + 2 * ix i) else none
def zck (x : Int32) : Option Int32 := if x = 0 ∨ x = 1 then some x else none
def FU : Nat := 1000
theorem ldW_is {r : Nat} {i : Int32} {v : Nat} (hg : isG r) (h : ldW r i = some v) : isW v := by
  unfold ldW at h
  split at h
  · next hb =>
    cases h
    have hl := inb_lt hb
    obtain ⟨-, -, -, -, h0, h1, h2, h3, h4, h5⟩ := hg
    rcases (show ix i = 0 ∨ ix i = 1 ∨ ix i = 2 ∨ ix i = 3 ∨ ix i = 4 ∨ ix i = 5 by omega) with e | e | e | e | e | e <;> rw [e]
    · exact h0
    · exact h1
    · exact h2
    · exact h3
    · exact h4
    · exact h5
  · cases h
theorem ldS_is {i : Int32} {v : Nat} (h : ldS i = some v) : isS v := by
  unfold ldS at h
  split at h
  · next hb =>
    cases h
    have hl := inb_lt hb
    rcases (show ix i = 0 ∨ ix i = 1 ∨ ix i = 2 ∨ ix i = 3 by omega) with e | e | e | e <;> rw [e]
    · exact isS_40
    · exact isS_42
    · exact isS_44
    · exact isS_46
  · cases h
theorem zck_is {x v : Int32} (h : zck x = some v) : x = v ∧ (v = 0 ∨ v = 1) := by
  unfold zck at h
  split at h
  · next hb => cases h; exact ⟨rfl, hb⟩
  · cases h
theorem z_nar {x : Int32} (h : x = 0 ∨ x = 1) : narrow .boolean (.int x) = .int x := by rcases h with rfl | rfl <;> rfl
theorem z_0 : (0 : Int32) = 0 ∨ (0 : Int32) = 1 := Or.inl rfl
theorem z_1 : (1 : Int32) = 0 ∨ (1 : Int32) = 1 := Or.inr rfl
theorem z_ite {c : Prop} {_ : Decidable c} {a b : Int32} (ha : a = 0 ∨ a = 1) (hb : b = 0 ∨ b = 1) : (if c then a else b) = 0 ∨ (if c then a else b) = 1 := by split <;> assumption
section
variable {g : Wo} {k : Mth} {j : Jd} {pc : Nat} {ls : List (Option Value)} {st : List Value} {M M1 : Mem} {c N : Nat} {z : List (Option Nat)} {i : Int32}
theorem v_ild {v : Int32} (hv : ldI M c N i = some v) (hd : decode k.2.1 pc = .ok (.iaload, 1)) (hs : sh c = (1, N, z)) (n : V g k j (pc + 1) ls (.int v :: st) M) : V g k j pc ls (.int i :: .ref c :: st) M := by
  unfold ldI at hv
  split at hv
  · next hb => cases hv; exact v_iald hd hs (inb_in hb) n
  · cases hv
theorem v_lld {v : Int64} (hv : ldJ M c N i = some v) (hd : decode k.2.1 pc = .ok (.laload, 1)) (hs : sh c = (2, N, z)) (n : V g k j (pc + 1) ls (.long v :: st) M) : V g k j pc ls (.int i :: .ref c :: st) M := by
  unfold ldJ at hv
  split at hv
  · next hb => cases hv; exact v_lald hd hs (inb_in hb) n
  · cases hv
theorem v_ist {x : Int32} (hv : stI M c N i x = some M1) (hd : decode k.2.1 pc = .ok (.iastore, 1)) (hs : sh c = (1, N, z)) (n : V g k j (pc + 1) ls st M1) : V g k j pc ls (.int x :: .int i :: .ref c :: st) M := by
  unfold stI at hv
  split at hv
  · next hb => cases hv; exact v_iast hd hs (inb_in hb) n
  · cases hv
theorem v_lst {x : Int64} (hv : stJ M c N i x = some M1) (hd : decode k.2.1 pc = .ok (.lastore, 1)) (hs : sh c = (2, N, z)) (n : V g k j (pc + 1) ls st M1) : V g k j pc ls (.long x :: .int i :: .ref c :: st) M := by
  unfold stJ at hv
  split at hv
  · next hb => cases hv; exact v_last hd hs (inb_in hb) n
  · cases hv
theorem v_wld {r v : Nat} (hv : ldW r i = some v) (hd : decode k.2.1 pc = .ok (.aaload, 1)) (hs : isG r) (n : V g k j (pc + 1) ls (.ref v :: st) M) : V g k j pc ls (.int i :: .ref (r + 1) :: st) M := by
  unfold ldW at hv
  split at hv
  · next hb =>
    cases hv
    have hl := inb_lt hb
    refine v_aaldW hd hs.2.1 (inb_in hb) ?_ n
    show List.getD _ (ix i) none = _
    rcases (show ix i = 0 ∨ ix i = 1 ∨ ix i = 2 ∨ ix i = 3 ∨ ix i = 4 ∨ ix i = 5 by omega) with e | e | e | e | e | e <;> rw [e] <;> rfl
  · cases hv
theorem v_sld {v : Nat} (hv : ldS i = some v) (hd : decode k.2.1 pc = .ok (.aaload, 1)) (n : V g k j (pc + 1) ls (.ref v :: st) M) : V g k j pc ls (.int i :: .ref 39 :: st) M := by
  unfold ldS at hv
  split at hv
  · next hb =>
    cases hv
    have hl := inb_lt hb
    refine v_aaldS hd sh_39 (inb_in hb) ?_ n
    show List.getD _ (ix i) none = _
    rcases (show ix i = 0 ∨ ix i = 1 ∨ ix i = 2 ∨ ix i = 3 by omega) with e | e | e | e <;> rw [e] <;> rfl
  · cases hv
end
theorem CRn {y : Mth} {d d' : Nat} {g : Wo} {r : Option Value} {M : Mem} (h : d' < d) (hy : y.2.2.1 ≤ 45) : CR (jm g d r M).1 y d' (jm g d r M).2.1 (jm g d r M).2.2.1 := by
  refine ⟨⟨h, ?_⟩, Nat.le_refl _, Nat.le_refl _⟩
  show 8 + (y.2.2.1 + 11) + 64 * d' ≤ 64 * d
  omega
theorem i32ne {x c : Int32} (h : ¬ x = c) : ¬ x.toInt = c.toInt := fun q => h (Int32.toInt_inj.mp q)
/-! arraycopy -/
theorem cpyI_ne (M : Mem) {c c' a b n : Nat} : ∀ q, q ≠ c' → (cpyI M c c' a b n).1 q = M.1 q := fun q h => by simp [cpyI, h]
theorem cpyJ_ne (M : Mem) {c c' a b n : Nat} : ∀ q, q ≠ c' → (cpyJ M c c' a b n).2 q = M.2 q := fun q h => by simp [cpyJ, h]
def inr (i n : Int32) (N : Nat) : Bool := decide (¬ i < 0 ∧ ¬ n < 0 ∧ ix i + ix n ≤ N)
def acI (M : Mem) (c N : Nat) (sp : Int32) (c' N' : Nat) (dp n : Int32) : Option Mem := if inr sp n N = true ∧ inr dp n N' = true then some (cpyI M c c' (ix sp) (ix dp) (ix n)) else none
def acJ (M : Mem) (c N : Nat) (sp : Int32) (c' N' : Nat) (dp n : Int32) : Option Mem := if inr sp n N = true ∧ inr dp n N' = true then some (cpyJ M c c' (ix sp) (ix dp) (ix n)) else none
def ACL (own : String) (idx : Nat) : Prop := Cond.methodLink own idx arraycopyName ∈ Tw ∧ Cond.native arraycopyName ∈ Tw ∧ Cond.static arraycopyName ∈ Tw ∧ Cond.initialized "java/lang/System" ∈ Tw
section
variable {g : Wo} {k : Mth} {j : Jd} {pc idx : Nat} {ls : List (Option Value)} {st : List Value} {M M1 : Mem} {c N c' N' : Nat} {z z' : List (Option Nat)} {sp dp n : Int32}
theorem v_acI (hv : acI M c N sp c' N' dp n = some M1) (hd : decode k.2.1 pc = .ok (.invokestatic idx, 3)) (hl : ACL k.1.cls idx) (hs : sh c = (1, N, z)) (hs' : sh c' = (1, N', z')) (hfr : 1 ≤ j.1.frames) (hlo : (st.map fun v => v.category).sum + (nativeFrameWords "java/lang/System" "arraycopy" 5 + 11) ≤ j.1.locals) (nx : V g k j (pc + 3) ls st M1) : V g k j pc ls (.int n :: .int dp :: .ref c' :: .int sp :: .ref c :: st) M := by
  unfold acI at hv
  split at hv
  · next hb =>
    cases hv
    obtain ⟨h1, h2⟩ := hb
    have h1 := of_decide_eq_true h1
    have h2 := of_decide_eq_true h2
    intro p e s m args below meth c1 H locs LS C e2 e3 e4 e5
    have hc : c' < 60 := sh_lt hs' (by simp)
    obtain ⟨hx, hb, hr, hml, hown, hts, hlk, hK⟩ := id C
    refine va_copyi hx hb (hml.trans e5.1.symm) hown (hts _ hl.1) (hts _ hl.2.1) (hts _ hl.2.2.1) (hts _ hl.2.2.2) hK.1 e4 (ws_D hK.2.1 M) e3 c c' 0 0 (by rw [ws_at g M (sh_lt hs (by simp)), cell1 hs]) (by rw [ws_at g M hc, cell1 hs']) rfl rfl rfl h1.1 h2.1 h1.2.1 h1.2.2 h2.2.2 (fun _ _ => rfl) hfr (by rw [List.map_map]; simpa [Function.comp_def, trv_cat] using hlo) hd (fun H1 locs1 hP hD hS => ?_)
    have he : (wsOf g M).set c' (g.2.2.1 c', .inl (g.2.2.2 0, N', .inl (va_cpy (M.1 c) (M.1 c') sp.toNatClampNeg dp.toNatClampNeg n.toNatClampNeg))) = wsOf g (cpyI M c c' (ix sp) (ix dp) (ix n)) := by
      rw [← ws_set g (M := M) (M' := cpyI M c c' (ix sp) (ix dp) (ix n)) hc (cpyI_ne M) (fun _ _ => rfl), cell1 hs']
      simp only [cpyI, if_true]; rfl
    rw [he] at hP
    exact nx p e s m args below meth c1 H1 locs1 LS C e2 hS hP e5
  · cases hv
theorem v_acJ (hv : acJ M c N sp c' N' dp n = some M1) (hd : decode k.2.1 pc = .ok (.invokestatic idx, 3)) (hl : ACL k.1.cls idx) (hs : sh c = (2, N, z)) (hs' : sh c' = (2, N', z')) (hfr : 1 ≤ j.1.frames) (hlo : (st.map fun v => v.category).sum + (nativeFrameWords "java/lang/System" "arraycopy" 5 + 11) ≤ j.1.locals) (nx : V g k j (pc + 3) ls st M1) : V g k j pc ls (.int n :: .int dp :: .ref c' :: .int sp :: .ref c :: st) M := by
  unfold acJ at hv
  split at hv
  · next hb =>
    cases hv
    obtain ⟨h1, h2⟩ := hb
    have h1 := of_decide_eq_true h1
    have h2 := of_decide_eq_true h2
    intro p e s m args below meth c1 H locs LS C e2 e3 e4 e5
    have hc : c' < 60 := sh_lt hs' (by simp)
    obtain ⟨hx, hb, hr, hml, hown, hts, hlk, hK⟩ := id C
    refine va_copyl hx hb (hml.trans e5.1.symm) hown (hts _ hl.1) (hts _ hl.2.1) (hts _ hl.2.2.1) (hts _ hl.2.2.2) hK.1 e4 (ws_D hK.2.1 M) e3 c c' 1 1 (by rw [ws_at g M (sh_lt hs (by simp)), cell2 hs]) (by rw [ws_at g M hc, cell2 hs']) rfl rfl rfl h1.1 h2.1 h1.2.1 h1.2.2 h2.2.2 (fun _ _ => rfl) hfr (by rw [List.map_map]; simpa [Function.comp_def, trv_cat] using hlo) hd (fun H1 locs1 hP hD hS => ?_)
    have he : (wsOf g M).set c' (g.2.2.1 c', .inl (g.2.2.2 1, N', .inr (.inl (va_cpy (M.2 c) (M.2 c') sp.toNatClampNeg dp.toNatClampNeg n.toNatClampNeg)))) = wsOf g (cpyJ M c c' (ix sp) (ix dp) (ix n)) := by
      rw [← ws_set g (M := M) (M' := cpyJ M c c' (ix sp) (ix dp) (ix n)) hc (fun _ _ => rfl) (cpyJ_ne M), cell2 hs']
      simp only [cpyJ, if_true]; rfl
    rw [he] at hP
    exact nx p e s m args below meth c1 H1 locs1 LS C e2 hS hP e5
  · cases hv
end
/-! Math.min -/
def imn (x y : Int32) : Int32 := if y < x then y else x
def MML (own : String) (idx : Nat) : Prop := Cond.methodLink own idx Lib.Math.min.name ∈ Tw ∧ Cond.static Lib.Math.min.name ∈ Tw ∧ Cond.initialized "java/lang/Math" ∈ Tw ∧ Cond.code Lib.Math.min.name Lib.Math.min.code 2 (some .int) ∈ Tw
theorem v_mmin {g : Wo} {k : Mth} {j : Jd} {pc idx : Nat} {ls : List (Option Value)} {st : List Value} {M : Mem} {x y : Int32} (hd : decode k.2.1 pc = .ok (.invokestatic idx, 3)) (hl : MML k.1.cls idx) (hfr : 1 ≤ j.1.frames) (hlo : (st.map fun v => v.category).sum + 13 ≤ j.1.locals) (hc : j.2.1 ≤ j.1.cells) (hs : j.2.2.1 ≤ j.1.slots) (n : V g k j (pc + 3) ls (.int (imn x y) :: st) M) : V g k j pc ls (.int y :: .int x :: st) M := by
  intro p e s m args below meth c H locs LS C h2 h3 h4 h5
  obtain ⟨hx, hb, hr, hml, hown, hts, hlk, hK⟩ := id C
  exact va_mmin hx hb (hml.trans h5.1.symm) hown (hts _ hl.1) (hts _ hl.2.1) (hts _ hl.2.2.1) (hts _ hl.2.2.2) hfr (by rw [List.map_map]; simpa [Function.comp_def, trv_cat] using hlo) hc hs hd (n p e s m args below meth c H locs LS C h2 h3 h4 h5)
theorem acX0_32 : ACL RX0 32 := ⟨(tw_of (i := 530) (by decide +kernel) (by decide +kernel)), (tw_of (i := 532) (by decide +kernel) (by decide +kernel)), (tw_of (i := 531) (by decide +kernel) (by decide +kernel)), (tw_of (i := 11) (by decide +kernel) (by decide +kernel))⟩
theorem acX5_277 : ACL RX5 277 := ⟨(tw_of (i := 697) (by decide +kernel) (by decide +kernel)), (tw_of (i := 532) (by decide +kernel) (by decide +kernel)), (tw_of (i := 531) (by decide +kernel) (by decide +kernel)), (tw_of (i := 11) (by decide +kernel) (by decide +kernel))⟩
theorem mmX5_227 : MML RX5 227 := ⟨(tw_of (i := 495) (by decide +kernel) (by decide +kernel)), (tw_of (i := 496) (by decide +kernel) (by decide +kernel)), (tw_of (i := 10) (by decide +kernel) (by decide +kernel)), (tw_of (i := 497) (by decide +kernel) (by decide +kernel))⟩
theorem mmX2_41 : MML RX2 41 := ⟨(tw_of (i := 551) (by decide +kernel) (by decide +kernel)), (tw_of (i := 496) (by decide +kernel) (by decide +kernel)), (tw_of (i := 10) (by decide +kernel) (by decide +kernel)), (tw_of (i := 497) (by decide +kernel) (by decide +kernel))⟩
