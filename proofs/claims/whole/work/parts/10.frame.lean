/-! ===== THE WORLD: 60 cells that never move; their ints and longs are a memory ===== -/
abbrev Mem : Type := (Nat → Nat → Int32) × (Nat → Nat → Int64)
/-- launch, the classes' numbers, the cells' addresses (100.. strings, 130.. their bytes, 150 the formatter, 200 the script), the array classes -/
abbrev Wo : Type := Launch × va_G × (Nat → Nat) × (Nat → ClassId)
/-- a method: name, code, locals, what it returns -/
abbrev Mth : Type := MethodName × ByteArray × Nat × Option FieldType
def Tw : List Cond := lw_tbl.filter goodWord
/-- a cell's shape: (0, class, fields: none an int, some c the cell c), (1, n, _) ints, (2, n, _) longs, (3, n, cells) walkers, (4, n, cells) sheets -/
abbrev Shp : Type := Nat × Nat × List (Option Nat)
def sh_wk : Shp := (0, 3, [none, none, none, none])
def sh_gr (b : Nat) : List Shp := [(0, 0, [none, none, some (b + 1), some (b + 8), some (b + 9)]), (3, 6, [some (b + 2), some (b + 3), some (b + 4), some (b + 5), some (b + 6), some (b + 7)]), sh_wk, sh_wk, sh_wk, sh_wk, sh_wk, sh_wk, (1, 16, []), (1, 64, [])]
def sh_st (b : Nat) : List Shp := [(0, 1, [none, none, some (b + 1)]), (2, 40, [])]
def shL : List Shp :=
  [(0, 4, [some 1, some 11, some 21, some 31, some 32, some 33, some 34, some 35, some 36, some 39, some 48, none])] ++ sh_gr 1 ++ sh_gr 11 ++ sh_gr 21 ++
  [sh_wk, sh_wk, (1, 16, []), (1, 16, []), (1, 64, []), (0, 2, [none, none, none, none, none, some 37]), (1, 120, []), (2, 40, []), (4, 4, [some 40, some 42, some 44, some 46])] ++
  sh_st 40 ++ sh_st 42 ++ sh_st 44 ++ sh_st 46 ++ [(1, 7, [])] ++
  [(0, 5, [some 50, some 51, some 52, some 53, some 54, none, some 55, some 56, none, none, none, none, none, some 57, some 58, some 59, some 38]), (1, 112, []), (1, 112, []), (1, 112, []), (1, 112, []), (1, 7, []), (1, 64, []), (1, 120, []), (1, 4, []), (1, 4, []), (2, 160, [])]
def sh (c : Nat) : Shp := shL.getD c (9, 0, [])
theorem shL_len : shL.length = 60 := by decide +kernel
theorem sh_lt {c : Nat} {q : Shp} (h : sh c = q) (hq : q.1 ≠ 9) : c < 60 := by
  refine Nat.lt_of_not_le fun hc => hq ?_
  rw [← h, sh, List.getD_eq_getElem?_getD, List.getElem?_eq_none (by rw [shL_len]; exact hc)]
  rfl
def fvE (g : Wo) (M : Mem) (c k : Nat) : Option Nat → Value
  | none => Value.int (M.1 c k)
  | some r => Value.ref (g.2.2.1 r)
def fldE (g : Wo) (M : Mem) (c : Nat) (fs : List (Option Nat)) : List Value := fs.mapIdx (fun k o => fvE g M c k o)
def cellE (g : Wo) (M : Mem) (c : Nat) : va_E := match sh c with
  | (0, ci, fs) => .inr (ci, fldE g M c fs)
  | (1, n, _) => .inl (g.2.2.2 0, n, .inl (M.1 c))
  | (2, n, _) => .inl (g.2.2.2 1, n, .inr (.inl (M.2 c)))
  | (3, n, fs) => .inl (g.2.2.2 2, n, .inr (.inr (.inr (.inr (fun j => (fs.getD j none).map g.2.2.1)))))
  | (_, n, fs) => .inl (g.2.2.2 3, n, .inr (.inr (.inr (.inr (fun j => (fs.getD j none).map g.2.2.1)))))
theorem fvE_cg {g : Wo} {M M' : Mem} {c : Nat} (h : M'.1 c = M.1 c) (k : Nat) (o : Option Nat) : fvE g M' c k o = fvE g M c k o := by cases o <;> simp [fvE, h]
theorem cell0 {g : Wo} {M : Mem} {c ci : Nat} {fs : List (Option Nat)} (hs : sh c = (0, ci, fs)) : cellE g M c = .inr (ci, fldE g M c fs) := by simp only [cellE, hs]
theorem cell1 {g : Wo} {M : Mem} {c n : Nat} {fs : List (Option Nat)} (hs : sh c = (1, n, fs)) : cellE g M c = .inl (g.2.2.2 0, n, .inl (M.1 c)) := by simp only [cellE, hs]
theorem cell2 {g : Wo} {M : Mem} {c n : Nat} {fs : List (Option Nat)} (hs : sh c = (2, n, fs)) : cellE g M c = .inl (g.2.2.2 1, n, .inr (.inl (M.2 c))) := by simp only [cellE, hs]
theorem cell3 {g : Wo} {M : Mem} {c n : Nat} {fs : List (Option Nat)} (hs : sh c = (3, n, fs)) : cellE g M c = .inl (g.2.2.2 2, n, .inr (.inr (.inr (.inr (fun j => (fs.getD j none).map g.2.2.1))))) := by simp only [cellE, hs]
theorem cell4 {g : Wo} {M : Mem} {c n : Nat} {fs : List (Option Nat)} (hs : sh c = (4, n, fs)) : cellE g M c = .inl (g.2.2.2 3, n, .inr (.inr (.inr (.inr (fun j => (fs.getD j none).map g.2.2.1))))) := by simp only [cellE, hs]
def wsOf (g : Wo) (M : Mem) : va_W := (List.range 60).map (fun c => (g.2.2.1 c, cellE g M c))
def tysOf (g : Wo) : List (ClassId × FieldType) := [(g.2.2.2 0, .int), (g.2.2.2 1, .long), (g.2.2.2 2, .object "BentPlain$Walker"), (g.2.2.2 3, .object "BentPlain$Sheet")]
def inA (g : Wo) : Nat → Prop := fun q => ∃ c, c < 60 ∧ q = g.2.2.1 c
def Pd (g : Wo) (M : Mem) (H : Heap) : Prop := va_P g.2.1 vwCl (wsOf g M) H
theorem ws_at (g : Wo) (M : Mem) {c : Nat} (h : c < 60) : (wsOf g M)[c]? = some (g.2.2.1 c, cellE g M c) := by
  simp [wsOf, h]
def inj60 (g : Wo) : Prop := ∀ a b, a < 60 → b < 60 → g.2.2.1 a = g.2.2.1 b → a = b
theorem ws_D {g : Wo} (h : inj60 g) (M : Mem) : va_D (inA g) (wsOf g M) := by
  have key : ∀ (k : Nat) (q : Nat × va_E), (wsOf g M)[k]? = some q → k < 60 ∧ q = (g.2.2.1 k, cellE g M k) := by
    intro k q hk
    have hl := (List.getElem?_eq_some_iff.mp hk).1
    have hl : k < 60 := by simpa [wsOf] using hl
    rw [ws_at g M hl] at hk
    exact ⟨hl, (Option.some.inj hk).symm⟩
  refine ⟨fun i j p q hi hj e => ?_, fun k q hk => ?_⟩
  · obtain ⟨h1, rfl⟩ := key i p hi
    obtain ⟨h2, rfl⟩ := key j q hj
    exact h i j h1 h2 e
  · obtain ⟨h1, rfl⟩ := key k q hk
    exact ⟨k, h1, rfl⟩
theorem ws_set (g : Wo) {M M' : Mem} {c : Nat} (h : c < 60) (h1 : ∀ a, a ≠ c → M'.1 a = M.1 a) (h2 : ∀ a, a ≠ c → M'.2 a = M.2 a) : (wsOf g M).set c (g.2.2.1 c, cellE g M' c) = wsOf g M' := by
  apply List.ext_getElem?
  intro k
  by_cases hk : k = c
  · subst hk
    rw [List.getElem?_set_self (by simpa [wsOf] using h), ws_at g M' h]
  · rw [List.getElem?_set_ne (Ne.symm hk)]
    by_cases hl : k < 60
    · rw [ws_at g M hl, ws_at g M' hl]
      have e : cellE g M' k = cellE g M k := by simp only [cellE, fldE, fvE_cg (h1 k hk), h1 k hk, h2 k hk]
      rw [e]
    · rw [List.getElem?_eq_none (by simpa [wsOf] using hl), List.getElem?_eq_none (by simpa [wsOf] using hl)]
def setI (M : Mem) (c j : Nat) (v : Int32) : Mem := (fun a => if a = c then upd (M.1 a) j v else M.1 a, M.2)
def setJ (M : Mem) (c j : Nat) (v : Int64) : Mem := (M.1, fun a => if a = c then vp_updL (M.2 a) j v else M.2 a)
def cpyI (M : Mem) (c c' sp dp n : Nat) : Mem := (fun a => if a = c' then va_cpy (M.1 c) (M.1 a) sp dp n else M.1 a, M.2)
def cpyJ (M : Mem) (c c' sp dp n : Nat) : Mem := (M.1, fun a => if a = c' then va_cpy (M.2 c) (M.2 a) sp dp n else M.2 a)
/-! what the state's tables and old cells say, at a method's start -/
def strL : List (String × Nat × String) := [("BentPlain$Teller", 30, "field"), ("BentPlain$Teller", 57, "rough"), ("BentPlain$Teller", 39, "glue"), ("BentPlain$Teller", 111, "north"), ("BentPlain$Teller", 113, "east"), ("BentPlain$Teller", 115, "south"), ("BentPlain$Teller", 117, "west"), ("BentPlain$Teller", 44, "cut"), ("BentPlain$Teller", 119, "walker"), ("BentPlain$Teller", 121, "surveyor"), ("BentPlain$Teller", 123, "soldier"), ("BentPlain$Teller", 125, "boy"), ("BentPlain$Teller", 127, "carter"), ("BentPlain$Teller", 129, "cat"), ("BentPlain$Teller", 92, "at")]
def lenL : List Nat := [5, 5, 4, 5, 4, 5, 4, 3, 6, 8, 7, 3, 6, 3, 2]
def bytL : List (List Int32) := [[102, 105, 101, 108, 100], [114, 111, 117, 103, 104], [103, 108, 117, 101], [110, 111, 114, 116, 104], [101, 97, 115, 116], [115, 111, 117, 116, 104], [119, 101, 115, 116], [99, 117, 116], [119, 97, 108, 107, 101, 114], [115, 117, 114, 118, 101, 121, 111, 114], [115, 111, 108, 100, 105, 101, 114], [98, 111, 121], [99, 97, 114, 116, 101, 114], [99, 97, 116], [97, 116]]
def nestL : List (String × Nat × MethodName × String) := [("BentPlain$Ground", 24, ⟨"BentPlain$Walker", "<init>", "()V"⟩, "BentPlain"), ("BentPlain", 24, ⟨"BentPlain$Walker", "<init>", "()V"⟩, "BentPlain"), ("BentPlain", 44, ⟨"BentPlain$Tape", "<init>", "()V"⟩, "BentPlain"), ("BentPlain", 58, ⟨"BentPlain$Sheet", "<init>", "()V"⟩, "BentPlain"), ("BentPlain$Ground", 46, ⟨"BentPlain", "wayOf", "(II)I"⟩, "BentPlain"), ("BentPlain$Ground", 68, ⟨"BentPlain", "fieldOf", "(I)I"⟩, "BentPlain"), ("BentPlain", 151, ⟨"BentPlain$Walker", "payOf", "(II)I"⟩, "BentPlain"), ("BentPlain$Ground", 74, ⟨"BentPlain", "turned", "(II)I"⟩, "BentPlain"), ("BentPlain$Walker", 33, ⟨"BentPlain", "turned", "(II)I"⟩, "BentPlain"), ("BentPlain$Walker", 37, ⟨"BentPlain", "fieldOf", "(I)I"⟩, "BentPlain"), ("BentPlain$Teller", 101, ⟨"BentPlain", "wayOf", "(II)I"⟩, "BentPlain")]
def Kd (g : Wo) (U : State) : Prop := va_K g.2.1 vwCl (tysOf g) U ∧ inj60 g ∧ vk_S 15 lenL bytL (fun i => g.2.2.1 (100 + i)) (fun i => g.2.2.1 (130 + i)) (inA g) U U.heap ∧
  (∀ i, ∀ q, strL[i]? = some q → vk_R q.1 q.2.1 q.2.2 (g.2.2.1 (100 + i)) U) ∧ (∀ q ∈ nestL, va_Nw (.methodLinkNest q.1 q.2.1 q.2.2.1 q.2.2.2) U) ∧
  va_Z "java/lang/String" "COMPACT_STRINGS" "Z" (.int 1) (inA g) U U.heap ∧ (va_Z "jdk/internal/util/Preconditions" "SIOOBE_FORMATTER" "Ljava/util/function/BiFunction;" .null (inA g) U U.heap ∨ va_Z "jdk/internal/util/Preconditions" "SIOOBE_FORMATTER" "Ljava/util/function/BiFunction;" (.ref (g.2.2.1 150)) (inA g) U U.heap)
theorem Kd_moved {g : Wo} {s U : State} {H : Heap} {locs : List Loc} (h : Kd g s) (hU : U.heap = H) (hS : va_S (inA g) s.heap H locs) (hW : s.WarmedH U.vm) : Kd g U := by
  obtain ⟨h1, h2, h3, h4, h5, h6, h7⟩ := h
  have hk : ∀ a : Nat, a < s.heap.size → ¬ inA g a → U.heap[a]? = s.heap[a]? := fun a q1 q2 => by rw [hU]; exact hS.2.1 a q1 q2
  exact ⟨va_K.moved hW.alike h1, h2, (h3.kept hk).moved hW.alike, fun i q hq => (h4 i q hq).warm hW, fun q hq => va_Nw.warmM hW (h5 q hq), (h6.kept hk).moved hW.alike,
    h7.elim (fun z => Or.inl ((z.kept hk).moved hW.alike)) (fun z => Or.inr ((z.kept hk).moved hW.alike))⟩
theorem Kd_same {g : Wo} {U U' : State} (h : Kd g U) (hv : U'.vm = U.vm) (hh : U'.heap = U.heap) : Kd g U' := by
  have hal : U.vm.Alike U'.vm := by rw [hv]; exact Vm.Alike.refl _
  obtain ⟨h1, h2, h3, h4, h5, h6, h7⟩ := h
  have hk : ∀ a : Nat, a < U.heap.size → ¬ inA g a → U'.heap[a]? = U.heap[a]? := fun a _ _ => by rw [hh]
  exact ⟨va_K.moved hal h1, h2, (h3.kept hk).moved hal, fun i q hq => (h4 i q hq).same hv, fun q hq => va_Nw.same rfl hv.symm (h5 q hq), (h6.kept hk).moved hal,
    h7.elim (fun z => Or.inl ((z.kept hk).moved hal)) (fun z => Or.inr ((z.kept hk).moved hal))⟩
/-! locals -/
def trv (g : Wo) : Value → Value
  | .ref a => .ref (g.2.2.1 a)
  | v => v
theorem trv_cat (g : Wo) (v : Value) : (trv g v).category = v.category := by cases v <;> rfl
def asl (g : Wo) : Nat → List (Option Value) → List (Nat × Value)
  | _, [] => []
  | i, none :: l => asl g (i + 1) l
  | i, some v :: l => (i, trv g v) :: asl g (i + 1) l
theorem asl_mem {g : Wo} {l : List (Option Value)} : ∀ {n i : Nat} {w : Value}, (i, w) ∈ asl g n l ↔ ∃ v, n ≤ i ∧ l[i - n]? = some (some v) ∧ w = trv g v := by
  induction l with
  | nil => intro n i w; simp [asl]
  | cons o l ih =>
    intro n i w
    cases o with
    | none =>
      rw [asl, ih]
      constructor
      · rintro ⟨v, h1, h2, h3⟩
        refine ⟨v, by omega, ?_, h3⟩
        rw [show i - n = (i - (n + 1)) + 1 by omega, List.getElem?_cons_succ]; exact h2
      · rintro ⟨v, h1, h2, h3⟩
        by_cases e : i = n
        · subst e; simp at h2
        · refine ⟨v, by omega, ?_, h3⟩
          rw [show i - n = (i - (n + 1)) + 1 by omega, List.getElem?_cons_succ] at h2; exact h2
    | some u =>
      rw [asl, List.mem_cons, ih]
      constructor
      · rintro (h | ⟨v, h1, h2, h3⟩)
        · cases h
          exact ⟨u, Nat.le_refl _, by simp, rfl⟩
        · refine ⟨v, by omega, ?_, h3⟩
          rw [show i - n = (i - (n + 1)) + 1 by omega, List.getElem?_cons_succ]; exact h2
      · rintro ⟨v, h1, h2, h3⟩
        by_cases e : i = n
        · subst e
          simp at h2
          subst h2
          exact Or.inl (by rw [h3])
        · refine Or.inr ⟨v, by omega, ?_, h3⟩
          rw [show i - n = (i - (n + 1)) + 1 by omega, List.getElem?_cons_succ] at h2; exact h2
def lvH (g : Wo) (LS : Array Slot) (n : Nat) (ls : List (Option Value)) : Prop := lv_has LS n (asl g 0 ls)
theorem lvH_at {g : Wo} {LS : Array Slot} {n i : Nat} {ls : List (Option Value)} {v : Value} (h : lvH g LS n ls) (hi : ls[i]? = some (some v)) : LS[i]? = some (.val (trv g v)) :=
  h.2.2 (i, trv g v) (asl_mem.mpr ⟨v, Nat.zero_le _, hi, rfl⟩)
theorem lvH_of {g : Wo} {LS : Array Slot} {n : Nat} {ls : List (Option Value)} {l : List (Nat × Value)} (h : lv_has LS n l) (hs : ∀ i v, ls[i]? = some (some v) → (i, trv g v) ∈ l) : lvH g LS n ls :=
  ⟨h.1, h.2.1, fun q hq => h.2.2 q (by
    obtain ⟨i, w⟩ := q
    obtain ⟨v, -, h2, h3⟩ := asl_mem.mp hq
    rw [h3]; exact hs i v h2)⟩
/-- storing: one slot (a long ahead of it is gone), two slots -/
def cl2 (o : Option Value) : Option Value := o.filter (fun v => v.category != 2)
def st1 (ls : List (Option Value)) (i : Nat) (v : Value) : List (Option Value) := ls.mapIdx (fun j o => if j = i then some v else if j + 1 = i then cl2 o else o)
def st2 (ls : List (Option Value)) (i : Nat) (v : Value) : List (Option Value) := ls.mapIdx (fun j o => if j = i then some v else if j = i + 1 then none else if j + 1 = i then cl2 o else o)
theorem lvH_st1 {g : Wo} {LS : Array Slot} {n i : Nat} {ls : List (Option Value)} {v : Value} (h' : lv_has LS n ((i, trv g v) :: (asl g 0 ls).filter (fun q => !(q.1 == i) && !(q.1 + 1 == i && q.2.category == 2)))) : lvH g LS n (st1 ls i v) := by
  refine lvH_of h' fun j w hj => ?_
  rw [st1, List.getElem?_mapIdx] at hj
  cases ho : ls[j]? with
  | none => rw [ho] at hj; simp at hj
  | some o =>
    rw [ho] at hj
    simp only [Option.map_some, Option.some.injEq] at hj
    by_cases e : j = i
    · rw [if_pos e] at hj
      cases hj
      rw [e]
      exact List.mem_cons_self
    · rw [if_neg e] at hj
      have hw : o = some w ∧ (j + 1 = i → ¬ w.category = 2) := by
        by_cases e2 : j + 1 = i
        · rw [if_pos e2, cl2, Option.filter_eq_some_iff] at hj
          exact ⟨hj.1, fun _ hc => by simp [hc] at hj⟩
        · rw [if_neg e2] at hj
          exact ⟨hj, fun q => absurd q e2⟩
      refine List.mem_cons_of_mem _ (List.mem_filter.mpr ⟨asl_mem.mpr ⟨w, Nat.zero_le _, by rw [Nat.sub_zero, ho, hw.1], rfl⟩, ?_⟩)
      have h2 := hw.2
      simp only [trv_cat, Bool.and_eq_true, Bool.not_eq_true', beq_eq_false_iff_ne, ne_eq, Bool.and_eq_false_iff]
      exact ⟨e, by by_cases e2 : j + 1 = i; exact Or.inr (h2 e2); exact Or.inl e2⟩
theorem lvH_st2 {g : Wo} {LS : Array Slot} {n i : Nat} {ls : List (Option Value)} {v : Value} (h' : lv_has LS n ((i, trv g v) :: (asl g 0 ls).filter (fun q => !(q.1 == i) && (!(q.1 == i + 1) && !(q.1 + 1 == i && q.2.category == 2))))) : lvH g LS n (st2 ls i v) := by
  refine lvH_of h' fun j w hj => ?_
  rw [st2, List.getElem?_mapIdx] at hj
  cases ho : ls[j]? with
  | none => rw [ho] at hj; simp at hj
  | some o =>
    rw [ho] at hj
    simp only [Option.map_some, Option.some.injEq] at hj
    by_cases e : j = i
    · rw [if_pos e] at hj
      cases hj
      rw [e]
      exact List.mem_cons_self
    · rw [if_neg e] at hj
      by_cases e1 : j = i + 1
      · rw [if_pos e1] at hj
        cases hj
      · rw [if_neg e1] at hj
        have hw : o = some w ∧ (j + 1 = i → ¬ w.category = 2) := by
          by_cases e2 : j + 1 = i
          · rw [if_pos e2, cl2, Option.filter_eq_some_iff] at hj
            exact ⟨hj.1, fun _ hc => by simp [hc] at hj⟩
          · rw [if_neg e2] at hj
            exact ⟨hj, fun q => absurd q e2⟩
        refine List.mem_cons_of_mem _ (List.mem_filter.mpr ⟨asl_mem.mpr ⟨w, Nat.zero_le _, by rw [Nat.sub_zero, ho, hw.1], rfl⟩, ?_⟩)
        have h2 := hw.2
        simp only [trv_cat, Bool.and_eq_true, Bool.not_eq_true', beq_eq_false_iff_ne, ne_eq, Bool.and_eq_false_iff]
        exact ⟨e, e1, by by_cases e2 : j + 1 = i; exact Or.inr (h2 e2); exact Or.inl e2⟩
/-- the locals with which a method begins -/
def enL : List Value → List (Option Value)
  | [] => []
  | v :: l => if v.category = 2 then some v :: none :: enL l else some v :: enL l
theorem enL_args (g : Wo) : ∀ (vs : List Value) (n i : Nat) (v : Value), n ≤ i → (enL vs)[i - n]? = some (some v) → (i, trv g v) ∈ lv_args n (vs.map (trv g))
  | [], n, i, v, hn, h => by simp [enL] at h
  | u :: vs, n, i, v, hn, h => by
    rw [List.map_cons, lv_args, trv_cat]
    rw [enL] at h
    by_cases hc : u.category = 2
    · rw [if_pos hc] at h ⊢
      by_cases e : i = n
      · subst e
        simp at h
        subst h
        exact List.mem_cons_self
      · by_cases e2 : i = n + 1
        · subst e2
          rw [show n + 1 - n = 1 by omega] at h
          simp at h
        · refine List.mem_cons_of_mem _ (enL_args g vs (n + 2) i v (by omega) ?_)
          rw [show i - n = (i - (n + 2)) + 1 + 1 by omega, List.getElem?_cons_succ, List.getElem?_cons_succ] at h
          exact h
    · rw [if_neg hc] at h ⊢
      by_cases e : i = n
      · subst e
        simp at h
        subst h
        exact List.mem_cons_self
      · refine List.mem_cons_of_mem _ (enL_args g vs (n + 1) i v (by omega) ?_)
        rw [show i - n = (i - (n + 1)) + 1 by omega, List.getElem?_cons_succ] at h
        exact h
theorem enL_len (vs : List Value) (g : Wo) : (lg_sl (vs.map (trv g))).length = (enL vs).length := by
  induction vs with
  | nil => rfl
  | cons v vs ih =>
    rw [List.map_cons, enL, lg_sl, List.flatMap_cons, List.length_append, trv_cat]
    have ih : (List.flatMap (fun v => if v.category = 2 then [Slot.val v, Slot.second] else [Slot.val v]) (List.map (trv g) vs)).length = (enL vs).length := ih
    rw [ih]
    by_cases hc : v.category = 2
    · rw [if_pos hc, if_pos hc]; simp; omega
    · rw [if_neg hc, if_neg hc]; simp; omega
/-! THE JUDGEMENT: room, cells, slots, what is known of the start, the end -/
abbrev ZT : Type := List Frame → Array Value → State → State → Prop
abbrev Jd : Type := Room × Nat × Nat × (Array Value → State → Prop) × ZT
def Cx (g : Wo) (k : Mth) (p : Program) (s : State) (m : MethodId) (args : Array Value) (meth : Method) (c : Code) : Prop :=
  p.tables.exec = Jvm.exec ∧ c.code = k.2.1 ∧ meth.sig.returnType = k.2.2.2 ∧ c.maxLocals = k.2.2.1 ∧ s.vm.findClass k.1.cls = some m.cls ∧ (∀ w ∈ Tw, w.before args s = true) ∧ meth.locks = false ∧ Kd g s
def V (g : Wo) (k : Mth) (j : Jd) (pc : Nat) (ls : List (Option Value)) (st : List Value) (M : Mem) : Prop :=
  ∀ (p : Program) (e : Env) (s : State) (m : MethodId) (args : Array Value) (below : List Frame) (meth : Method) (c : Code) (H : Heap) (locs : List Loc) (LS : Array Slot),
    Cx g k p s m args meth c → j.2.2.2.1 args s → va_S (inA g) s.heap H locs → Pd g M H → lvH g LS k.2.2.1 ls →
    W p g.1 e j.1 s m args below meth c H locs j.2.1 j.2.2.1 (j.2.2.2.2 below args s) (F0 m pc LS (st.map (trv g)))
def rmd (d : Nat) : Room := { frames := d, cells := 0, slots := 0, locals := 64 * d }
def Qc (g : Wo) (r : Option Value) (M' : Mem) : Array Value → State → Outcome → State → Prop := fun _ st oc t => oc = .returned (r.map (trv g)) ∧ Pd g M' t.heap ∧ va_F (inA g) st t
def jm (g : Wo) (d : Nat) (r : Option Value) (M' : Mem) : Jd := (rmd d, 0, 0, fun _ _ => True, fun below args s => MQ below (Qc g r M') args s 0 0 (inA g))
def mW (k : Mth) : List Cond := .code k.1 k.2.1 k.2.2.1 k.2.2.2 :: Tw
def Sp (g : Wo) (k : Mth) (d : Nat) (as : List Value) (M : Mem) (r : Option Value) (M' : Mem) : Prop :=
  Met g.1 k.1 (mW k) (rmd d) (va_Pc (as.map (trv g)) (fun U => Pd g M U.heap ∧ Kd g U)) (Qc g r M') 0 0 (inA g)
theorem Sp_intro {g : Wo} {k : Mth} {d : Nat} {as : List Value} {M M' : Mem} {r : Option Value} (hy : plainName k.1.cls = true) (ls : List (Option Value)) (hls : enL as ++ List.replicate (k.2.2.1 - (enL as).length) none = ls) (hn : (enL as).length ≤ k.2.2.1) (h : V g k (jm g d r M') 0 ls [] M) : Sp g k d as M r M' := by
  refine Met.ofW (cc := k.2.1) (maxL := k.2.2.1) (ret := k.2.2.2) hy rfl ?_
  intro p e s m args below meth c s₁ B hml hv
  obtain ⟨rfl, hP, hK⟩ := hv
  have hts := atoms_spec (ws := mW k) B.pre
  have hl := lv_entry (as.map (trv g)) (n := k.2.2.1) (by rw [enL_len]; exact hn)
  rw [lg_entry_eq]
  refine h p e s m _ below meth c s.heap [] _ ⟨B.exec, B.bytes, B.returns, hml, findClass_of_methodNamed B.named, fun w hw => hts w (List.mem_cons_of_mem _ hw), B.notSynchronized, hK⟩ trivial va_S.rf hP ?_
  refine lvH_of hl fun i v hi => ?_
  refine enL_args g as 0 i v (Nat.zero_le _) ?_
  rw [← hls] at hi
  rw [Nat.sub_zero]
  by_cases hlt : i < (enL as).length
  · rw [List.getElem?_append_left hlt] at hi; exact hi
  · rw [List.getElem?_append_right (by omega), List.getElem?_replicate] at hi
    split at hi <;> simp at hi
/-- fewer locals are known -/
def lsub : List (Option Value) → List (Option Value) → Prop
  | [], _ => True
  | none :: a, _ :: b => lsub a b
  | some v :: a, some w :: b => v = w ∧ lsub a b
  | _, _ => False
theorem lsub_at : ∀ {a b : List (Option Value)}, lsub a b → ∀ {i : Nat} {v : Value}, a[i]? = some (some v) → b[i]? = some (some v)
  | [], _, _, i, v, h => by simp at h
  | none :: a, [], h0, _, _, _ => by simp [lsub] at h0
  | none :: a, _ :: b, h0, i, v, h => by
    cases i with
    | zero => simp at h
    | succ i => rw [List.getElem?_cons_succ] at h ⊢; exact lsub_at (a := a) (b := b) (by simpa [lsub] using h0) h
  | some u :: a, [], h0, _, _, _ => by simp [lsub] at h0
  | some u :: a, none :: b, h0, _, _, _ => by simp [lsub] at h0
  | some u :: a, some w :: b, h0, i, v, h => by
    have h0 : u = w ∧ lsub a b := by simpa [lsub] using h0
    cases i with
    | zero => rw [List.getElem?_cons_zero] at h ⊢; rw [← h0.1]; exact h
    | succ i => rw [List.getElem?_cons_succ] at h ⊢; exact lsub_at (a := a) (b := b) h0.2 h
theorem V.sub {g : Wo} {k : Mth} {j : Jd} {pc : Nat} {ls ls' : List (Option Value)} {st : List Value} {M : Mem} (h : lsub ls' ls) (hv : V g k j pc ls' st M) : V g k j pc ls st M := by
  intro p e s m args below meth c H locs LS h1 h2 h3 h4 h5
  exact hv p e s m args below meth c H locs LS h1 h2 h3 h4 ⟨h5.1, h5.2.1, fun q hq => by
    obtain ⟨i, w⟩ := q
    obtain ⟨v, -, q2, rfl⟩ := asl_mem.mp hq
    exact lvH_at h5 (lsub_at h q2)⟩
theorem V.cg {g : Wo} {k : Mth} {j : Jd} {pc pc' : Nat} {ls ls' : List (Option Value)} {st st' : List Value} {M M' : Mem} (h1 : pc = pc') (h2 : ls = ls') (h3 : st = st') (h4 : M = M') (hv : V g k j pc' ls' st' M') : V g k j pc ls st M := by subst h1; subst h2; subst h3; subst h4; exact hv
