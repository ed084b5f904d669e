/-! CONSTRUCTORS: a world of cells that grows, by their true addresses -/
def gN (l : Launch) (D : va_G) (ca : Nat → ClassId) : Wo := (l, D, id, ca)
def KN (l : Launch) (D : va_G) (ca : Nat → ClassId) (U : State) : Prop := va_K D vwCl (tysOf (gN l D ca)) U ∧ (∀ q ∈ nestL, va_Nw (.methodLinkNest q.1 q.2.1 q.2.2.1 q.2.2.2) U) ∧ va_AO "BentPlain$Walker" U ∧ va_AO "BentPlain$Sheet" U
theorem KN_moved {l : Launch} {D : va_G} {ca : Nat → ClassId} {s U : State} (h : KN l D ca s) (hW : s.WarmedH U.vm) : KN l D ca U := ⟨va_K.moved hW.alike h.1, fun q hq => va_Nw.warmM hW (h.2.1 q hq), va_AO.moved hW.alike h.2.2.1, va_AO.moved hW.alike h.2.2.2⟩
theorem KN_same {l : Launch} {D : va_G} {ca : Nat → ClassId} {U U' : State} (h : KN l D ca U) (hv : U'.vm = U.vm) : KN l D ca U' := by
  have hal : U.vm.Alike U'.vm := by rw [hv]; exact Vm.Alike.refl _
  exact ⟨va_K.moved hal h.1, fun q hq => va_Nw.same rfl hv.symm (h.2.1 q hq), va_AO.moved hal h.2.2.1, va_AO.moved hal h.2.2.2⟩
def rmc (d mc ms : Nat) : Room := { frames := d, cells := mc, slots := ms, locals := 64 * d }
def Qn (D : va_G) (A : Nat → Prop) (post : va_W → Prop) : Array Value → State → Outcome → State → Prop := fun _ st oc t => oc = .returned none ∧ (∃ w, post w ∧ va_P D vwCl w t.heap ∧ va_D A w) ∧ va_F A st t
def SpN (l : Launch) (D : va_G) (ca : Nat → ClassId) (A : Nat → Prop) (k : Mth) (d mc ms : Nat) (as : List Value) (w : va_W) (post : va_W → Prop) : Prop :=
  Met l k.1 (mW k) (rmc d mc ms) (va_Pc as (fun U => va_P D vwCl w U.heap ∧ va_D A w ∧ KN l D ca U ∧ ∀ q, U.heap.size ≤ q → A q)) (Qn D A post) mc ms A
/-- name of the method at hand: for final fields -/
def VN (l : Launch) (D : va_G) (ca : Nat → ClassId) (A : Nat → Prop) (E : Array Value → State → Prop) (k : Mth) (R : Room) (n1 n2 : Nat) (Z : ZT) (pc : Nat) (ls : List (Option Value)) (st : List Value) (w : va_W) : Prop :=
  ∀ (p : Program) (e : Env) (s : State) (m : MethodId) (args : Array Value) (below : List Frame) (meth : Method) (c : Code) (H : Heap) (locs : List Loc) (LS : Array Slot),
    p.tables.exec = Jvm.exec → c.code = k.2.1 → meth.sig.returnType = k.2.2.2 → c.maxLocals = k.2.2.1 → s.vm.findClass k.1.cls = some m.cls → (∀ w ∈ Tw, w.before args s = true) → meth.locks = false → (k.1.name = "<init>" → meth.name = "<init>") → E args s → KN l D ca s → (∀ q, s.heap.size ≤ q → A q) →
    va_S A s.heap H locs → va_P D vwCl w H → va_D A w → lvH (gN l D ca) LS k.2.2.1 ls →
    W p l e R s m args below meth c H locs n1 n2 (Z below args s) (F0 m pc LS st)
def zN (D : va_G) (A : Nat → Prop) (post : va_W → Prop) (mc ms : Nat) : ZT := fun below args s => MQ below (Qn D A post) args s mc ms A
theorem trvN (l : Launch) (D : va_G) (ca : Nat → ClassId) (v : Value) : trv (gN l D ca) v = v := by cases v <;> rfl
theorem SpN_intro {l : Launch} {D : va_G} {ca : Nat → ClassId} {A : Nat → Prop} {k : Mth} {d mc ms : Nat} {as : List Value} {w : va_W} {post : va_W → Prop} (hy : plainName k.1.cls = true) (ls : List (Option Value)) (hls : enL as ++ List.replicate (k.2.2.1 - (enL as).length) none = ls) (hn : (enL as).length ≤ k.2.2.1) (h : VN l D ca A (fun _ _ => True) k (rmc d mc ms) 0 0 (zN D A post mc ms) 0 ls [] w) : SpN l D ca A k d mc ms as w post := by
  refine Met.ofW (cc := k.2.1) (maxL := k.2.2.1) (ret := k.2.2.2) hy rfl ?_
  intro p e s m args below meth c s₁ B hml hv
  obtain ⟨rfl, hP, hD, hK, hA⟩ := hv
  have hts := atoms_spec (ws := mW k) B.pre
  have e1 : as.map (trv (gN l D ca)) = as := by
    have : (trv (gN l D ca)) = id := funext (trvN l D ca)
    rw [this, List.map_id]
  have hl := lv_entry (as.map (trv (gN l D ca))) (n := k.2.2.1) (by rw [enL_len]; exact hn)
  rw [e1] at hl
  rw [lg_entry_eq]
  refine h p e s m _ below meth c s.heap [] _ B.exec B.bytes B.returns hml (findClass_of_methodNamed B.named) (fun w hw => hts w (List.mem_cons_of_mem _ hw)) B.notSynchronized (fun h => (name_of_methodNamed B.named B.method).1.trans h) trivial hK hA va_S.rf hP hD ?_
  refine lvH_of hl fun i v hi => ?_
  have := enL_args (gN l D ca) as 0 i v (Nat.zero_le _) (by
    rw [← hls] at hi
    rw [Nat.sub_zero]
    by_cases hlt : i < (enL as).length
    · rw [List.getElem?_append_left hlt] at hi; exact hi
    · rw [List.getElem?_append_right (by omega), List.getElem?_replicate] at hi
      split at hi <;> simp at hi)
  rw [e1] at this
  exact this
section
variable {l : Launch} {D : va_G} {ca : Nat → ClassId} {A : Nat → Prop} {E : Array Value → State → Prop} {k : Mth} {R : Room} {n1 n2 : Nat} {Z : ZT} {pc : Nat} {ls : List (Option Value)} {st : List Value} {w : va_W}
theorem n_widen {k1 k2 : Nat} (h1 : n1 ≤ k1) (h2 : n2 ≤ k2) (n : VN l D ca A E k R k1 k2 Z pc ls st w) : VN l D ca A E k R n1 n2 Z pc ls st w := by
  intro p e s m args below meth c H locs LS hx hb hr hml hown hts hlk hnm hE hK hA hS hP hD hl
  exact W.widen h1 h2 (n p e s m args below meth c H locs LS hx hb hr hml hown hts hlk hnm hE hK hA hS hP hD hl)
theorem n_iconst {q : Int} {v : Int32} (hd : decode k.2.1 pc = .ok (.iconst q, 1)) (hv : Int32.ofInt q = v) (n : VN l D ca A E k R n1 n2 Z (pc + 1) ls (.int v :: st) (w)) : VN l D ca A E k R n1 n2 Z (pc) ls (st) (w) := by
  intro p e s m args below meth c H locs LS hx hb hr hml hown hts hlk hnm hE hK hA hS hP hD hl
  exact lv_iconst hx hb hd hv (n p e s m args below meth c H locs LS hx hb hr hml hown hts hlk hnm hE hK hA hS hP hD hl)
theorem n_bipush {q : Int} {v : Int32} (hd : decode k.2.1 pc = .ok (.bipush q, 2)) (hv : (Int8.ofInt q).toInt32 = v) (n : VN l D ca A E k R n1 n2 Z (pc + 2) ls (.int v :: st) (w)) : VN l D ca A E k R n1 n2 Z (pc) ls (st) (w) := by
  intro p e s m args below meth c H locs LS hx hb hr hml hown hts hlk hnm hE hK hA hS hP hD hl
  exact lv_bipush hx hb hd hv (n p e s m args below meth c H locs LS hx hb hr hml hown hts hlk hnm hE hK hA hS hP hD hl)
theorem n_sipush {q : Int} {v : Int32} (hd : decode k.2.1 pc = .ok (.sipush q, 3)) (hv : (Int16.ofInt q).toInt32 = v) (n : VN l D ca A E k R n1 n2 Z (pc + 3) ls (.int v :: st) (w)) : VN l D ca A E k R n1 n2 Z (pc) ls (st) (w) := by
  intro p e s m args below meth c H locs LS hx hb hr hml hown hts hlk hnm hE hK hA hS hP hD hl
  exact lv_sipush hx hb hd hv (n p e s m args below meth c H locs LS hx hb hr hml hown hts hlk hnm hE hK hA hS hP hD hl)
theorem n_iload_n {q : Fin 4} {x : Int32} (hd : decode k.2.1 pc = .ok (.iload_n q, 1)) (h : ls[(q : Nat)]? = some (some (.int x))) (n : VN l D ca A E k R n1 n2 Z (pc + 1) ls (.int x :: st) (w)) : VN l D ca A E k R n1 n2 Z (pc) ls (st) (w) := by
  intro p e s m args below meth c H locs LS hx hb hr hml hown hts hlk hnm hE hK hA hS hP hD hl
  exact lv_iload_n hx hb hd rfl (lvH_at hl h) (n p e s m args below meth c H locs LS hx hb hr hml hown hts hlk hnm hE hK hA hS hP hD hl)
theorem n_aload_n {q : Fin 4} {x : Nat} (hd : decode k.2.1 pc = .ok (.aload_n q, 1)) (h : ls[(q : Nat)]? = some (some (.ref x))) (n : VN l D ca A E k R n1 n2 Z (pc + 1) ls (.ref x :: st) (w)) : VN l D ca A E k R n1 n2 Z (pc) ls (st) (w) := by
  intro p e s m args below meth c H locs LS hx hb hr hml hown hts hlk hnm hE hK hA hS hP hD hl
  exact lv_aload_n hx hb hd rfl (lvH_at hl h) (n p e s m args below meth c H locs LS hx hb hr hml hown hts hlk hnm hE hK hA hS hP hD hl)
theorem n_dup {va : Value} (hd : decode k.2.1 pc = .ok (.dup, 1)) (hva : va.category = 1) (n : VN l D ca A E k R n1 n2 Z (pc + 1) ls (va :: va :: st) (w)) : VN l D ca A E k R n1 n2 Z (pc) ls (va :: st) (w) := by
  intro p e s m args below meth c H locs LS hx hb hr hml hown hts hlk hnm hE hK hA hS hP hD hl
  exact lv_dup hx hb hd hva (n p e s m args below meth c H locs LS hx hb hr hml hown hts hlk hnm hE hK hA hS hP hD hl)
theorem n_istore_n {q : Fin 4} {x : Int32} {ls1 : List (Option Value)} (hd : decode k.2.1 pc = .ok (.istore_n q, 1)) (hn : (q : Nat) < k.2.2.1) (hls : st1 ls q (.int x) = ls1) (n : VN l D ca A E k R n1 n2 Z (pc + 1) ls1 (st) (w)) : VN l D ca A E k R n1 n2 Z (pc) ls (.int x :: st) (w) := by
  intro p e s m args below meth c H locs LS hx hb hr hml hown hts hlk hnm hE hK hA hS hP hD hl
  subst hls
  exact lv_istore_n hx hb hd rfl hl hn rfl (fun LS1 h => n p e s m args below meth c H locs LS1 hx hb hr hml hown hts hlk hnm hE hK hA hS hP hD (lvH_st1 h))
theorem n_astore_n {q : Fin 4} {x : Nat} {ls1 : List (Option Value)} (hd : decode k.2.1 pc = .ok (.astore_n q, 1)) (hn : (q : Nat) < k.2.2.1) (hls : st1 ls q (.ref x) = ls1) (n : VN l D ca A E k R n1 n2 Z (pc + 1) ls1 (st) (w)) : VN l D ca A E k R n1 n2 Z (pc) ls (.ref x :: st) (w) := by
  intro p e s m args below meth c H locs LS hx hb hr hml hown hts hlk hnm hE hK hA hS hP hD hl
  subst hls
  exact lv_astore_n hx hb hd rfl hl hn rfl (fun LS1 h => n p e s m args below meth c H locs LS1 hx hb hr hml hown hts hlk hnm hE hK hA hS hP hD (lvH_st1 h))
theorem n_iinc {i : Nat} {q : Int} {x v u : Int32} {ls1 : List (Option Value)} (hd : decode k.2.1 pc = .ok (.iinc i q, 3)) (h : ls[i]? = some (some (.int x))) (hv : Int32.ofInt q = v) (hn : i < k.2.2.1) (hu : x + v = u) (hls : st1 ls i (.int u) = ls1) (n : VN l D ca A E k R n1 n2 Z (pc + 3) ls1 (st) (w)) : VN l D ca A E k R n1 n2 Z (pc) ls (st) (w) := by
  intro p e s m args below meth c H locs LS hx hb hr hml hown hts hlk hnm hE hK hA hS hP hD hl
  subst hls; subst hv
  obtain ⟨kk, hk⟩ := List.getElem?_of_mem (asl_mem.mpr ⟨_, Nat.zero_le _, h, rfl⟩ : (i, trv (gN l D ca) (.int x)) ∈ asl (gN l D ca) 0 ls)
  exact lv_iinc hx hb hd hl hk hu hn rfl (fun LS1 h => n p e s m args below meth c H locs LS1 hx hb hr hml hown hts hlk hnm hE hK hA hS hP hD (lvH_st1 h))
theorem n_ge {x y : Int32} {off : Int} {tgt : Nat} (hd : decode k.2.1 pc = .ok (.if_icmp .ge off, 3)) (ht : (pc : Int) + off = (tgt : Int)) (h : y ≤ x) (n : VN l D ca A E k R n1 n2 Z (tgt) ls (st) (w)) : VN l D ca A E k R n1 n2 Z (pc) ls (.int y :: .int x :: st) (w) := by
  intro p e s m args below meth c H locs LS hx hb hr hml hown hts hlk hnm hE hK hA hS hP hD hl
  exact lv_icmp_ge hx hb hd ht (fun _ => n p e s m args below meth c H locs LS hx hb hr hml hown hts hlk hnm hE hK hA hS hP hD hl) (fun q => absurd h q)
theorem n_lt {x y : Int32} {off : Int} {tgt : Nat} (hd : decode k.2.1 pc = .ok (.if_icmp .ge off, 3)) (ht : (pc : Int) + off = (tgt : Int)) (h : ¬ y ≤ x) (n : VN l D ca A E k R n1 n2 Z (pc + 3) ls (st) (w)) : VN l D ca A E k R n1 n2 Z (pc) ls (.int y :: .int x :: st) (w) := by
  intro p e s m args below meth c H locs LS hx hb hr hml hown hts hlk hnm hE hK hA hS hP hD hl
  exact lv_icmp_ge hx hb hd ht (fun q => absurd q h) (fun _ => n p e s m args below meth c H locs LS hx hb hr hml hown hts hlk hnm hE hK hA hS hP hD hl)
theorem n_goto {off : Int} {tgt : Nat} (hd : decode k.2.1 pc = .ok (.goto off, 3)) (ht : (pc : Int) + off = (tgt : Int)) (n : VN l D ca A E k R n1 n2 Z (tgt) ls (st) (w)) : VN l D ca A E k R n1 n2 Z (pc) ls (st) (w) := by
  intro p e s m args below meth c H locs LS hx hb hr hml hown hts hlk hnm hE hK hA hS hP hD hl
  exact lv_goto hx hb hd ht (n p e s m args below meth c H locs LS hx hb hr hml hown hts hlk hnm hE hK hA hS hP hD hl)
theorem n_vret {post : va_W → Prop} {mc ms : Nat} (hr0 : k.2.2.2 = none) (hd : decode k.2.1 pc = .ok (.return_, 1)) (hp : post w) : VN l D ca A E k R mc ms (zN D A post mc ms) pc ls [] w := by
  intro p e s m args below meth c H locs LS hx hb hr hml hown hts hlk hnm hE hK hA hS hP hD hl
  exact W.vret hx hb (hr.trans hr0) (fun t ht hW => ⟨rfl, ⟨w, hp, by rw [ht]; exact hP, hD⟩, hS.F ht⟩) hS.2.2 hd
theorem n_obj {x idx : Nat} (hd : decode k.2.1 pc = .ok (.invokespecial idx, 3)) (hw : Cond.methodLink k.1.cls idx objectInit ∈ Tw) (hw2 : Cond.instanceMethod objectInit ∈ Tw) (hw3 : Cond.code objectInit ⟨#[0xb1]⟩ 1 none ∈ Tw) (hfr : 1 ≤ R.frames) (hlo : (st.map fun v => v.category).sum + 12 ≤ R.locals) (n : VN l D ca A E k R n1 n2 Z (pc + 3) ls st w) : VN l D ca A E k R n1 n2 Z pc ls (.ref x :: st) w := by
  intro p e s m args below meth c H locs LS hx hb hr hml hown hts hlk hnm hE hK hA hS hP hD hl
  refine W.objInit hx hb hown (hts _ hw) (hts _ hw2) (hts _ hw3) rfl (by rw [hml]; exact hl.1) rfl hd hfr (by show 2 * 0 + _ + 12 ≤ _; omega) ?_
  exact W.eq (g2 := F0 m (pc + 3) LS st) rfl (n p e s m args below meth c H locs LS hx hb hr hml hown hts hlk hnm hE hK hA hS hP hD hl)
def CL (own : String) (idx ci : Nat) : Prop := ∃ q : vw_C, vwCl[ci]? = some q ∧ Cond.classLink own idx q.1 ∈ Tw ∧ Cond.instantiable q.1 q.2.2 ∈ Tw ∧ Cond.initialized q.1 ∈ Tw
def dfl (ci : Nat) : List Value := match vwCl[ci]? with
  | some q => (List.range q.2.2).map (fun j => defaultValue (tyO q.2.1 j))
  | none => []
theorem n_new {idx ci N : Nat} {fs : List Value} (hd : decode k.2.1 pc = .ok (.new idx, 3)) (hc : CL k.1.cls idx ci) (hN : (vwCl.getD ci ("", fun _ => ("", "", "", false), 0)).2.2 = N) (hf : dfl ci = fs) (h1 : n1 + 1 ≤ R.cells) (h2 : n2 + N ≤ R.slots) (n : ∀ q, VN l D ca A E k R (n1 + 1) (n2 + N) Z (pc + 3) ls (.ref q :: st) (w ++ [(q, .inr (ci, fs))])) : VN l D ca A E k R n1 n2 Z pc ls st w := by
  intro p e s m args below meth c H locs LS hx hb hr hml hown hts hlk hnm hE hK hA hS hP hD hl
  obtain ⟨q, q1, q2, q3, q4⟩ := hc
  have e1 : (vwCl.getD ci ("", fun _ => ("", "", "", false), 0)) = q := by rw [List.getD_eq_getElem?_getD, q1]; rfl
  rw [e1] at hN
  subst hN
  refine va_new (D := D) (ci := ci) (fs := fs) (C := q.1) (T := q.2.1) (N := q.2.2) hx hb hts (cls_in ci q q1) (tyO q.2.1) (cls_ty ci q q1) hown (hts _ q2) (hts _ q3) (hts _ q4) hK.1 hP hD hS hA q1 (fun j hj => ?_) h1 h2 hd (fun q0 H1 hP hD hS => n q0 p e s m args below meth c H1 locs LS hx hb hr hml hown hts hlk hnm hE hK hA hS hP hD hl)
  rw [← hf, dfl, q1]
  simp [vp_V, hj]
theorem n_newI {i : Int32} {N : Nat} (hd : decode k.2.1 pc = .ok (.newarray .int, 2)) (hw : Cond.arrayClass .int ∈ Tw) (hi : ¬ i < 0) (hN : i.toNatClampNeg = N) (hby : N * 4 ≤ 536870912) (h1 : n1 + 1 ≤ R.cells) (h2 : n2 + N ≤ R.slots) (n : ∀ q, VN l D ca A E k R (n1 + 1) (n2 + N) Z (pc + 2) ls (.ref q :: st) (w ++ [(q, .inl (ca 0, N, .inl (fun _ => 0)))])) : VN l D ca A E k R n1 n2 Z pc ls (.int i :: st) w := by
  intro p e s m args below meth c H locs LS hx hb hr hml hown hts hlk hnm hE hK hA hS hP hD hl
  refine va_newa (atype := .int) (ty := .int) (a0 := (N, .inl (fun _ => 0))) hx hb (hts _ hw) rfl hK.1 hP hD hS hA (fun cA => rfl) hi hN hby h1 h2 hd (fun q cA H1 hK2 hP hD hS => ?_)
  have e1 : cA = ca 0 := by
    have a1 := (hK2.2 4 (cA, .int) rfl).2
    have a2 := (hK.1.2 0 (ca 0, .int) rfl).2
    exact Option.some.inj (a1.symm.trans a2)
  subst e1
  exact n q p e s m args below meth c H1 locs LS hx hb hr hml hown hts hlk hnm hE hK hA hS hP hD hl
theorem n_newJ {i : Int32} {N : Nat} (hd : decode k.2.1 pc = .ok (.newarray .long, 2)) (hw : Cond.arrayClass .long ∈ Tw) (hi : ¬ i < 0) (hN : i.toNatClampNeg = N) (hby : N * 8 ≤ 536870912) (h1 : n1 + 1 ≤ R.cells) (h2 : n2 + N ≤ R.slots) (n : ∀ q, VN l D ca A E k R (n1 + 1) (n2 + N) Z (pc + 2) ls (.ref q :: st) (w ++ [(q, .inl (ca 1, N, .inr (.inl (fun _ => 0))))])) : VN l D ca A E k R n1 n2 Z pc ls (.int i :: st) w := by
  intro p e s m args below meth c H locs LS hx hb hr hml hown hts hlk hnm hE hK hA hS hP hD hl
  refine va_newa (atype := .long) (ty := .long) (a0 := (N, .inr (.inl (fun _ => 0)))) hx hb (hts _ hw) rfl hK.1 hP hD hS hA (fun cA => rfl) hi hN hby h1 h2 hd (fun q cA H1 hK2 hP hD hS => ?_)
  have e1 : cA = ca 1 := by
    have a1 := (hK2.2 4 (cA, .long) rfl).2
    have a2 := (hK.1.2 1 (ca 1, .long) rfl).2
    exact Option.some.inj (a1.symm.trans a2)
  subst e1
  exact n q p e s m args below meth c H1 locs LS hx hb hr hml hown hts hlk hnm hE hK hA hS hP hD hl
theorem ra_eq {U : State} {a b : ClassId} {C : String} (h1 : va_RA U a (.object C)) (h2 : va_RA U b (.object C)) : a = b := by
  obtain ⟨_, _, _, _, _, q1⟩ := h1
  obtain ⟨_, _, _, _, _, q2⟩ := h2
  exact Option.some.inj (q1.symm.trans q2)
theorem n_newQ {C : String} {idx z : Nat} {i : Int32} {N : Nat} (hz : (z = 2 ∧ C = "BentPlain$Walker") ∨ (z = 3 ∧ C = "BentPlain$Sheet")) (hd : decode k.2.1 pc = .ok (.anewarray idx, 3)) (hw : Cond.classLink k.1.cls idx C ∈ Tw) (hi : ¬ i < 0) (hN : i.toNatClampNeg = N) (hby : N * 4 ≤ 536870912) (h1 : n1 + 1 ≤ R.cells) (h2 : n2 + N ≤ R.slots) (n : ∀ q, VN l D ca A E k R (n1 + 1) (n2 + N) Z (pc + 3) ls (.ref q :: st) (w ++ [(q, .inl (ca z, N, .inr (.inr (.inr (.inr (fun _ => none))))))])) : VN l D ca A E k R n1 n2 Z pc ls (.int i :: st) w := by
  intro p e s m args below meth c H locs LS hx hb hr hml hown hts hlk hnm hE hK hA hS hP hD hl
  have hao : va_AO C s := by rcases hz with ⟨-, rfl⟩ | ⟨-, rfl⟩; exact hK.2.2.1; exact hK.2.2.2
  refine va_newq hx hb hown (hts _ hw) hao hK.1 hP hD hS hA hi hN hby h1 h2 hd (fun q cA H1 hK2 hP hD hS => ?_)
  have e1 : cA = ca z := by
    have a1 := (hK2.2 4 (cA, .object C) rfl).2
    rcases hz with ⟨rfl, rfl⟩ | ⟨rfl, rfl⟩
    · exact ra_eq a1 (hK.1.2 2 (ca 2, _) rfl).2
    · exact ra_eq a1 (hK.1.2 3 (ca 3, _) rfl).2
  subst e1
  exact n q p e s m args below meth c H1 locs LS hx hb hr hml hown hts hlk hnm hE hK hA hS hP hD hl
/-- a final field of a reference -/
def FF (own : String) (idx ci f : Nat) (ty : FieldType) : Prop := ∃ q : vw_C, vwCl[ci]? = some q ∧ f < q.2.2 ∧ Cond.fieldLink own idx q.1 (q.2.1 f).2.1 (q.2.1 f).2.2.1 ∈ Tw ∧ (q.2.1 f).1 = q.1 ∧ (q.2.1 f).2.2.2 = true ∧ q.1 = own ∧ parseFieldDescriptor (q.2.1 f).2.2.1 = some ty ∧ ∀ a : Nat, narrow ty (.ref a) = .ref a ∧ fits ty (.ref a) = true
theorem n_putF {idx ci f a v q0 : Nat} {ty : FieldType} {fs : List Value} {w1 : va_W} (hd : decode k.2.1 pc = .ok (.putfield idx, 3)) (hf : FF k.1.cls idx ci f ty) (hin : k.1.name = "<init>") (he : w[q0]? = some (a, .inr (ci, fs))) (hlen : f < fs.length) (hw1 : w.set q0 (a, .inr (ci, fs.set f (.ref v))) = w1) (n : VN l D ca A E k R n1 n2 Z (pc + 3) ls st w1) : VN l D ca A E k R n1 n2 Z pc ls (.ref v :: .ref a :: st) w := by
  intro p e s m args below meth c H locs LS hx hb hr hml hown hts hlk hnm hE hK hA hS hP hD hl
  subst hw1
  obtain ⟨q, q1, q2, q3, q4, q5, q6, q7, q8⟩ := hf
  exact va_putF (D := D) (C := q.1) (T := q.2.1) (N := q.2.2) (ref := q.1) hx hb hts (cls_in ci q q1) (tyO q.2.1) (cls_ty ci q q1) (cls_nm ci q q1) hown hK.1 hP hD hS q0 he q1 f q2 (hts _ q3) (by rw [q4]; exact fun x hx => hx) q5 (hnm hin) (by rw [q4, q6]) q7 (q8 v).1 (q8 v).2 hlen hd (fun H1 locs1 hP hD hS => n p e s m args below meth c H1 locs1 LS hx hb hr hml hown hts hlk hnm hE hK hA hS hP hD hl)
theorem n_getR {idx ci f a v q0 : Nat} {fs : List Value} (hd : decode k.2.1 pc = .ok (.getfield idx, 3)) (hf : FL k.1.cls idx ci f) (he : w[q0]? = some (a, .inr (ci, fs))) (hv : fs[f]? = some (.ref v)) (n : VN l D ca A E k R n1 n2 Z (pc + 3) ls (.ref v :: st) w) : VN l D ca A E k R n1 n2 Z pc ls (.ref a :: st) w := by
  intro p e s m args below meth c H locs LS hx hb hr hml hown hts hlk hnm hE hK hA hS hP hD hl
  obtain ⟨q, q1, q2, q3, q4⟩ := hf
  exact va_get (D := D) (C := q.1) (T := q.2.1) (N := q.2.2) (ref := q.1) hx hb hts (cls_in ci q q1) hown hK.1 hP q0 he q1 f q2 (hts _ q3) (by rw [q4]; exact fun x hx => hx) hv hd (n p e s m args below meth c H locs LS hx hb hr hml hown hts hlk hnm hE hK hA hS hP hD hl)
theorem n_aast {z ci a v q0 qk N : Nat} {r : vw_C} {vs : List Value} {f f1 : Nat → Option Nat} {i : Int32} {w1 : va_W} (hz : z = 2 ∨ z = 3) (hd : decode k.2.1 pc = .ok (.aastore, 1)) (ha : w[q0]? = some (a, .inl (ca z, N, .inr (.inr (.inr (.inr f)))))) (ht : (tysOf (gN l D ca))[z]? = some (ca z, .object r.1)) (hv : w[qk]? = some (v, .inr (ci, vs))) (hc : vwCl[ci]? = some r) (hi : vp_in i N) (hf : va_up f i.toNatClampNeg (some v) = f1) (hw1 : w.set q0 (a, .inl (ca z, N, .inr (.inr (.inr (.inr f1))))) = w1) (n : VN l D ca A E k R n1 n2 Z (pc + 1) ls st w1) : VN l D ca A E k R n1 n2 Z pc ls (.ref v :: .int i :: .ref a :: st) w := by
  intro p e s m args below meth c H locs LS hx hb hr hml hown hts hlk hnm hE hK hA hS hP hD hl
  subst hf; subst hw1
  exact va_astq hx hb hK.1 hP hD hS q0 z qk ci ha ht hv hc hi hd (fun H1 locs1 hP hD hS => n p e s m args below meth c H1 locs1 LS hx hb hr hml hown hts hlk hnm hE hK hA hS hP hD hl)
theorem runN_go {p : Program} {e : Env} {s : State} {m : MethodId} {args a : Array Value} {below : List Frame} {meth : Method} {c : Code} {H : Heap} {locs : List Loc} {cells slots mc ms : Nat} {Q : State → Prop} {LS : Array Slot} {st0 rest : List Value} {post : va_W → Prop}
    (hr : va_Run p l e R s m args below meth c H locs cells slots mc ms (F0 m pc LS st0) rest (Qn D A post a) A) (hS : va_S A s.heap H locs)
    (kk : ∀ (H1 : Heap) (locs1 : List Loc) (w : va_W), post w → va_P D vwCl w H1 → va_D A w → va_S A s.heap H1 locs1 → W p l e R s m args below meth c H1 locs1 (cells + mc) (slots + ms) Q (F0 m (pc + 3) LS rest)) : W p l e R s m args below meth c H locs cells slots Q (F0 m pc LS st0) := by
  intro T hT X
  obtain ⟨v, st₀, t, T', L, h0, X', hL, e1, e2, ⟨hv, ⟨w, hp, hw, hwd⟩, hz, hk⟩, st⟩ := hr T hT X
  cases hv
  rw [h0] at hz hk
  obtain ⟨t2, a1, b1⟩ := kk T'.heap (locs ++ L) w hp (by rw [e1]; exact hw) hwd
    ⟨Nat.le_trans hS.1 (by rw [e1]; exact hz), fun q h1 h2 => by rw [e1, hk q (Nat.lt_of_lt_of_le h1 hS.1) h2]; exact hS.2.1 q h1 h2, fun q hq => by
      rcases List.mem_append.mp hq with h | h
      · exact hS.2.2 q h
      · exact hL q h⟩ T' rfl X'
  exact ⟨t2, st t2 a1, b1⟩
def MLi (own : String) (idx : Nat) (y : Mth) (n : Nat) : Prop := ML own idx y n ∧ Cond.instanceMethod y.1 ∈ Tw ∧ y.1.name = "<init>" ∧ y.2.2.2 = none
def MLin (own : String) (idx : Nat) (y : Mth) (n : Nat) : Prop := (∃ host, (own, idx, y.1, host) ∈ nestL) ∧ Cond.initialized y.1.cls ∈ Tw ∧ Cond.code y.1 y.2.1 y.2.2.1 y.2.2.2 ∈ Tw ∧ (y.1.cls ≠ "java/lang/invoke/MethodHandle" ∧ y.1.cls ≠ "java/lang/invoke/VarHandle" ∧ (parseMethodDescriptor y.1.desc).map (fun d => d.parameters.length) = some n) ∧ Cond.instanceMethod y.1 ∈ Tw ∧ y.1.name = "<init>" ∧ y.2.2.2 = none
def CRi (R : Room) (y : Mth) (d n1 n2 mc ms : Nat) : Prop := (d + 1 ≤ R.frames ∧ 8 + (y.2.2.1 + 11) + 64 * d ≤ R.locals) ∧ n1 + mc ≤ R.cells ∧ n2 + ms ≤ R.slots
theorem blindN {as : List Value} {w : va_W} : FrameBlind (va_Pc as (fun U => va_P D vwCl w U.heap ∧ va_D A w ∧ KN l D ca U ∧ ∀ q, U.heap.size ≤ q → A q)) := fun a U f mk h => ⟨h.1, h.2.1, h.2.2.1, KN_same h.2.2.2.1 rfl, h.2.2.2.2⟩
theorem n_callI {idx d mc ms b nn : Nat} {y : Mth} {as stk : List Value} {post : va_W → Prop} (hM : SpN l D ca A y d mc ms (.ref b :: as) w post) (hd : decode k.2.1 pc = .ok (.invokespecial idx, 3)) (hl0 : MLi k.1.cls idx y nn) (hR : CRi R y d n1 n2 mc ms) (hst : as.reverse ++ .ref b :: st = stk) (hn : as.length = nn) (hw : (st.map fun v => v.category).sum ≤ 8) (nx : ∀ w1, post w1 → VN l D ca A E k R (n1 + mc) (n2 + ms) Z (pc + 3) ls st w1) : VN l D ca A E k R n1 n2 Z pc ls stk w := by
  intro p e s m args below meth c H locs LS hx hb hr hml hown hts hlk hnm hE hK hA hS hP hD hl
  subst hst
  obtain ⟨⟨l1, l2, l3, l4⟩, l5, l6, l7⟩ := hl0
  have hcode : Cond.code y.1 y.2.1 y.2.2.1 none :: Tw = mW y := by unfold mW; rw [l7]
  refine runN_go (va_runI (bytes := y.2.1) (maxL := y.2.2.1) (As := as) (rest := st) ⟨hx, hb, hml, hown, hts⟩ hM ⟨callB_of (ws' := Tw) nn hts (goodTw l3) hcode.symm rfl rfl (hts _ l2) (hts _ l1) l4 hR.1, l6, hts _ l5⟩ ⟨blindN, fun U hU hW => ⟨rfl, by rw [hU]; exact hP, hD, KN_moved hK hW, fun q hq => hA q (Nat.le_trans hS.1 (by rw [← hU]; exact hq))⟩⟩ rfl hn hl.1 rfl (lv_room hw) hd hR.2) hS (fun H1 locs1 w1 hp hP hD hS => nx w1 hp p e s m args below meth c H1 locs1 LS hx hb hr hml hown hts hlk hnm hE hK hA hS hP hD hl)
theorem n_callIN {idx d mc ms b nn : Nat} {y : Mth} {as stk : List Value} {post : va_W → Prop} (hM : SpN l D ca A y d mc ms (.ref b :: as) w post) (hd : decode k.2.1 pc = .ok (.invokespecial idx, 3)) (hl0 : MLin k.1.cls idx y nn) (hR : CRi R y d n1 n2 mc ms) (hst : as.reverse ++ .ref b :: st = stk) (hn : as.length = nn) (hw : (st.map fun v => v.category).sum ≤ 8) (nx : ∀ w1, post w1 → VN l D ca A E k R (n1 + mc) (n2 + ms) Z (pc + 3) ls st w1) : VN l D ca A E k R n1 n2 Z pc ls stk w := by
  intro p e s m args below meth c H locs LS hx hb hr hml hown hts hlk hnm hE hK hA hS hP hD hl
  subst hst
  obtain ⟨⟨host, l1⟩, l2, l3, l4, l5, l6, l7⟩ := hl0
  have hcode : Cond.code y.1 y.2.1 y.2.2.1 none :: Tw = mW y := by unfold mW; rw [l7]
  refine runN_go (va_runIN (bytes := y.2.1) (maxL := y.2.2.1) (As := as) (rest := st) ⟨hx, hb, hml, hown, hts⟩ hM ⟨va_cnB (ws' := Tw) nn hts (goodTw l3) hcode.symm rfl rfl (hK.2.1 _ l1) (hts _ l2) l4 hR.1, l6, hts _ l5⟩ ⟨blindN, fun U hU hW => ⟨rfl, by rw [hU]; exact hP, hD, KN_moved hK hW, fun q hq => hA q (Nat.le_trans hS.1 (by rw [← hU]; exact hq))⟩⟩ rfl hn hl.1 rfl (lv_room hw) hd hR.2) hS (fun H1 locs1 w1 hp hP hD hS => nx w1 hp p e s m args below meth c H1 locs1 LS hx hb hr hml hown hts hlk hnm hE hK hA hS hP hD hl)
end
