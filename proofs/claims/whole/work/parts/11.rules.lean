theorem v_iconst {g : Wo} {k : Mth} {j : Jd} {pc : Nat} {ls : List (Option Value)} {st : List Value} {M : Mem} {q : Int} {v : Int32} (hd : decode k.2.1 pc = .ok (.iconst q, 1)) (hv : Int32.ofInt q = v) (n : V g k j (pc + 1) ls (.int v :: st) M) : V g k j pc ls (st) M := by
  intro p e s m args below meth c H locs LS C h2 h3 h4 h5
  exact lv_iconst C.1 C.2.1 hd hv (n p e s m args below meth c H locs LS C h2 h3 h4 h5)
theorem v_bipush {g : Wo} {k : Mth} {j : Jd} {pc : Nat} {ls : List (Option Value)} {st : List Value} {M : Mem} {q : Int} {v : Int32} (hd : decode k.2.1 pc = .ok (.bipush q, 2)) (hv : (Int8.ofInt q).toInt32 = v) (n : V g k j (pc + 2) ls (.int v :: st) M) : V g k j pc ls (st) M := by
  intro p e s m args below meth c H locs LS C h2 h3 h4 h5
  exact lv_bipush C.1 C.2.1 hd hv (n p e s m args below meth c H locs LS C h2 h3 h4 h5)
theorem v_sipush {g : Wo} {k : Mth} {j : Jd} {pc : Nat} {ls : List (Option Value)} {st : List Value} {M : Mem} {q : Int} {v : Int32} (hd : decode k.2.1 pc = .ok (.sipush q, 3)) (hv : (Int16.ofInt q).toInt32 = v) (n : V g k j (pc + 3) ls (.int v :: st) M) : V g k j pc ls (st) M := by
  intro p e s m args below meth c H locs LS C h2 h3 h4 h5
  exact lv_sipush C.1 C.2.1 hd hv (n p e s m args below meth c H locs LS C h2 h3 h4 h5)
theorem v_lconst {g : Wo} {k : Mth} {j : Jd} {pc : Nat} {ls : List (Option Value)} {st : List Value} {M : Mem} {q : Fin 2} {v : Int64} (hd : decode k.2.1 pc = .ok (.lconst q, 1)) (hv : Int64.ofNat (q : Nat) = v) (n : V g k j (pc + 1) ls (.long v :: st) M) : V g k j pc ls (st) M := by
  intro p e s m args below meth c H locs LS C h2 h3 h4 h5
  exact lv_lconst C.1 C.2.1 hd hv (n p e s m args below meth c H locs LS C h2 h3 h4 h5)
theorem v_iload_n {g : Wo} {k : Mth} {j : Jd} {pc : Nat} {ls : List (Option Value)} {st : List Value} {M : Mem} {q : Fin 4} {x : Int32} (hd : decode k.2.1 pc = .ok (.iload_n q, 1)) (hl : ls[(q : Nat)]? = some (some (.int x))) (n : V g k j (pc + 1) ls (.int x :: st) M) : V g k j pc ls (st) M := by
  intro p e s m args below meth c H locs LS C h2 h3 h4 h5
  exact lv_iload_n C.1 C.2.1 hd rfl (lvH_at h5 hl) (n p e s m args below meth c H locs LS C h2 h3 h4 h5)
theorem v_iload {g : Wo} {k : Mth} {j : Jd} {pc : Nat} {ls : List (Option Value)} {st : List Value} {M : Mem} {i : Nat} {x : Int32} (hd : decode k.2.1 pc = .ok (.iload i, 2)) (hl : ls[i]? = some (some (.int x))) (n : V g k j (pc + 2) ls (.int x :: st) M) : V g k j pc ls (st) M := by
  intro p e s m args below meth c H locs LS C h2 h3 h4 h5
  exact lv_iload C.1 C.2.1 hd (lvH_at h5 hl) (n p e s m args below meth c H locs LS C h2 h3 h4 h5)
theorem v_lload_n {g : Wo} {k : Mth} {j : Jd} {pc : Nat} {ls : List (Option Value)} {st : List Value} {M : Mem} {q : Fin 4} {x : Int64} (hd : decode k.2.1 pc = .ok (.lload_n q, 1)) (hl : ls[(q : Nat)]? = some (some (.long x))) (n : V g k j (pc + 1) ls (.long x :: st) M) : V g k j pc ls (st) M := by
  intro p e s m args below meth c H locs LS C h2 h3 h4 h5
  exact lv_lload_n C.1 C.2.1 hd rfl (lvH_at h5 hl) (n p e s m args below meth c H locs LS C h2 h3 h4 h5)
theorem v_lload {g : Wo} {k : Mth} {j : Jd} {pc : Nat} {ls : List (Option Value)} {st : List Value} {M : Mem} {i : Nat} {x : Int64} (hd : decode k.2.1 pc = .ok (.lload i, 2)) (hl : ls[i]? = some (some (.long x))) (n : V g k j (pc + 2) ls (.long x :: st) M) : V g k j pc ls (st) M := by
  intro p e s m args below meth c H locs LS C h2 h3 h4 h5
  exact lv_lload C.1 C.2.1 hd (lvH_at h5 hl) (n p e s m args below meth c H locs LS C h2 h3 h4 h5)
theorem v_aload_n {g : Wo} {k : Mth} {j : Jd} {pc : Nat} {ls : List (Option Value)} {st : List Value} {M : Mem} {q : Fin 4} {x : Nat} (hd : decode k.2.1 pc = .ok (.aload_n q, 1)) (hl : ls[(q : Nat)]? = some (some (.ref x))) (n : V g k j (pc + 1) ls (.ref x :: st) M) : V g k j pc ls (st) M := by
  intro p e s m args below meth c H locs LS C h2 h3 h4 h5
  exact lv_aload_n C.1 C.2.1 hd rfl (lvH_at h5 hl) (n p e s m args below meth c H locs LS C h2 h3 h4 h5)
theorem v_aload {g : Wo} {k : Mth} {j : Jd} {pc : Nat} {ls : List (Option Value)} {st : List Value} {M : Mem} {i : Nat} {x : Nat} (hd : decode k.2.1 pc = .ok (.aload i, 2)) (hl : ls[i]? = some (some (.ref x))) (n : V g k j (pc + 2) ls (.ref x :: st) M) : V g k j pc ls (st) M := by
  intro p e s m args below meth c H locs LS C h2 h3 h4 h5
  exact lv_aload C.1 C.2.1 hd (lvH_at h5 hl) (n p e s m args below meth c H locs LS C h2 h3 h4 h5)
theorem v_istore_n {g : Wo} {k : Mth} {j : Jd} {pc : Nat} {ls : List (Option Value)} {st : List Value} {M : Mem} {q : Fin 4} {x : Int32} {ls1 : List (Option Value)} (hd : decode k.2.1 pc = .ok (.istore_n q, 1)) (hn : (q : Nat) < k.2.2.1) (hls : st1 ls q (.int x) = ls1) (n : V g k j (pc + 1) ls1 st M) : V g k j pc ls (.int x :: st) M := by
  intro p e s m args below meth c H locs LS C h2 h3 h4 h5
  subst hls
  exact lv_istore_n C.1 C.2.1 hd rfl h5 hn rfl (fun LS1 h => n p e s m args below meth c H locs LS1 C h2 h3 h4 (lvH_st1 h))
theorem v_istore {g : Wo} {k : Mth} {j : Jd} {pc : Nat} {ls : List (Option Value)} {st : List Value} {M : Mem} {i : Nat} {x : Int32} {ls1 : List (Option Value)} (hd : decode k.2.1 pc = .ok (.istore i, 2)) (hn : i < k.2.2.1) (hls : st1 ls i (.int x) = ls1) (n : V g k j (pc + 2) ls1 st M) : V g k j pc ls (.int x :: st) M := by
  intro p e s m args below meth c H locs LS C h2 h3 h4 h5
  subst hls
  exact lv_istore C.1 C.2.1 hd h5 hn rfl (fun LS1 h => n p e s m args below meth c H locs LS1 C h2 h3 h4 (lvH_st1 h))
theorem v_lstore_n {g : Wo} {k : Mth} {j : Jd} {pc : Nat} {ls : List (Option Value)} {st : List Value} {M : Mem} {q : Fin 4} {x : Int64} {ls1 : List (Option Value)} (hd : decode k.2.1 pc = .ok (.lstore_n q, 1)) (hn : (q : Nat) + 1 < k.2.2.1) (hls : st2 ls q (.long x) = ls1) (n : V g k j (pc + 1) ls1 st M) : V g k j pc ls (.long x :: st) M := by
  intro p e s m args below meth c H locs LS C h2 h3 h4 h5
  subst hls
  exact lv_lstore_n C.1 C.2.1 hd rfl h5 hn rfl (fun LS1 h => n p e s m args below meth c H locs LS1 C h2 h3 h4 (lvH_st2 h))
theorem v_lstore {g : Wo} {k : Mth} {j : Jd} {pc : Nat} {ls : List (Option Value)} {st : List Value} {M : Mem} {i : Nat} {x : Int64} {ls1 : List (Option Value)} (hd : decode k.2.1 pc = .ok (.lstore i, 2)) (hn : i + 1 < k.2.2.1) (hls : st2 ls i (.long x) = ls1) (n : V g k j (pc + 2) ls1 st M) : V g k j pc ls (.long x :: st) M := by
  intro p e s m args below meth c H locs LS C h2 h3 h4 h5
  subst hls
  exact lv_lstore C.1 C.2.1 hd h5 hn rfl (fun LS1 h => n p e s m args below meth c H locs LS1 C h2 h3 h4 (lvH_st2 h))
theorem v_astore_n {g : Wo} {k : Mth} {j : Jd} {pc : Nat} {ls : List (Option Value)} {st : List Value} {M : Mem} {q : Fin 4} {x : Nat} {ls1 : List (Option Value)} (hd : decode k.2.1 pc = .ok (.astore_n q, 1)) (hn : (q : Nat) < k.2.2.1) (hls : st1 ls q (.ref x) = ls1) (n : V g k j (pc + 1) ls1 st M) : V g k j pc ls (.ref x :: st) M := by
  intro p e s m args below meth c H locs LS C h2 h3 h4 h5
  subst hls
  exact lv_astore_n C.1 C.2.1 hd rfl h5 hn rfl (fun LS1 h => n p e s m args below meth c H locs LS1 C h2 h3 h4 (lvH_st1 h))
theorem v_astore {g : Wo} {k : Mth} {j : Jd} {pc : Nat} {ls : List (Option Value)} {st : List Value} {M : Mem} {i : Nat} {x : Nat} {ls1 : List (Option Value)} (hd : decode k.2.1 pc = .ok (.astore i, 2)) (hn : i < k.2.2.1) (hls : st1 ls i (.ref x) = ls1) (n : V g k j (pc + 2) ls1 st M) : V g k j pc ls (.ref x :: st) M := by
  intro p e s m args below meth c H locs LS C h2 h3 h4 h5
  subst hls
  exact lv_astore C.1 C.2.1 hd h5 hn rfl (fun LS1 h => n p e s m args below meth c H locs LS1 C h2 h3 h4 (lvH_st1 h))
theorem v_iinc {g : Wo} {k : Mth} {j : Jd} {pc : Nat} {ls : List (Option Value)} {st : List Value} {M : Mem} {i : Nat} {q : Int} {x v : Int32} {ls1 : List (Option Value)} (hd : decode k.2.1 pc = .ok (.iinc i q, 3)) (hl : ls[i]? = some (some (.int x))) (hv : Int32.ofInt q = v) (hn : i < k.2.2.1) (hls : st1 ls i (.int (x + v)) = ls1) (n : V g k j (pc + 3) ls1 st M) : V g k j pc ls st M := by
  intro p e s m args below meth c H locs LS C h2 h3 h4 h5
  subst hls; subst hv
  obtain ⟨kk, hk⟩ := List.getElem?_of_mem (asl_mem.mpr ⟨_, Nat.zero_le _, hl, rfl⟩ : (i, trv g (.int x)) ∈ asl g 0 ls)
  exact lv_iinc C.1 C.2.1 hd h5 hk rfl hn rfl (fun LS1 h => n p e s m args below meth c H locs LS1 C h2 h3 h4 (lvH_st1 h))
theorem v_iadd {g : Wo} {k : Mth} {j : Jd} {pc : Nat} {ls : List (Option Value)} {st : List Value} {M : Mem} {x y : Int32} (hd : decode k.2.1 pc = .ok (.iadd, 1)) (n : V g k j (pc + 1) ls (.int (x + y) :: st) M) : V g k j pc ls (.int y :: .int x :: st) M := by
  intro p e s m args below meth c H locs LS C h2 h3 h4 h5
  exact lv_iadd C.1 C.2.1 hd (n p e s m args below meth c H locs LS C h2 h3 h4 h5)
theorem v_isub {g : Wo} {k : Mth} {j : Jd} {pc : Nat} {ls : List (Option Value)} {st : List Value} {M : Mem} {x y : Int32} (hd : decode k.2.1 pc = .ok (.isub, 1)) (n : V g k j (pc + 1) ls (.int (x - y) :: st) M) : V g k j pc ls (.int y :: .int x :: st) M := by
  intro p e s m args below meth c H locs LS C h2 h3 h4 h5
  exact lv_isub C.1 C.2.1 hd (n p e s m args below meth c H locs LS C h2 h3 h4 h5)
theorem v_imul {g : Wo} {k : Mth} {j : Jd} {pc : Nat} {ls : List (Option Value)} {st : List Value} {M : Mem} {x y : Int32} (hd : decode k.2.1 pc = .ok (.imul, 1)) (n : V g k j (pc + 1) ls (.int (x * y) :: st) M) : V g k j pc ls (.int y :: .int x :: st) M := by
  intro p e s m args below meth c H locs LS C h2 h3 h4 h5
  exact lv_imul C.1 C.2.1 hd (n p e s m args below meth c H locs LS C h2 h3 h4 h5)
theorem v_iand {g : Wo} {k : Mth} {j : Jd} {pc : Nat} {ls : List (Option Value)} {st : List Value} {M : Mem} {x y : Int32} (hd : decode k.2.1 pc = .ok (.iand, 1)) (n : V g k j (pc + 1) ls (.int (x &&& y) :: st) M) : V g k j pc ls (.int y :: .int x :: st) M := by
  intro p e s m args below meth c H locs LS C h2 h3 h4 h5
  exact lv_iand C.1 C.2.1 hd (n p e s m args below meth c H locs LS C h2 h3 h4 h5)
theorem v_ior {g : Wo} {k : Mth} {j : Jd} {pc : Nat} {ls : List (Option Value)} {st : List Value} {M : Mem} {x y : Int32} (hd : decode k.2.1 pc = .ok (.ior, 1)) (n : V g k j (pc + 1) ls (.int (x ||| y) :: st) M) : V g k j pc ls (.int y :: .int x :: st) M := by
  intro p e s m args below meth c H locs LS C h2 h3 h4 h5
  exact lv_ior C.1 C.2.1 hd (n p e s m args below meth c H locs LS C h2 h3 h4 h5)
theorem v_ixor {g : Wo} {k : Mth} {j : Jd} {pc : Nat} {ls : List (Option Value)} {st : List Value} {M : Mem} {x y : Int32} (hd : decode k.2.1 pc = .ok (.ixor, 1)) (n : V g k j (pc + 1) ls (.int (x ^^^ y) :: st) M) : V g k j pc ls (.int y :: .int x :: st) M := by
  intro p e s m args below meth c H locs LS C h2 h3 h4 h5
  exact lv_ixor C.1 C.2.1 hd (n p e s m args below meth c H locs LS C h2 h3 h4 h5)
theorem v_ishl {g : Wo} {k : Mth} {j : Jd} {pc : Nat} {ls : List (Option Value)} {st : List Value} {M : Mem} {x y : Int32} (hd : decode k.2.1 pc = .ok (.ishl, 1)) (n : V g k j (pc + 1) ls (.int (x <<< (y &&& 31)) :: st) M) : V g k j pc ls (.int y :: .int x :: st) M := by
  intro p e s m args below meth c H locs LS C h2 h3 h4 h5
  exact lv_ishl C.1 C.2.1 hd (n p e s m args below meth c H locs LS C h2 h3 h4 h5)
theorem v_ishr {g : Wo} {k : Mth} {j : Jd} {pc : Nat} {ls : List (Option Value)} {st : List Value} {M : Mem} {x y : Int32} (hd : decode k.2.1 pc = .ok (.ishr, 1)) (n : V g k j (pc + 1) ls (.int (x >>> (y &&& 31)) :: st) M) : V g k j pc ls (.int y :: .int x :: st) M := by
  intro p e s m args below meth c H locs LS C h2 h3 h4 h5
  exact lv_ishr C.1 C.2.1 hd (n p e s m args below meth c H locs LS C h2 h3 h4 h5)
theorem v_iushr {g : Wo} {k : Mth} {j : Jd} {pc : Nat} {ls : List (Option Value)} {st : List Value} {M : Mem} {x y : Int32} (hd : decode k.2.1 pc = .ok (.iushr, 1)) (n : V g k j (pc + 1) ls (.int ((x.toUInt32 >>> (y.toUInt32 &&& Int32.toUInt32 31)).toInt32) :: st) M) : V g k j pc ls (.int y :: .int x :: st) M := by
  intro p e s m args below meth c H locs LS C h2 h3 h4 h5
  exact lv_iushr C.1 C.2.1 hd rfl (n p e s m args below meth c H locs LS C h2 h3 h4 h5)
theorem v_idiv {g : Wo} {k : Mth} {j : Jd} {pc : Nat} {ls : List (Option Value)} {st : List Value} {M : Mem} {x y : Int32} (hd : decode k.2.1 pc = .ok (.idiv, 1)) (hne : ¬ y = 0) (n : V g k j (pc + 1) ls (.int (x / y) :: st) M) : V g k j pc ls (.int y :: .int x :: st) M := by
  intro p e s m args below meth c H locs LS C h2 h3 h4 h5
  exact lv_idiv C.1 C.2.1 hd hne (n p e s m args below meth c H locs LS C h2 h3 h4 h5)
theorem v_irem {g : Wo} {k : Mth} {j : Jd} {pc : Nat} {ls : List (Option Value)} {st : List Value} {M : Mem} {x y : Int32} (hd : decode k.2.1 pc = .ok (.irem, 1)) (hne : ¬ y = 0) (n : V g k j (pc + 1) ls (.int (x - x / y * y) :: st) M) : V g k j pc ls (.int y :: .int x :: st) M := by
  intro p e s m args below meth c H locs LS C h2 h3 h4 h5
  exact lv_irem C.1 C.2.1 hd hne (n p e s m args below meth c H locs LS C h2 h3 h4 h5)
theorem v_ladd {g : Wo} {k : Mth} {j : Jd} {pc : Nat} {ls : List (Option Value)} {st : List Value} {M : Mem} {x y : Int64} (hd : decode k.2.1 pc = .ok (.ladd, 1)) (n : V g k j (pc + 1) ls (.long (x + y) :: st) M) : V g k j pc ls (.long y :: .long x :: st) M := by
  intro p e s m args below meth c H locs LS C h2 h3 h4 h5
  exact lv_ladd C.1 C.2.1 hd (n p e s m args below meth c H locs LS C h2 h3 h4 h5)
theorem v_lsub {g : Wo} {k : Mth} {j : Jd} {pc : Nat} {ls : List (Option Value)} {st : List Value} {M : Mem} {x y : Int64} (hd : decode k.2.1 pc = .ok (.lsub, 1)) (n : V g k j (pc + 1) ls (.long (x - y) :: st) M) : V g k j pc ls (.long y :: .long x :: st) M := by
  intro p e s m args below meth c H locs LS C h2 h3 h4 h5
  exact lv_lsub C.1 C.2.1 hd (n p e s m args below meth c H locs LS C h2 h3 h4 h5)
theorem v_lmul {g : Wo} {k : Mth} {j : Jd} {pc : Nat} {ls : List (Option Value)} {st : List Value} {M : Mem} {x y : Int64} (hd : decode k.2.1 pc = .ok (.lmul, 1)) (n : V g k j (pc + 1) ls (.long (x * y) :: st) M) : V g k j pc ls (.long y :: .long x :: st) M := by
  intro p e s m args below meth c H locs LS C h2 h3 h4 h5
  exact lv_lmul C.1 C.2.1 hd (n p e s m args below meth c H locs LS C h2 h3 h4 h5)
theorem v_land {g : Wo} {k : Mth} {j : Jd} {pc : Nat} {ls : List (Option Value)} {st : List Value} {M : Mem} {x y : Int64} (hd : decode k.2.1 pc = .ok (.land, 1)) (n : V g k j (pc + 1) ls (.long (x &&& y) :: st) M) : V g k j pc ls (.long y :: .long x :: st) M := by
  intro p e s m args below meth c H locs LS C h2 h3 h4 h5
  exact lv_land C.1 C.2.1 hd (n p e s m args below meth c H locs LS C h2 h3 h4 h5)
theorem v_lor {g : Wo} {k : Mth} {j : Jd} {pc : Nat} {ls : List (Option Value)} {st : List Value} {M : Mem} {x y : Int64} (hd : decode k.2.1 pc = .ok (.lor, 1)) (n : V g k j (pc + 1) ls (.long (x ||| y) :: st) M) : V g k j pc ls (.long y :: .long x :: st) M := by
  intro p e s m args below meth c H locs LS C h2 h3 h4 h5
  exact lv_lor C.1 C.2.1 hd (n p e s m args below meth c H locs LS C h2 h3 h4 h5)
theorem v_lshl {g : Wo} {k : Mth} {j : Jd} {pc : Nat} {ls : List (Option Value)} {st : List Value} {M : Mem} {x : Int64} {y : Int32} (hd : decode k.2.1 pc = .ok (.lshl, 1)) (n : V g k j (pc + 1) ls (.long (x <<< (y.toInt64 &&& 63)) :: st) M) : V g k j pc ls (.int y :: .long x :: st) M := by
  intro p e s m args below meth c H locs LS C h2 h3 h4 h5
  exact lv_lshl C.1 C.2.1 hd rfl (n p e s m args below meth c H locs LS C h2 h3 h4 h5)
theorem v_lshr {g : Wo} {k : Mth} {j : Jd} {pc : Nat} {ls : List (Option Value)} {st : List Value} {M : Mem} {x : Int64} {y : Int32} (hd : decode k.2.1 pc = .ok (.lshr, 1)) (n : V g k j (pc + 1) ls (.long (x >>> (y.toInt64 &&& 63)) :: st) M) : V g k j pc ls (.int y :: .long x :: st) M := by
  intro p e s m args below meth c H locs LS C h2 h3 h4 h5
  exact lv_lshr C.1 C.2.1 hd rfl (n p e s m args below meth c H locs LS C h2 h3 h4 h5)
theorem v_lushr {g : Wo} {k : Mth} {j : Jd} {pc : Nat} {ls : List (Option Value)} {st : List Value} {M : Mem} {x : Int64} {y : Int32} (hd : decode k.2.1 pc = .ok (.lushr, 1)) (n : V g k j (pc + 1) ls (.long ((x.toUInt64 >>> (y.toInt64.toUInt64 &&& Int64.toUInt64 63)).toInt64) :: st) M) : V g k j pc ls (.int y :: .long x :: st) M := by
  intro p e s m args below meth c H locs LS C h2 h3 h4 h5
  exact lv_lushr C.1 C.2.1 hd rfl (n p e s m args below meth c H locs LS C h2 h3 h4 h5)
theorem v_i2l {g : Wo} {k : Mth} {j : Jd} {pc : Nat} {ls : List (Option Value)} {st : List Value} {M : Mem} {x : Int32} (hd : decode k.2.1 pc = .ok (.i2l, 1)) (n : V g k j (pc + 1) ls (.long x.toInt64 :: st) M) : V g k j pc ls (.int x :: st) M := by
  intro p e s m args below meth c H locs LS C h2 h3 h4 h5
  exact lv_i2l C.1 C.2.1 hd rfl (n p e s m args below meth c H locs LS C h2 h3 h4 h5)
theorem v_l2i {g : Wo} {k : Mth} {j : Jd} {pc : Nat} {ls : List (Option Value)} {st : List Value} {M : Mem} {x : Int64} (hd : decode k.2.1 pc = .ok (.l2i, 1)) (n : V g k j (pc + 1) ls (.int x.toInt32 :: st) M) : V g k j pc ls (.long x :: st) M := by
  intro p e s m args below meth c H locs LS C h2 h3 h4 h5
  exact lv_l2i C.1 C.2.1 hd rfl (n p e s m args below meth c H locs LS C h2 h3 h4 h5)
theorem v_i2b {g : Wo} {k : Mth} {j : Jd} {pc : Nat} {ls : List (Option Value)} {st : List Value} {M : Mem} {x : Int32} (hd : decode k.2.1 pc = .ok (.i2b, 1)) (n : V g k j (pc + 1) ls (.int x.toInt8.toInt32 :: st) M) : V g k j pc ls (.int x :: st) M := by
  intro p e s m args below meth c H locs LS C h2 h3 h4 h5
  exact lv_i2b C.1 C.2.1 hd rfl (n p e s m args below meth c H locs LS C h2 h3 h4 h5)
theorem v_i2s {g : Wo} {k : Mth} {j : Jd} {pc : Nat} {ls : List (Option Value)} {st : List Value} {M : Mem} {x : Int32} (hd : decode k.2.1 pc = .ok (.i2s, 1)) (n : V g k j (pc + 1) ls (.int x.toInt16.toInt32 :: st) M) : V g k j pc ls (.int x :: st) M := by
  intro p e s m args below meth c H locs LS C h2 h3 h4 h5
  exact lv_i2s C.1 C.2.1 hd rfl (n p e s m args below meth c H locs LS C h2 h3 h4 h5)
theorem v_i2c {g : Wo} {k : Mth} {j : Jd} {pc : Nat} {ls : List (Option Value)} {st : List Value} {M : Mem} {x : Int32} (hd : decode k.2.1 pc = .ok (.i2c, 1)) (n : V g k j (pc + 1) ls (.int (x.toUInt32 % 65536).toInt32 :: st) M) : V g k j pc ls (.int x :: st) M := by
  intro p e s m args below meth c H locs LS C h2 h3 h4 h5
  exact lv_i2c C.1 C.2.1 hd rfl (n p e s m args below meth c H locs LS C h2 h3 h4 h5)
theorem v_lcmp {g : Wo} {k : Mth} {j : Jd} {pc : Nat} {ls : List (Option Value)} {st : List Value} {M : Mem} {x y : Int64} (hd : decode k.2.1 pc = .ok (.lcmp, 1)) (n : V g k j (pc + 1) ls (.int (lg_cmp x y) :: st) M) : V g k j pc ls (.long y :: .long x :: st) M := by
  intro p e s m args below meth c H locs LS C h2 h3 h4 h5
  exact W.lcmp C.1 C.2.1 hd (n p e s m args below meth c H locs LS C h2 h3 h4 h5)
theorem v_dup {g : Wo} {k : Mth} {j : Jd} {pc : Nat} {ls : List (Option Value)} {st : List Value} {M : Mem} {va : Value} (hd : decode k.2.1 pc = .ok (.dup, 1)) (hva : va.category = 1) (n : V g k j (pc + 1) ls (va :: va :: st) M) : V g k j pc ls (va :: st) M := by
  intro p e s m args below meth c H locs LS C h2 h3 h4 h5
  exact lv_dup C.1 C.2.1 hd (by rw [trv_cat]; exact hva) (n p e s m args below meth c H locs LS C h2 h3 h4 h5)
theorem v_pop {g : Wo} {k : Mth} {j : Jd} {pc : Nat} {ls : List (Option Value)} {st : List Value} {M : Mem} {va : Value} (hd : decode k.2.1 pc = .ok (.pop, 1)) (hva : va.category = 1) (n : V g k j (pc + 1) ls (st) M) : V g k j pc ls (va :: st) M := by
  intro p e s m args below meth c H locs LS C h2 h3 h4 h5
  exact lv_pop C.1 C.2.1 hd (by rw [trv_cat]; exact hva) (n p e s m args below meth c H locs LS C h2 h3 h4 h5)
theorem v_dup2 {g : Wo} {k : Mth} {j : Jd} {pc : Nat} {ls : List (Option Value)} {st : List Value} {M : Mem} {va vb : Value} (hd : decode k.2.1 pc = .ok (.dup2, 1)) (hva : va.category = 1) (hvb : vb.category = 1) (n : V g k j (pc + 1) ls (va :: vb :: va :: vb :: st) M) : V g k j pc ls (va :: vb :: st) M := by
  intro p e s m args below meth c H locs LS C h2 h3 h4 h5
  exact lv_dup2_11 C.1 C.2.1 hd (by rw [trv_cat]; exact hva) (by rw [trv_cat]; exact hvb) (n p e s m args below meth c H locs LS C h2 h3 h4 h5)
theorem v_if_eq {g : Wo} {k : Mth} {j : Jd} {pc : Nat} {ls : List (Option Value)} {st : List Value} {M : Mem} {x : Int32} {off : Int} {tgt : Nat} (hd : decode k.2.1 pc = .ok (.ifCond .eq off, 3)) (ht : (pc : Int) + off = (tgt : Int)) (kt : x = 0 → V g k j tgt ls st M) (kf : ¬ x = 0 → V g k j (pc + 3) ls st M) : V g k j pc ls (.int x :: st) M := by
  intro p e s m args below meth c H locs LS C h2 h3 h4 h5
  exact lv_if_eq C.1 C.2.1 hd ht (fun q => kt q p e s m args below meth c H locs LS C h2 h3 h4 h5) (fun q => kf q p e s m args below meth c H locs LS C h2 h3 h4 h5)
theorem v_if_ne {g : Wo} {k : Mth} {j : Jd} {pc : Nat} {ls : List (Option Value)} {st : List Value} {M : Mem} {x : Int32} {off : Int} {tgt : Nat} (hd : decode k.2.1 pc = .ok (.ifCond .ne off, 3)) (ht : (pc : Int) + off = (tgt : Int)) (kt : ¬ x = 0 → V g k j tgt ls st M) (kf : x = 0 → V g k j (pc + 3) ls st M) : V g k j pc ls (.int x :: st) M := by
  intro p e s m args below meth c H locs LS C h2 h3 h4 h5
  exact lv_if_ne C.1 C.2.1 hd ht (fun q => kt q p e s m args below meth c H locs LS C h2 h3 h4 h5) (fun q => kf q p e s m args below meth c H locs LS C h2 h3 h4 h5)
theorem v_if_lt {g : Wo} {k : Mth} {j : Jd} {pc : Nat} {ls : List (Option Value)} {st : List Value} {M : Mem} {x : Int32} {off : Int} {tgt : Nat} (hd : decode k.2.1 pc = .ok (.ifCond .lt off, 3)) (ht : (pc : Int) + off = (tgt : Int)) (kt : x < 0 → V g k j tgt ls st M) (kf : ¬ x < 0 → V g k j (pc + 3) ls st M) : V g k j pc ls (.int x :: st) M := by
  intro p e s m args below meth c H locs LS C h2 h3 h4 h5
  exact lv_if_lt C.1 C.2.1 hd ht (fun q => kt q p e s m args below meth c H locs LS C h2 h3 h4 h5) (fun q => kf q p e s m args below meth c H locs LS C h2 h3 h4 h5)
theorem v_if_ge {g : Wo} {k : Mth} {j : Jd} {pc : Nat} {ls : List (Option Value)} {st : List Value} {M : Mem} {x : Int32} {off : Int} {tgt : Nat} (hd : decode k.2.1 pc = .ok (.ifCond .ge off, 3)) (ht : (pc : Int) + off = (tgt : Int)) (kt : 0 ≤ x → V g k j tgt ls st M) (kf : ¬ 0 ≤ x → V g k j (pc + 3) ls st M) : V g k j pc ls (.int x :: st) M := by
  intro p e s m args below meth c H locs LS C h2 h3 h4 h5
  exact lv_if_ge C.1 C.2.1 hd ht (fun q => kt q p e s m args below meth c H locs LS C h2 h3 h4 h5) (fun q => kf q p e s m args below meth c H locs LS C h2 h3 h4 h5)
theorem v_if_gt {g : Wo} {k : Mth} {j : Jd} {pc : Nat} {ls : List (Option Value)} {st : List Value} {M : Mem} {x : Int32} {off : Int} {tgt : Nat} (hd : decode k.2.1 pc = .ok (.ifCond .gt off, 3)) (ht : (pc : Int) + off = (tgt : Int)) (kt : 0 < x → V g k j tgt ls st M) (kf : ¬ 0 < x → V g k j (pc + 3) ls st M) : V g k j pc ls (.int x :: st) M := by
  intro p e s m args below meth c H locs LS C h2 h3 h4 h5
  exact lv_if_gt C.1 C.2.1 hd ht (fun q => kt q p e s m args below meth c H locs LS C h2 h3 h4 h5) (fun q => kf q p e s m args below meth c H locs LS C h2 h3 h4 h5)
theorem v_if_le {g : Wo} {k : Mth} {j : Jd} {pc : Nat} {ls : List (Option Value)} {st : List Value} {M : Mem} {x : Int32} {off : Int} {tgt : Nat} (hd : decode k.2.1 pc = .ok (.ifCond .le off, 3)) (ht : (pc : Int) + off = (tgt : Int)) (kt : x ≤ 0 → V g k j tgt ls st M) (kf : ¬ x ≤ 0 → V g k j (pc + 3) ls st M) : V g k j pc ls (.int x :: st) M := by
  intro p e s m args below meth c H locs LS C h2 h3 h4 h5
  exact lv_if_le C.1 C.2.1 hd ht (fun q => kt q p e s m args below meth c H locs LS C h2 h3 h4 h5) (fun q => kf q p e s m args below meth c H locs LS C h2 h3 h4 h5)
theorem v_icmp_eq {g : Wo} {k : Mth} {j : Jd} {pc : Nat} {ls : List (Option Value)} {st : List Value} {M : Mem} {x y : Int32} {off : Int} {tgt : Nat} (hd : decode k.2.1 pc = .ok (.if_icmp .eq off, 3)) (ht : (pc : Int) + off = (tgt : Int)) (kt : x = y → V g k j tgt ls st M) (kf : ¬ x = y → V g k j (pc + 3) ls st M) : V g k j pc ls (.int y :: .int x :: st) M := by
  intro p e s m args below meth c H locs LS C h2 h3 h4 h5
  exact lv_icmp_eq C.1 C.2.1 hd ht (fun q => kt q p e s m args below meth c H locs LS C h2 h3 h4 h5) (fun q => kf q p e s m args below meth c H locs LS C h2 h3 h4 h5)
theorem v_icmp_ne {g : Wo} {k : Mth} {j : Jd} {pc : Nat} {ls : List (Option Value)} {st : List Value} {M : Mem} {x y : Int32} {off : Int} {tgt : Nat} (hd : decode k.2.1 pc = .ok (.if_icmp .ne off, 3)) (ht : (pc : Int) + off = (tgt : Int)) (kt : ¬ x = y → V g k j tgt ls st M) (kf : x = y → V g k j (pc + 3) ls st M) : V g k j pc ls (.int y :: .int x :: st) M := by
  intro p e s m args below meth c H locs LS C h2 h3 h4 h5
  exact lv_icmp_ne C.1 C.2.1 hd ht (fun q => kt q p e s m args below meth c H locs LS C h2 h3 h4 h5) (fun q => kf q p e s m args below meth c H locs LS C h2 h3 h4 h5)
theorem v_icmp_lt {g : Wo} {k : Mth} {j : Jd} {pc : Nat} {ls : List (Option Value)} {st : List Value} {M : Mem} {x y : Int32} {off : Int} {tgt : Nat} (hd : decode k.2.1 pc = .ok (.if_icmp .lt off, 3)) (ht : (pc : Int) + off = (tgt : Int)) (kt : x < y → V g k j tgt ls st M) (kf : ¬ x < y → V g k j (pc + 3) ls st M) : V g k j pc ls (.int y :: .int x :: st) M := by
  intro p e s m args below meth c H locs LS C h2 h3 h4 h5
  exact lv_icmp_lt C.1 C.2.1 hd ht (fun q => kt q p e s m args below meth c H locs LS C h2 h3 h4 h5) (fun q => kf q p e s m args below meth c H locs LS C h2 h3 h4 h5)
theorem v_icmp_ge {g : Wo} {k : Mth} {j : Jd} {pc : Nat} {ls : List (Option Value)} {st : List Value} {M : Mem} {x y : Int32} {off : Int} {tgt : Nat} (hd : decode k.2.1 pc = .ok (.if_icmp .ge off, 3)) (ht : (pc : Int) + off = (tgt : Int)) (kt : y ≤ x → V g k j tgt ls st M) (kf : ¬ y ≤ x → V g k j (pc + 3) ls st M) : V g k j pc ls (.int y :: .int x :: st) M := by
  intro p e s m args below meth c H locs LS C h2 h3 h4 h5
  exact lv_icmp_ge C.1 C.2.1 hd ht (fun q => kt q p e s m args below meth c H locs LS C h2 h3 h4 h5) (fun q => kf q p e s m args below meth c H locs LS C h2 h3 h4 h5)
theorem v_icmp_gt {g : Wo} {k : Mth} {j : Jd} {pc : Nat} {ls : List (Option Value)} {st : List Value} {M : Mem} {x y : Int32} {off : Int} {tgt : Nat} (hd : decode k.2.1 pc = .ok (.if_icmp .gt off, 3)) (ht : (pc : Int) + off = (tgt : Int)) (kt : y < x → V g k j tgt ls st M) (kf : ¬ y < x → V g k j (pc + 3) ls st M) : V g k j pc ls (.int y :: .int x :: st) M := by
  intro p e s m args below meth c H locs LS C h2 h3 h4 h5
  exact lv_icmp_gt C.1 C.2.1 hd ht (fun q => kt q p e s m args below meth c H locs LS C h2 h3 h4 h5) (fun q => kf q p e s m args below meth c H locs LS C h2 h3 h4 h5)
theorem v_icmp_le {g : Wo} {k : Mth} {j : Jd} {pc : Nat} {ls : List (Option Value)} {st : List Value} {M : Mem} {x y : Int32} {off : Int} {tgt : Nat} (hd : decode k.2.1 pc = .ok (.if_icmp .le off, 3)) (ht : (pc : Int) + off = (tgt : Int)) (kt : x ≤ y → V g k j tgt ls st M) (kf : ¬ x ≤ y → V g k j (pc + 3) ls st M) : V g k j pc ls (.int y :: .int x :: st) M := by
  intro p e s m args below meth c H locs LS C h2 h3 h4 h5
  exact lv_icmp_le C.1 C.2.1 hd ht (fun q => kt q p e s m args below meth c H locs LS C h2 h3 h4 h5) (fun q => kf q p e s m args below meth c H locs LS C h2 h3 h4 h5)
theorem v_goto {g : Wo} {k : Mth} {j : Jd} {pc : Nat} {ls : List (Option Value)} {st : List Value} {M : Mem} {off : Int} {tgt : Nat} (hd : decode k.2.1 pc = .ok (.goto off, 3)) (ht : (pc : Int) + off = (tgt : Int)) (n : V g k j tgt ls st M) : V g k j pc ls st M := by
  intro p e s m args below meth c H locs LS C h2 h3 h4 h5
  exact lv_goto C.1 C.2.1 hd ht (n p e s m args below meth c H locs LS C h2 h3 h4 h5)
theorem v_tabOut {g : Wo} {k : Mth} {j : Jd} {pc : Nat} {ls : List (Option Value)} {st : List Value} {M : Mem} {dflt lo hi : Int} {offs : Array Int} {len : Nat} {x : Int32} {tgt : Nat} (hd : decode k.2.1 pc = .ok (.tableswitch dflt lo hi offs, len)) (h : x.toInt < lo ∨ hi < x.toInt) (ht : (pc : Int) + dflt = (tgt : Int)) (n : V g k j tgt ls st M) : V g k j pc ls (.int x :: st) M := by
  intro p e s m args below meth c H locs LS C h2 h3 h4 h5
  exact lv_tableOut C.1 C.2.1 hd h ht (n p e s m args below meth c H locs LS C h2 h3 h4 h5)
theorem v_tabIn {g : Wo} {k : Mth} {j : Jd} {pc : Nat} {ls : List (Option Value)} {st : List Value} {M : Mem} {dflt lo hi : Int} {offs : Array Int} {len : Nat} {x : Int32} {off : Int} {tgt : Nat} (hd : decode k.2.1 pc = .ok (.tableswitch dflt lo hi offs, len)) (h1 : ¬ x.toInt < lo) (h2 : ¬ hi < x.toInt) (ho : offs[(x.toInt - lo).toNat]? = some off) (ht : (pc : Int) + off = (tgt : Int)) (n : V g k j tgt ls st M) : V g k j pc ls (.int x :: st) M := by
  intro p e s m args below meth c H locs LS C h2 h3 h4 h5
  exact lv_tableIn C.1 C.2.1 hd h1 ‹¬ hi < x.toInt› ho ht (n p e s m args below meth c H locs LS C h2 h3 h4 h5)
theorem v_lookup {g : Wo} {k : Mth} {j : Jd} {pc : Nat} {ls : List (Option Value)} {st : List Value} {M : Mem} {dflt : Int} {ps : Array (Int × Int)} {len : Nat} {x : Int32} {off : Int} {tgt : Nat} (hd : decode k.2.1 pc = .ok (.lookupswitch dflt ps, len)) (hp : (ps.toList.zip (ps.toList.drop 1)).all (fun (a, next) => a.1 < next.1) = true) (ho : Op.lookupswitch.offset ps.toList dflt x.toInt = off) (ht : (pc : Int) + off = (tgt : Int)) (n : V g k j tgt ls st M) : V g k j pc ls (.int x :: st) M := by
  intro p e s m args below meth c H locs LS C h2 h3 h4 h5
  exact lv_lookup C.1 C.2.1 hd hp ho ht (n p e s m args below meth c H locs LS C h2 h3 h4 h5)
theorem v_ldc {g : Wo} {k : Mth} {j : Jd} {pc : Nat} {ls : List (Option Value)} {st : List Value} {M : Mem} {idx : Nat} {v : Int32} (hd : decode k.2.1 pc = .ok (.ldc idx, 2)) (hw : Cond.constant k.1.cls idx v ∈ Tw) (n : V g k j (pc + 2) ls (.int v :: st) M) : V g k j pc ls st M := by
  intro p e s m args below meth c H locs LS C h2 h3 h4 h5
  exact lv_ldc C.1 C.2.1 C.2.2.2.2.1 (C.2.2.2.2.2.1 _ hw) hd (n p e s m args below meth c H locs LS C h2 h3 h4 h5)
theorem v_ldcw {g : Wo} {k : Mth} {j : Jd} {pc : Nat} {ls : List (Option Value)} {st : List Value} {M : Mem} {idx : Nat} {v : Int32} (hd : decode k.2.1 pc = .ok (.ldc_w idx, 3)) (hw : Cond.constant k.1.cls idx v ∈ Tw) (n : V g k j (pc + 3) ls (.int v :: st) M) : V g k j pc ls st M := by
  intro p e s m args below meth c H locs LS C h2 h3 h4 h5
  exact lv_ldcw C.1 C.2.1 C.2.2.2.2.1 (C.2.2.2.2.2.1 _ hw) hd (n p e s m args below meth c H locs LS C h2 h3 h4 h5)
theorem v_ldc2 {g : Wo} {k : Mth} {j : Jd} {pc : Nat} {ls : List (Option Value)} {st : List Value} {M : Mem} {idx : Nat} {v : Int64} (hd : decode k.2.1 pc = .ok (.ldc2_w idx, 3)) (hw : Cond.constantLong k.1.cls idx v ∈ Tw) (n : V g k j (pc + 3) ls (.long v :: st) M) : V g k j pc ls st M := by
  intro p e s m args below meth c H locs LS C h2 h3 h4 h5
  exact lv_ldc2 C.1 C.2.1 C.2.2.2.2.1 (C.2.2.2.2.2.1 _ hw) hd (n p e s m args below meth c H locs LS C h2 h3 h4 h5)
theorem v_ldcS {g : Wo} {k : Mth} {j : Jd} {pc : Nat} {ls : List (Option Value)} {st : List Value} {M : Mem} {idx : Nat} {i : Nat} {tx : String} (hd : decode k.2.1 pc = .ok (.ldc idx, 2)) (hw : strL[i]? = some (k.1.cls, idx, tx)) (n : V g k j (pc + 2) ls (.ref (100 + i) :: st) M) : V g k j pc ls st M := by
  intro p e s m args below meth c H locs LS C h2 h3 h4 h5
  exact va_ldcS C.1 C.2.1 C.2.2.2.2.1 (C.2.2.2.2.2.2.2.2.2.2.1 i _ hw) hd (n p e s m args below meth c H locs LS C h2 h3 h4 h5)
/-! returns -/
theorem v_vret {g : Wo} {k : Mth} {d : Nat} {pc : Nat} {ls : List (Option Value)} {M : Mem} (hr : k.2.2.2 = none) (hd : decode k.2.1 pc = .ok (.return_, 1)) : V g k (jm g d none M) pc ls [] M := by
  intro p e s m args below meth c H locs LS C h2 h3 h4 h5
  have hlocks : meth.locks = false := C.2.2.2.2.2.2.1
  exact W.vret C.1 C.2.1 (C.2.2.1.trans hr) (fun t ht hW => ⟨rfl, by rw [ht]; exact h4, h3.F ht⟩) h3.2.2 hd
theorem v_iret {g : Wo} {k : Mth} {d : Nat} {pc : Nat} {ls : List (Option Value)} {M : Mem} {v : Int32} (hr : k.2.2.2 = some .int) (hd : decode k.2.1 pc = .ok (.ireturn, 1)) : V g k (jm g d (some (.int v)) M) pc ls [.int v] M := by
  intro p e s m args below meth c H locs LS C h2 h3 h4 h5
  have hlocks : meth.locks = false := C.2.2.2.2.2.2.1
  exact W.iret C.1 C.2.1 (C.2.2.1.trans hr) (fun t ht hW => ⟨rfl, by rw [ht]; exact h4, h3.F ht⟩) h3.2.2 hd
theorem v_lret {g : Wo} {k : Mth} {d : Nat} {pc : Nat} {ls : List (Option Value)} {M : Mem} {v : Int64} (hr : k.2.2.2 = some .long) (hd : decode k.2.1 pc = .ok (.lreturn, 1)) : V g k (jm g d (some (.long v)) M) pc ls [.long v] M := by
  intro p e s m args below meth c H locs LS C h2 h3 h4 h5
  have hlocks : meth.locks = false := C.2.2.2.2.2.2.1
  exact W.lret C.1 C.2.1 (C.2.2.1.trans hr) (fun t ht hW => ⟨rfl, by rw [ht]; exact h4, h3.F ht⟩) h3.2.2 hd
theorem v_zret {g : Wo} {k : Mth} {d : Nat} {pc : Nat} {ls : List (Option Value)} {M : Mem} {v : Int32} {ty : FieldType} (hr : k.2.2.2 = some ty) (hn : narrow ty (.int v) = .int v) (hd : decode k.2.1 pc = .ok (.ireturn, 1)) : V g k (jm g d (some (.int v)) M) pc ls [.int v] M := by
  intro p e s m args below meth c H locs LS C h2 h3 h4 h5
  have hlocks : meth.locks = false := C.2.2.2.2.2.2.1
  exact W.zret C.1 C.2.1 (C.2.2.1.trans hr) hn (fun t ht hW => ⟨rfl, by rw [ht]; exact h4, h3.F ht⟩) h3.2.2 hd
theorem v_aret {g : Wo} {k : Mth} {d : Nat} {pc : Nat} {ls : List (Option Value)} {M : Mem} {r : Nat} {n : String} (hr : k.2.2.2 = some (.object n)) (hd : decode k.2.1 pc = .ok (.areturn, 1)) : V g k (jm g d (some (.ref r)) M) pc ls [.ref r] M := by
  intro p e s m args below meth c H locs LS C h2 h3 h4 h5
  have hlocks : meth.locks = false := C.2.2.2.2.2.2.1
  exact W.aret C.1 C.2.1 (C.2.2.1.trans hr) (Or.inl ⟨n, rfl⟩) (Or.inr ⟨_, rfl⟩) (fun t ht hW => ⟨rfl, by rw [ht]; exact h4, h3.F ht⟩) h3.2.2 hd
/-! fields -/
theorem cls_in : ∀ (ci : Nat) (q : vw_C), vwCl[ci]? = some q → ∀ w ∈ u_ws q.1 q.2.1 q.2.2, w ∈ Tw := by
  intro ci q hq w hw
  have h : ∀ q ∈ vwCl, (u_ws q.1 q.2.1 q.2.2).all (fun w => decide (w ∈ lw_tbl) && goodWord w) = true := by decide +kernel
  have h1 := List.all_eq_true.mp (h q (List.mem_of_getElem? hq)) w hw
  simp only [Bool.and_eq_true, decide_eq_true_eq] at h1
  exact List.mem_filter.mpr h1
def tyO (T : u_T) (k : Nat) : FieldType := (parseFieldDescriptor (T k).2.2.1).getD .int
theorem cls_ty : ∀ (ci : Nat) (q : vw_C), vwCl[ci]? = some q → ∀ k, k < q.2.2 → parseFieldDescriptor (q.2.1 k).2.2.1 = some (tyO q.2.1 k) := by
  intro ci q hq
  have h : ∀ q ∈ vwCl, ∀ k, k < q.2.2 → parseFieldDescriptor (q.2.1 k).2.2.1 = some (tyO q.2.1 k) := by decide +kernel
  exact h q (List.mem_of_getElem? hq)
theorem cls_nm : ∀ (ci : Nat) (q : vw_C), vwCl[ci]? = some q → ∀ a, a < q.2.2 → ∀ b, b < q.2.2 → a ≠ b → (q.2.1 a).2.1 ≠ (q.2.1 b).2.1 := by
  intro ci q hq
  have h : ∀ q ∈ vwCl, ∀ a, a < q.2.2 → ∀ b, b < q.2.2 → a ≠ b → (q.2.1 a).2.1 ≠ (q.2.1 b).2.1 := by decide +kernel
  exact h q (List.mem_of_getElem? hq)
def FL (own : String) (idx ci k : Nat) : Prop := ∃ q : vw_C, vwCl[ci]? = some q ∧ k < q.2.2 ∧ Cond.fieldLink own idx q.1 (q.2.1 k).2.1 (q.2.1 k).2.2.1 ∈ Tw ∧ (q.2.1 k).1 = q.1
/-- a field that isn't final, of an int or a boolean -/
def FP (own : String) (idx ci k : Nat) (ty : FieldType) : Prop := ∃ q : vw_C, vwCl[ci]? = some q ∧ k < q.2.2 ∧ Cond.fieldLink own idx q.1 (q.2.1 k).2.1 (q.2.1 k).2.2.1 ∈ Tw ∧ (q.2.1 k).1 = q.1 ∧ (q.2.1 k).2.2.2 = false ∧ parseFieldDescriptor (q.2.1 k).2.2.1 = some ty
theorem fldE_at {g : Wo} {M : Mem} {c k : Nat} {fs : List (Option Nat)} {o : Option Nat} (h : fs[k]? = some o) : (fldE g M c fs)[k]? = some (fvE g M c k o) := by
  rw [fldE, List.getElem?_mapIdx, h]; rfl
def fvM (M : Mem) (c k : Nat) : Option Nat → Value
  | none => Value.int (M.1 c k)
  | some r => Value.ref r
theorem v_get {g : Wo} {k : Mth} {j : Jd} {pc : Nat} {ls : List (Option Value)} {st : List Value} {M : Mem} {idx c ci f : Nat} {fs : List (Option Nat)} {o : Option Nat} (hd : decode k.2.1 pc = .ok (.getfield idx, 3)) (hf : FL k.1.cls idx ci f) (hs : sh c = (0, ci, fs)) (ho : fs[f]? = some o) (n : V g k j (pc + 3) ls (fvM M c f o :: st) M) : V g k j pc ls (.ref c :: st) M := by
  intro p e s m args below meth c1 H locs LS C h2 h3 h4 h5
  obtain ⟨q, q1, q2, q3, q4⟩ := hf
  have hc : c < 60 := sh_lt hs (by simp)
  have hcell : (wsOf g M)[c]? = some (g.2.2.1 c, .inr (ci, fldE g M c fs)) := by rw [ws_at g M hc, cell0 hs]
  have n := n p e s m args below meth c1 H locs LS C h2 h3 h4 h5
  refine va_get (D := g.2.1) (C := q.1) (T := q.2.1) (N := q.2.2) (ref := q.1) C.1 C.2.1 C.2.2.2.2.2.1 (cls_in ci q q1) C.2.2.2.2.1 C.2.2.2.2.2.2.2.1 h4 c hcell q1 f q2 (C.2.2.2.2.2.1 _ q3) (by rw [q4]; exact fun x hx => hx) (fldE_at ho) hd ?_
  cases o with
  | none => exact n
  | some r => exact n
theorem v_geti {g : Wo} {k : Mth} {j : Jd} {pc : Nat} {ls : List (Option Value)} {st : List Value} {M : Mem} {idx c ci f : Nat} {fs : List (Option Nat)} (hd : decode k.2.1 pc = .ok (.getfield idx, 3)) (hf : FL k.1.cls idx ci f) (hs : sh c = (0, ci, fs)) (ho : fs[f]? = some none) (n : V g k j (pc + 3) ls (Value.int (M.1 c f) :: st) M) : V g k j pc ls (.ref c :: st) M := v_get hd hf hs ho n
theorem v_getr {g : Wo} {k : Mth} {j : Jd} {pc : Nat} {ls : List (Option Value)} {st : List Value} {M : Mem} {idx c ci f r : Nat} {fs : List (Option Nat)} (hd : decode k.2.1 pc = .ok (.getfield idx, 3)) (hf : FL k.1.cls idx ci f) (hs : sh c = (0, ci, fs)) (ho : fs[f]? = some (some r)) (n : V g k j (pc + 3) ls (Value.ref r :: st) M) : V g k j pc ls (.ref c :: st) M := v_get hd hf hs ho n
theorem setI_ne (M : Mem) {c j : Nat} {v : Int32} : ∀ a, a ≠ c → (setI M c j v).1 a = M.1 a := fun a h => by simp [setI, h]
theorem setI_eq (M : Mem) {c j : Nat} {v : Int32} : (setI M c j v).1 c = upd (M.1 c) j v := by simp [setI]
theorem setJ_ne (M : Mem) {c j : Nat} {v : Int64} : ∀ a, a ≠ c → (setJ M c j v).2 a = M.2 a := fun a h => by simp [setJ, h]
theorem setJ_eq (M : Mem) {c j : Nat} {v : Int64} : (setJ M c j v).2 c = vp_updL (M.2 c) j v := by simp [setJ]
theorem v_put {g : Wo} {k : Mth} {j : Jd} {pc : Nat} {ls : List (Option Value)} {st : List Value} {M : Mem} {idx c ci f : Nat} {fs : List (Option Nat)} {x : Int32} {ty : FieldType} (hd : decode k.2.1 pc = .ok (.putfield idx, 3)) (hf : FP k.1.cls idx ci f ty) (hs : sh c = (0, ci, fs)) (ho : fs[f]? = some none) (hn : narrow ty (.int x) = .int x) (hfit : fits ty (.int x) = true) (n : V g k j (pc + 3) ls st (setI M c f x)) : V g k j pc ls (.int x :: .ref c :: st) M := by
  intro p e s m args below meth c1 H locs LS C h2 h3 h4 h5
  obtain ⟨q, q1, q2, q3, q4, q5, q6⟩ := hf
  have hc : c < 60 := sh_lt hs (by simp)
  have hcell : (wsOf g M)[c]? = some (g.2.2.1 c, .inr (ci, fldE g M c fs)) := by rw [ws_at g M hc, cell0 hs]
  have hlen : f < (fldE g M c fs).length := by
    have := (List.getElem?_eq_some_iff.mp ho).1
    simpa [fldE] using this
  have he : (wsOf g M).set c (g.2.2.1 c, .inr (ci, (fldE g M c fs).set f (.int x))) = wsOf g (setI M c f x) := by
    rw [← ws_set g (M := M) (M' := setI M c f x) hc (setI_ne M) (fun _ _ => rfl)]
    have e : cellE g (setI M c f x) c = .inr (ci, (fldE g M c fs).set f (.int x)) := by
      rw [cell0 hs]
      have e2 : fldE g (setI M c f x) c fs = (fldE g M c fs).set f (.int x) := by
        apply List.ext_getElem?
        intro i
        by_cases hi : i = f
        · subst hi
          rw [List.getElem?_set_self hlen, fldE_at ho, fvE, setI_eq]
          simp [upd]
        · rw [List.getElem?_set_ne (Ne.symm hi), fldE, fldE, List.getElem?_mapIdx, List.getElem?_mapIdx]
          cases fs[i]? with
          | none => rfl
          | some o => cases o <;> simp [fvE, setI_eq, upd, hi]
      rw [e2]
    rw [e]
  refine va_put (D := g.2.1) (C := q.1) (T := q.2.1) (N := q.2.2) (ref := q.1) C.1 C.2.1 C.2.2.2.2.2.1 (cls_in ci q q1) (tyO q.2.1) (cls_ty ci q q1) (cls_nm ci q q1) C.2.2.2.2.1 C.2.2.2.2.2.2.2.1 h4 (ws_D C.2.2.2.2.2.2.2.2.1 M) h3 c hcell q1 f q2 (C.2.2.2.2.2.1 _ q3) (by rw [q4]; exact fun x hx => hx) q5 (v := .int x) q6 hn hfit hlen hd (fun H1 locs1 hP hD hS => ?_)
  rw [he] at hP
  exact n p e s m args below meth c1 H1 locs1 LS C h2 hS hP h5
theorem v_puti {g : Wo} {k : Mth} {j : Jd} {pc : Nat} {ls : List (Option Value)} {st : List Value} {M : Mem} {idx c ci f : Nat} {fs : List (Option Nat)} {x : Int32} (hd : decode k.2.1 pc = .ok (.putfield idx, 3)) (hf : FP k.1.cls idx ci f .int) (hs : sh c = (0, ci, fs)) (ho : fs[f]? = some none) (n : V g k j (pc + 3) ls st (setI M c f x)) : V g k j pc ls (.int x :: .ref c :: st) M := v_put hd hf hs ho rfl rfl n
theorem v_putz {g : Wo} {k : Mth} {j : Jd} {pc : Nat} {ls : List (Option Value)} {st : List Value} {M : Mem} {idx c ci f : Nat} {fs : List (Option Nat)} {x : Int32} (hd : decode k.2.1 pc = .ok (.putfield idx, 3)) (hf : FP k.1.cls idx ci f .boolean) (hs : sh c = (0, ci, fs)) (ho : fs[f]? = some none) (hx : x = 0 ∨ x = 1) (n : V g k j (pc + 3) ls st (setI M c f x)) : V g k j pc ls (.int x :: .ref c :: st) M :=
  v_put hd hf hs ho (by rcases hx with rfl | rfl <;> rfl) (by rcases hx with rfl | rfl <;> rfl) n
/-! arrays -/
theorem v_iald {g : Wo} {k : Mth} {j : Jd} {pc : Nat} {ls : List (Option Value)} {st : List Value} {M : Mem} {c N : Nat} {z : List (Option Nat)} {i : Int32} (hd : decode k.2.1 pc = .ok (.iaload, 1)) (hs : sh c = (1, N, z)) (hi : vp_in i N) (n : V g k j (pc + 1) ls (.int (M.1 c i.toNatClampNeg) :: st) M) : V g k j pc ls (.int i :: .ref c :: st) M := by
  intro p e s m args below meth c1 H locs LS C h2 h3 h4 h5
  exact va_iald C.1 C.2.1 C.2.2.2.2.2.2.2.1 h4 c 0 (by rw [ws_at g M (sh_lt hs (by simp)), cell1 hs]) rfl hi hd (n p e s m args below meth c1 H locs LS C h2 h3 h4 h5)
theorem v_lald {g : Wo} {k : Mth} {j : Jd} {pc : Nat} {ls : List (Option Value)} {st : List Value} {M : Mem} {c N : Nat} {z : List (Option Nat)} {i : Int32} (hd : decode k.2.1 pc = .ok (.laload, 1)) (hs : sh c = (2, N, z)) (hi : vp_in i N) (n : V g k j (pc + 1) ls (.long (M.2 c i.toNatClampNeg) :: st) M) : V g k j pc ls (.int i :: .ref c :: st) M := by
  intro p e s m args below meth c1 H locs LS C h2 h3 h4 h5
  exact va_lald C.1 C.2.1 C.2.2.2.2.2.2.2.1 h4 c 1 (by rw [ws_at g M (sh_lt hs (by simp)), cell2 hs]) rfl hi hd (n p e s m args below meth c1 H locs LS C h2 h3 h4 h5)
theorem v_iast {g : Wo} {k : Mth} {j : Jd} {pc : Nat} {ls : List (Option Value)} {st : List Value} {M : Mem} {c N : Nat} {z : List (Option Nat)} {i x : Int32} (hd : decode k.2.1 pc = .ok (.iastore, 1)) (hs : sh c = (1, N, z)) (hi : vp_in i N) (n : V g k j (pc + 1) ls st (setI M c i.toNatClampNeg x)) : V g k j pc ls (.int x :: .int i :: .ref c :: st) M := by
  intro p e s m args below meth c1 H locs LS C h2 h3 h4 h5
  have hc : c < 60 := sh_lt hs (by simp)
  refine va_iast C.1 C.2.1 C.2.2.2.2.2.2.2.1 h4 (ws_D C.2.2.2.2.2.2.2.2.1 M) h3 c 0 (by rw [ws_at g M hc, cell1 hs]) rfl hi hd (fun H1 locs1 hP hD hS => ?_)
  have he : (wsOf g M).set c (g.2.2.1 c, .inl (g.2.2.2 0, N, .inl (upd (M.1 c) i.toNatClampNeg x))) = wsOf g (setI M c i.toNatClampNeg x) := by
    rw [← ws_set g (M := M) (M' := setI M c i.toNatClampNeg x) hc (setI_ne M) (fun _ _ => rfl), cell1 hs]
    simp only [setI_eq]
  rw [he] at hP
  exact n p e s m args below meth c1 H1 locs1 LS C h2 hS hP h5
theorem v_last {g : Wo} {k : Mth} {j : Jd} {pc : Nat} {ls : List (Option Value)} {st : List Value} {M : Mem} {c N : Nat} {z : List (Option Nat)} {i : Int32} {x : Int64} (hd : decode k.2.1 pc = .ok (.lastore, 1)) (hs : sh c = (2, N, z)) (hi : vp_in i N) (n : V g k j (pc + 1) ls st (setJ M c i.toNatClampNeg x)) : V g k j pc ls (.long x :: .int i :: .ref c :: st) M := by
  intro p e s m args below meth c1 H locs LS C h2 h3 h4 h5
  have hc : c < 60 := sh_lt hs (by simp)
  refine va_last C.1 C.2.1 C.2.2.2.2.2.2.2.1 h4 (ws_D C.2.2.2.2.2.2.2.2.1 M) h3 c 1 (by rw [ws_at g M hc, cell2 hs]) rfl hi hd (fun H1 locs1 hP hD hS => ?_)
  have he : (wsOf g M).set c (g.2.2.1 c, .inl (g.2.2.2 1, N, .inr (.inl (vp_updL (M.2 c) i.toNatClampNeg x)))) = wsOf g (setJ M c i.toNatClampNeg x) := by
    rw [← ws_set g (M := M) (M' := setJ M c i.toNatClampNeg x) hc (fun _ _ => rfl) (setJ_ne M), cell2 hs]
    simp only [setJ_eq]
  rw [he] at hP
  exact n p e s m args below meth c1 H1 locs1 LS C h2 hS hP h5
theorem v_aaldW {g : Wo} {k : Mth} {j : Jd} {pc : Nat} {ls : List (Option Value)} {st : List Value} {M : Mem} {c N r : Nat} {z : List (Option Nat)} {i : Int32} (hd : decode k.2.1 pc = .ok (.aaload, 1)) (hs : sh c = (3, N, z)) (hi : vp_in i N) (hr : z.getD i.toNatClampNeg none = some r) (n : V g k j (pc + 1) ls (.ref r :: st) M) : V g k j pc ls (.int i :: .ref c :: st) M := by
  intro p e s m args below meth c1 H locs LS C h2 h3 h4 h5
  refine va_aldq C.1 C.2.1 C.2.2.2.2.2.2.2.1 h4 c 2 (by rw [ws_at g M (sh_lt hs (by simp)), cell3 hs]) rfl hi hd ?_
  rw [hr]
  exact n p e s m args below meth c1 H locs LS C h2 h3 h4 h5
theorem v_aaldS {g : Wo} {k : Mth} {j : Jd} {pc : Nat} {ls : List (Option Value)} {st : List Value} {M : Mem} {c N r : Nat} {z : List (Option Nat)} {i : Int32} (hd : decode k.2.1 pc = .ok (.aaload, 1)) (hs : sh c = (4, N, z)) (hi : vp_in i N) (hr : z.getD i.toNatClampNeg none = some r) (n : V g k j (pc + 1) ls (.ref r :: st) M) : V g k j pc ls (.int i :: .ref c :: st) M := by
  intro p e s m args below meth c1 H locs LS C h2 h3 h4 h5
  refine va_aldq C.1 C.2.1 C.2.2.2.2.2.2.2.1 h4 c 3 (by rw [ws_at g M (sh_lt hs (by simp)), cell4 hs]) rfl hi hd ?_
  rw [hr]
  exact n p e s m args below meth c1 H locs LS C h2 h3 h4 h5
theorem v_alen {g : Wo} {k : Mth} {j : Jd} {pc : Nat} {ls : List (Option Value)} {st : List Value} {M : Mem} {c N : Nat} {z : List (Option Nat)} {v : Int32} (hd : decode k.2.1 pc = .ok (.arraylength, 1)) (hs : sh c = (1, N, z)) (hv : Int32.ofNat N = v) (n : V g k j (pc + 1) ls (.int v :: st) M) : V g k j pc ls (.ref c :: st) M := by
  intro p e s m args below meth c1 H locs LS C h2 h3 h4 h5
  exact va_alen C.1 C.2.1 C.2.2.2.2.2.2.2.1 h4 c 0 (by rw [ws_at g M (sh_lt hs (by simp)), cell1 hs]) rfl hv hd (n p e s m args below meth c1 H locs LS C h2 h3 h4 h5)
theorem v_alenJ {g : Wo} {k : Mth} {j : Jd} {pc : Nat} {ls : List (Option Value)} {st : List Value} {M : Mem} {c N : Nat} {z : List (Option Nat)} {v : Int32} (hd : decode k.2.1 pc = .ok (.arraylength, 1)) (hs : sh c = (2, N, z)) (hv : Int32.ofNat N = v) (n : V g k j (pc + 1) ls (.int v :: st) M) : V g k j pc ls (.ref c :: st) M := by
  intro p e s m args below meth c1 H locs LS C h2 h3 h4 h5
  exact va_alen C.1 C.2.1 C.2.2.2.2.2.2.2.1 h4 c 1 (by rw [ws_at g M (sh_lt hs (by simp)), cell2 hs]) rfl hv hd (n p e s m args below meth c1 H locs LS C h2 h3 h4 h5)
/-! calls -/
theorem tw_good : ∀ w ∈ Tw, goodWord w = true := fun w h => (List.mem_filter.mp h).2
theorem goodTw {y : Mth} (h : Cond.code y.1 y.2.1 y.2.2.1 y.2.2.2 ∈ Tw) : GoodIn Tw (mW y) := by
  intro w hw
  rcases List.mem_cons.mp hw with rfl | hw
  · exact ⟨h, good_of_word (tw_good _ h)⟩
  · exact ⟨hw, good_of_word (tw_good w hw)⟩
theorem run_go {p : Program} {l : Launch} {e : Env} {R : Room} {s : State} {m : MethodId} {args a : Array Value} {below : List Frame} {meth : Method} {c : Code} {H : Heap} {locs : List Loc} {cells slots pc : Nat} {Q : State → Prop} {LS : Array Slot} {st0 rest : List Value} {g : Wo} {r : Option Value} {M1 : Mem}
    (hr : va_Run p l e R s m args below meth c H locs cells slots 0 0 (F0 m pc LS st0) rest (Qc g r M1 a) (inA g)) (hS : va_S (inA g) s.heap H locs)
    (kk : ∀ (H1 : Heap) (locs1 : List Loc), Pd g M1 H1 → va_S (inA g) s.heap H1 locs1 → W p l e R s m args below meth c H1 locs1 cells slots Q (F0 m (pc + 3) LS ((r.map (trv g)).toList ++ rest))) : W p l e R s m args below meth c H locs cells slots Q (F0 m pc LS st0) := by
  intro T hT X
  obtain ⟨v, st₀, t, T', L, h0, X', hL, e1, e2, ⟨hv, hp, hz, hk⟩, st⟩ := hr T hT X
  cases hv
  rw [h0] at hz hk
  obtain ⟨t2, a1, b1⟩ := kk T'.heap (locs ++ L) (by rw [e1]; exact hp)
    ⟨Nat.le_trans hS.1 (by rw [e1]; exact hz), fun q h1 h2 => by rw [e1, hk q (Nat.lt_of_lt_of_le h1 hS.1) h2]; exact hS.2.1 q h1 h2, fun q hq => by
      rcases List.mem_append.mp hq with h | h
      · exact hS.2.2 q h
      · exact hL q h⟩ T' rfl X'
  exact ⟨t2, st t2 a1, b1⟩
def ML (own : String) (idx : Nat) (y : Mth) (n : Nat) : Prop := Cond.methodLink own idx y.1 ∈ Tw ∧ Cond.initialized y.1.cls ∈ Tw ∧ Cond.code y.1 y.2.1 y.2.2.1 y.2.2.2 ∈ Tw ∧ (y.1.cls ≠ "java/lang/invoke/MethodHandle" ∧ y.1.cls ≠ "java/lang/invoke/VarHandle" ∧ (parseMethodDescriptor y.1.desc).map (fun d => d.parameters.length) = some n)
def MLs (own : String) (idx : Nat) (y : Mth) (n : Nat) : Prop := ML own idx y n ∧ Cond.static y.1 ∈ Tw
def MLv (own : String) (idx : Nat) (y : Mth) (n : Nat) : Prop := ML own idx y n ∧ Cond.instanceMethod y.1 ∈ Tw ∧ Cond.selects y.1.cls y.1 y.1 ∈ Tw
def MLn (own : String) (idx : Nat) (y : Mth) (n : Nat) : Prop := (∃ host, (own, idx, y.1, host) ∈ nestL) ∧ Cond.initialized y.1.cls ∈ Tw ∧ Cond.code y.1 y.2.1 y.2.2.1 y.2.2.2 ∈ Tw ∧ (y.1.cls ≠ "java/lang/invoke/MethodHandle" ∧ y.1.cls ≠ "java/lang/invoke/VarHandle" ∧ (parseMethodDescriptor y.1.desc).map (fun d => d.parameters.length) = some n) ∧ Cond.static y.1 ∈ Tw
def CR (R : Room) (y : Mth) (d a b : Nat) : Prop := (d + 1 ≤ R.frames ∧ 8 + (y.2.2.1 + 11) + 64 * d ≤ R.locals) ∧ a + 0 ≤ R.cells ∧ b + 0 ≤ R.slots
theorem blind {g : Wo} {as : List Value} {M : Mem} : FrameBlind (va_Pc (as.map (trv g)) (fun U => Pd g M U.heap ∧ Kd g U)) := fun a U f mk h => ⟨h.1, h.2.1, Kd_same h.2.2 rfl rfl⟩
theorem Sp_pre {g : Wo} {as : List Value} {M : Mem} {s : State} {H : Heap} {locs : List Loc} (hP : Pd g M H) (hS : va_S (inA g) s.heap H locs) (hK : Kd g s) : ∀ U : State, U.heap = H → s.WarmedH U.vm → va_Pc (as.map (trv g)) (fun U => Pd g M U.heap ∧ Kd g U) (as.map (trv g)).toArray U :=
  fun U hU hW => ⟨rfl, by rw [hU]; exact hP, Kd_moved hK hU hS hW⟩
theorem v_callS {g : Wo} {k : Mth} {j : Jd} {pc : Nat} {ls : List (Option Value)} {st stk : List Value} {M M1 : Mem} {r : Option Value} {idx d n : Nat} {y : Mth} {as : List Value} (hM : Sp g y d as M r M1) (hd : decode k.2.1 pc = .ok (.invokestatic idx, 3)) (hl : MLs k.1.cls idx y n) (hR : CR j.1 y d j.2.1 j.2.2.1) (hst : as.reverse ++ st = stk) (hn : as.length = n) (hw : (st.map fun v => v.category).sum ≤ 8) (nx : V g k j (pc + 3) ls (r.toList ++ st) M1) : V g k j pc ls stk M := by
  intro p e s m args below meth c H locs LS C h2 h3 h4 h5
  subst hst
  obtain ⟨hx, hb, hr, hml, hown, hts, hlk, hK⟩ := id C
  obtain ⟨⟨l1, l2, l3, l4⟩, l5⟩ := hl
  refine run_go (va_runS (As := as.map (trv g)) (rest := st.map (trv g)) ⟨hx, hb, hml, hown, hts⟩ hM ⟨callB_of n hts (goodTw l3) rfl rfl rfl (hts _ l2) (hts _ l1) l4 hR.1, hts _ l5⟩ ⟨blind, Sp_pre h4 h3 hK⟩ rfl (by rw [List.length_map]; exact hn) h5.1 (by rw [List.map_append, List.map_reverse]) (lv_room (by rw [List.map_map]; simpa [Function.comp_def, trv_cat] using hw)) hd hR.2) h3 (fun H1 locs1 hP hS => ?_)
  have := nx p e s m args below meth c H1 locs1 LS C h2 hS hP h5
  rw [List.map_append] at this
  cases r <;> exact this
theorem v_callN {g : Wo} {k : Mth} {j : Jd} {pc : Nat} {ls : List (Option Value)} {st stk : List Value} {M M1 : Mem} {r : Option Value} {idx d n : Nat} {y : Mth} {as : List Value} (hM : Sp g y d as M r M1) (hd : decode k.2.1 pc = .ok (.invokestatic idx, 3)) (hl : MLn k.1.cls idx y n) (hR : CR j.1 y d j.2.1 j.2.2.1) (hst : as.reverse ++ st = stk) (hn : as.length = n) (hw : (st.map fun v => v.category).sum ≤ 8) (nx : V g k j (pc + 3) ls (r.toList ++ st) M1) : V g k j pc ls stk M := by
  intro p e s m args below meth c H locs LS C h2 h3 h4 h5
  subst hst
  obtain ⟨hx, hb, hr, hml, hown, hts, hlk, hK⟩ := id C
  obtain ⟨⟨host, l1⟩, l2, l3, l4, l5⟩ := hl
  refine run_go (va_runSN (As := as.map (trv g)) (rest := st.map (trv g)) ⟨hx, hb, hml, hown, hts⟩ hM ⟨va_cnB n hts (goodTw l3) rfl rfl rfl (hK.2.2.2.2.1 _ l1) (hts _ l2) l4 hR.1, hts _ l5, trivial⟩ ⟨blind, Sp_pre h4 h3 hK⟩ rfl (by rw [List.length_map]; exact hn) h5.1 (by rw [List.map_append, List.map_reverse]) (lv_room (by rw [List.map_map]; simpa [Function.comp_def, trv_cat] using hw)) hd hR.2) h3 (fun H1 locs1 hP hS => ?_)
  have := nx p e s m args below meth c H1 locs1 LS C h2 hS hP h5
  rw [List.map_append] at this
  cases r <;> exact this
theorem v_callW {g : Wo} {k : Mth} {j : Jd} {pc : Nat} {ls : List (Option Value)} {st stk : List Value} {M M1 : Mem} {r : Option Value} {idx d n b : Nat} {y : Mth} {as : List Value} (hM : Sp g y d (.ref b :: as) M r M1) (hd : decode k.2.1 pc = .ok (.invokevirtual idx, 3)) (hl : MLv k.1.cls idx y n) (hR : CR j.1 y d j.2.1 j.2.2.1)
    (hrec : ∀ (s : State) (H : Heap) (locs : List Loc), Kd g s → va_S (inA g) s.heap H locs → Pd g M H → ∃ cell : Cell, H[g.2.2.1 b]? = some cell ∧ cell.vm.isStatics = false ∧ s.vm.findClass y.1.cls = some cell.cls) (hst : as.reverse ++ .ref b :: st = stk) (hn : as.length = n) (hw : (st.map fun v => v.category).sum ≤ 8) (nx : V g k j (pc + 3) ls (r.toList ++ st) M1) : V g k j pc ls stk M := by
  intro p e s m args below meth c H locs LS C h2 h3 h4 h5
  subst hst
  obtain ⟨hx, hb, hr, hml, hown, hts, hlk, hK⟩ := id C
  obtain ⟨⟨l1, l2, l3, l4⟩, l5, l6⟩ := hl
  refine run_go (va_runV (C := y.1.cls) (b := g.2.2.1 b) (As := as.map (trv g)) (rest := st.map (trv g)) ⟨hx, hb, hml, hown, hts⟩ hM ⟨callB_of n hts (goodTw l3) rfl rfl rfl (hts _ l2) (hts _ l1) l4 hR.1, hts _ l5, hts _ l6⟩ ⟨blind, hrec s H locs hK h3 h4, Sp_pre (as := .ref b :: as) h4 h3 hK⟩ rfl (by rw [List.length_map]; exact hn) h5.1 (by rw [List.map_append, List.map_reverse]; rfl) (lv_room (by rw [List.map_map]; simpa [Function.comp_def, trv_cat] using hw)) hd hR.2) h3 (fun H1 locs1 hP hS => ?_)
  have := nx p e s m args below meth c H1 locs1 LS C h2 hS hP h5
  rw [List.map_append] at this
  cases r <;> exact this
theorem rec_obj {g : Wo} {M : Mem} {b ci : Nat} {fs : List (Option Nat)} {q : vw_C} (hs : sh b = (0, ci, fs)) (hq : vwCl[ci]? = some q) : ∀ (s : State) (H : Heap) (locs : List Loc), Kd g s → va_S (inA g) s.heap H locs → Pd g M H → ∃ cell : Cell, H[g.2.2.1 b]? = some cell ∧ cell.vm.isStatics = false ∧ s.vm.findClass q.1 = some cell.cls :=
  fun s H locs hK hS hP => va_recv hK.1 hP hq (q0 := b) (by rw [ws_at g M (sh_lt hs (by simp)), cell0 hs])
theorem rec_str {g : Wo} {M : Mem} {i : Nat} (hi : i < 15) : ∀ (s : State) (H : Heap) (locs : List Loc), Kd g s → va_S (inA g) s.heap H locs → Pd g M H → ∃ cell : Cell, H[g.2.2.1 (100 + i)]? = some cell ∧ cell.vm.isStatics = false ∧ s.vm.findClass "java/lang/String" = some cell.cls :=
  fun s H locs hK hS hP => vk_recv (adK := fun i => g.2.2.1 (100 + i)) (i := i) hK.2.2.1 hi hS
theorem v_callV {g : Wo} {k : Mth} {j : Jd} {pc : Nat} {ls : List (Option Value)} {st stk : List Value} {M M1 : Mem} {r : Option Value} {idx d n b ci : Nat} {fs : List (Option Nat)} {y : Mth} {as : List Value} {T : u_T} {N : Nat} (hM : Sp g y d (.ref b :: as) M r M1) (hd : decode k.2.1 pc = .ok (.invokevirtual idx, 3)) (hl : MLv k.1.cls idx y n) (hR : CR j.1 y d j.2.1 j.2.2.1) (hs : sh b = (0, ci, fs)) (hq : vwCl[ci]? = some (y.1.cls, T, N)) (hst : as.reverse ++ .ref b :: st = stk) (hn : as.length = n) (hw : (st.map fun v => v.category).sum ≤ 8) (nx : V g k j (pc + 3) ls (r.toList ++ st) M1) : V g k j pc ls stk M :=
  v_callW hM hd hl hR (rec_obj hs hq) hst hn hw nx
