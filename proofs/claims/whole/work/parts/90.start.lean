/-! FROM THE LAW'S ENTRY TO ITS LOOP -/
def adF (l : List Nat) (kS vS : Nat → Nat) (fm b : Nat) : Nat → Nat := fun c => if c < 60 then l.getD c 0 else if c < 130 then kS (c - 100) else if c < 150 then vS (c - 130) else if c = 150 then fm else b
def tmS (i : Nat) : Term := Term.string (strL.getD i ("", 0, "")).1 (strL.getD i ("", 0, "")).2.1
theorem tw_hts {args : Array Value} {s : State} (h : ∀ w ∈ lw_tbl, w.before args s = true) : ∀ w ∈ Tw, w.before args s = true := fun w hw => h w (List.mem_filter.mp hw).1
set_option maxRecDepth 100000 in
set_option maxHeartbeats 4000000 in
theorem start_K {s : State} {args : Array Value} (l : Launch) (hts : ∀ w ∈ lw_tbl, w.before args s = true) : ∃ (D : va_G) (ca : Nat → ClassId), KN l D ca s := by
  have ht := tw_hts hts
  obtain ⟨c0, i0, h0⟩ := u_known (C := RX0) (T := TX0) (N := 5) (n := 5) ht (cls_in 0 _ rfl) (ht _ (tw_of (i := 26) (by decide +kernel) (by decide +kernel)))
  obtain ⟨c1, i1, h1⟩ := u_known (C := RX1) (T := TX1) (N := 3) (n := 3) ht (cls_in 1 _ rfl) (ht _ (tw_of (i := 112) (by decide +kernel) (by decide +kernel)))
  obtain ⟨c2, i2, h2⟩ := u_known (C := RX2) (T := TX2) (N := 6) (n := 6) ht (cls_in 2 _ rfl) (ht _ (tw_of (i := 82) (by decide +kernel) (by decide +kernel)))
  obtain ⟨c3, i3, h3⟩ := u_known (C := RX4) (T := TX4) (N := 4) (n := 4) ht (cls_in 3 _ rfl) (ht _ (tw_of (i := 33) (by decide +kernel) (by decide +kernel)))
  obtain ⟨c4, i4, h4⟩ := u_known (C := RX5) (T := TX5) (N := 12) (n := 12) ht (cls_in 4 _ rfl) (ht _ (tw_of (i := 18) (by decide +kernel) (by decide +kernel)))
  obtain ⟨c5, i5, h5⟩ := u_known (C := RX6) (T := TX6) (N := 17) (n := 17) ht (cls_in 5 _ rfl) (ht _ (tw_of (i := 744) (by decide +kernel) (by decide +kernel)))
  obtain ⟨cI, kI, pI, q1, q2, q3⟩ := Cond.arrayClass_spec (ht _ wa_int)
  obtain ⟨cJ, kJ, pJ, r1, r2, r3⟩ := Cond.arrayClass_spec (ht _ wa_long)
  have ao1 : va_AO "BentPlain$Walker" s := va_AO.of (hts (.arrayOver (.object "BentPlain$Walker")) (List.mem_append_right _ (List.mem_of_getElem? (i := 32) (by decide +kernel))))
  have ao2 : va_AO "BentPlain$Sheet" s := va_AO.of (hts (.arrayOver (.object "BentPlain$Sheet")) (List.mem_append_right _ (List.mem_of_getElem? (i := 111) (by decide +kernel))))
  obtain ⟨pW, cW, kW, u1, u2, u3, u4, u5⟩ := Cond.arrayOver_spec ao1
  obtain ⟨pS, cS, kS, v1, v2, v3, v4, v5⟩ := Cond.arrayOver_spec ao2
  refine ⟨(fun k => [c0, c1, c2, c3, c4, c5].getD k c0, fun k => [i0, i1, i2, i3, i4, i5].getD k i0), fun k => [cI, cJ, cW, cS].getD k cI, ⟨fun k q hq => ?_, fun k q hq => ?_⟩, fun q hq => ?_, ao1, ao2⟩
  · match k, hq with
    | 0, hq => cases hq; exact h0
    | 1, hq => cases hq; exact h1
    | 2, hq => cases hq; exact h2
    | 3, hq => cases hq; exact h3
    | 4, hq => cases hq; exact h4
    | 5, hq => cases hq; exact h5
    | k + 6, hq => simp [vwCl] at hq
  · match k, hq with
    | 0, hq => cases hq; exact ⟨fun n z => ⟨fun k h => (by cases h), kI, q2, pI, q3⟩, q1⟩
    | 1, hq => cases hq; exact ⟨fun n z => ⟨fun k h => (by cases h), kJ, r2, pJ, r3⟩, r1⟩
    | 2, hq => cases hq; exact ⟨fun n z => ⟨fun k h => (by cases h), kW, u3, pW, u4⟩, kW, pW, u3, u4, u1, u5⟩
    | 3, hq => cases hq; exact ⟨fun n z => ⟨fun k h => (by cases h), kS, v3, pS, v4⟩, kS, pS, v3, v4, v1, v5⟩
    | k + 4, hq => simp [tysOf] at hq
  · have h : ∀ q ∈ nestL, Cond.methodLinkNest q.1 q.2.1 q.2.2.1 q.2.2.2 ∈ lw_tbl := by decide +kernel
    exact va_Nw.of rfl (hts _ (h q hq))
set_option maxRecDepth 100000 in
theorem k6_1 : ∀ i, i < 1 → Cond.not (Cond.eq (tmS i) (tmS 1)) ∈ flatC (Jvm.Cond.and given_1 narrow_1) := by decide +kernel
set_option maxRecDepth 100000 in
theorem k6_2 : ∀ i, i < 2 → Cond.not (Cond.eq (tmS i) (tmS 2)) ∈ flatC (Jvm.Cond.and given_1 narrow_1) := by decide +kernel
set_option maxRecDepth 100000 in
theorem k6_3 : ∀ i, i < 3 → Cond.not (Cond.eq (tmS i) (tmS 3)) ∈ flatC (Jvm.Cond.and given_1 narrow_1) := by decide +kernel
set_option maxRecDepth 100000 in
theorem k6_4 : ∀ i, i < 4 → Cond.not (Cond.eq (tmS i) (tmS 4)) ∈ flatC (Jvm.Cond.and given_1 narrow_1) := by decide +kernel
set_option maxRecDepth 100000 in
theorem k6_5 : ∀ i, i < 5 → Cond.not (Cond.eq (tmS i) (tmS 5)) ∈ flatC (Jvm.Cond.and given_1 narrow_1) := by decide +kernel
set_option maxRecDepth 100000 in
theorem k6_6 : ∀ i, i < 6 → Cond.not (Cond.eq (tmS i) (tmS 6)) ∈ flatC (Jvm.Cond.and given_1 narrow_1) := by decide +kernel
set_option maxRecDepth 100000 in
theorem k6_7 : ∀ i, i < 7 → Cond.not (Cond.eq (tmS i) (tmS 7)) ∈ flatC (Jvm.Cond.and given_1 narrow_1) := by decide +kernel
set_option maxRecDepth 100000 in
theorem k6_8 : ∀ i, i < 8 → Cond.not (Cond.eq (tmS i) (tmS 8)) ∈ flatC (Jvm.Cond.and given_1 narrow_1) := by decide +kernel
set_option maxRecDepth 100000 in
theorem k6_9 : ∀ i, i < 9 → Cond.not (Cond.eq (tmS i) (tmS 9)) ∈ flatC (Jvm.Cond.and given_1 narrow_1) := by decide +kernel
set_option maxRecDepth 100000 in
theorem k6_10 : ∀ i, i < 10 → Cond.not (Cond.eq (tmS i) (tmS 10)) ∈ flatC (Jvm.Cond.and given_1 narrow_1) := by decide +kernel
set_option maxRecDepth 100000 in
theorem k6_11 : ∀ i, i < 11 → Cond.not (Cond.eq (tmS i) (tmS 11)) ∈ flatC (Jvm.Cond.and given_1 narrow_1) := by decide +kernel
set_option maxRecDepth 100000 in
theorem k6_12 : ∀ i, i < 12 → Cond.not (Cond.eq (tmS i) (tmS 12)) ∈ flatC (Jvm.Cond.and given_1 narrow_1) := by decide +kernel
set_option maxRecDepth 100000 in
theorem k6_13 : ∀ i, i < 13 → Cond.not (Cond.eq (tmS i) (tmS 13)) ∈ flatC (Jvm.Cond.and given_1 narrow_1) := by decide +kernel
set_option maxRecDepth 100000 in
theorem k6_14 : ∀ i, i < 14 → Cond.not (Cond.eq (tmS i) (tmS 14)) ∈ flatC (Jvm.Cond.and given_1 narrow_1) := by decide +kernel
set_option maxRecDepth 100000 in
set_option maxHeartbeats 4000000 in
theorem start_S {s : State} {args : Array Value} (hts : ∀ w ∈ lw_tbl, w.before args s = true) (hgv : (Jvm.Cond.and given_1 narrow_1).before args s = true) : ∃ (aK aV : Nat → Nat) (fm : Nat), vk_S 15 lenL bytL aK aV (fun q => s.heap.size ≤ q) s s.heap ∧ (∀ i q, strL[i]? = some q → vk_R q.1 q.2.1 q.2.2 (aK i) s) ∧ va_Z "java/lang/String" "COMPACT_STRINGS" "Z" (.int 1) (fun q => s.heap.size ≤ q) s s.heap ∧ (va_Z "jdk/internal/util/Preconditions" "SIOOBE_FORMATTER" "Ljava/util/function/BiFunction;" .null (fun q => s.heap.size ≤ q) s s.heap ∨ va_Z "jdk/internal/util/Preconditions" "SIOOBE_FORMATTER" "Ljava/util/function/BiFunction;" (.ref fm) (fun q => s.heap.size ≤ q) s s.heap) := by
  have hs := flat_of_before _ hgv
  have ht := tw_hts hts
  have hA : ∀ a : Nat, a < s.heap.size → ¬ (fun q => s.heap.size ≤ q) a := fun a h => Nat.not_le.mpr h
  have k1 : ∀ i, i < 15 → Cond.exactly (tmS i) "java/lang/String" ∈ flatC (Jvm.Cond.and given_1 narrow_1) := by decide +kernel
  have k2 : ∀ i, i < 15 → Cond.eq (.field (tmS i) "java/lang/String" "coder" "B") (.int 0) ∈ flatC (Jvm.Cond.and given_1 narrow_1) := by decide +kernel
  have k3 : ∀ i, i < 15 → Cond.arrayOf (.field (tmS i) "java/lang/String" "value" "[B") .byte ∈ flatC (Jvm.Cond.and given_1 narrow_1) := by decide +kernel
  have k4 : ∀ i, i < 15 → Cond.eq (.length (.field (tmS i) "java/lang/String" "value" "[B")) (.int (Int32.ofNat (lenL.getD i 0))) ∈ flatC (Jvm.Cond.and given_1 narrow_1) := by decide +kernel
  have k5 : ∀ i, i < 15 → ∀ j, j < lenL.getD i 0 → Cond.eq (.elem (.field (tmS i) "java/lang/String" "value" "[B") (.int (Int32.ofNat j))) (.int ((bytL.getD i []).getD j 0)) ∈ flatC (Jvm.Cond.and given_1 narrow_1) := by decide +kernel
  have k6 : ∀ j, j < 15 → ∀ i, i < j → Cond.not (Cond.eq (tmS i) (tmS j)) ∈ flatC (Jvm.Cond.and given_1 narrow_1) := fun j hj => match j, hj with
    | 0, _ => fun i h => absurd h (by omega)
    | 1, _ => k6_1
    | 2, _ => k6_2
    | 3, _ => k6_3
    | 4, _ => k6_4
    | 5, _ => k6_5
    | 6, _ => k6_6
    | 7, _ => k6_7
    | 8, _ => k6_8
    | 9, _ => k6_9
    | 10, _ => k6_10
    | 11, _ => k6_11
    | 12, _ => k6_12
    | 13, _ => k6_13
    | 14, _ => k6_14
    | n + 15, h => absurd h (by omega)
  obtain ⟨aK, aV, hv, he⟩ := vk_Sof (tm := tmS) (N := 15) (len := lenL) (byt := bytL) (A := fun q => s.heap.size ≤ q) lenL_lt (fun i hi => hs _ (k1 i hi)) (fun i hi => hs _ (k2 i hi)) (fun i hi => hs _ (k3 i hi)) (fun i hi => hs _ (k4 i hi)) (fun i hi j hj => hs _ (k5 i hi j hj)) (fun i j hi hj hne => (Nat.lt_or_gt_of_ne hne).elim (fun h => Or.inl (hs _ (k6 j hj i h))) (fun h => Or.inr (hs _ (k6 i hi j h)))) hA
  have hz1 : va_Z "java/lang/String" "COMPACT_STRINGS" "Z" (.int 1) (fun q => s.heap.size ≤ q) s s.heap := va_Zof (args := args) (hts _ (List.mem_append_right _ (List.mem_of_getElem? (i := 569) (by decide +kernel)))) (ht _ (tw_of (i := 13) (by decide +kernel) (by decide +kernel))) (va_eqi (hs (Cond.eq (.static "java/lang/String" "COMPACT_STRINGS" "Z") (.int 1)) (by decide +kernel))) hA
  have hz2 : va_Zq "jdk/internal/util/Preconditions" "SIOOBE_FORMATTER" "Ljava/util/function/BiFunction;" (fun q => s.heap.size ≤ q) s s.heap := va_Zqof (args := args) (hts _ (List.mem_append_right _ (List.mem_of_getElem? (i := 585) (by decide +kernel)))) (ht _ (tw_of (i := 15) (by decide +kernel) (by decide +kernel))) (hs (Cond.isRef (.static "jdk/internal/util/Preconditions" "SIOOBE_FORMATTER" "Ljava/util/function/BiFunction;")) (by decide +kernel)) hA
  have hR : ∀ i q, strL[i]? = some q → vk_R q.1 q.2.1 q.2.2 (aK i) s := by
    intro i q hq
    have hi : i < 15 := (List.getElem?_eq_some_iff.mp hq).1
    have e1 : strL.getD i ("", 0, "") = q := by rw [List.getD_eq_getElem?_getD, hq]; rfl
    have h1 := he i hi
    unfold tmS at h1
    rw [e1] at h1
    have hm : ∀ q ∈ strL, Cond.stringRef q.1 q.2.1 q.2.2 ∈ lw_tbl := by decide +kernel
    exact vk_R.of (hts _ (hm q (List.mem_of_getElem? hq))) h1
  rcases hz2 with h | ⟨t, h⟩
  · exact ⟨aK, aV, 0, hv, hR, hz1, Or.inl h⟩
  · exact ⟨aK, aV, t, hv, hR, hz1, Or.inr h⟩
def w60 (ca : Nat → ClassId) (b0 a1 a2 a3 a4 a5 a6 a7 a8 a9 a10 a11 a12 a13 a14 a15 a16 a17 a18 a19 a20 a21 a22 a23 a24 a25 a26 a27 a28 a29 a30 a31 a32 a33 a34 a35 a36 a37 a38 a39 a40 a41 a42 a43 a44 a45 a46 a47 b1 e1 e2 e3 e4 e5 e6 e7 e8 e9 e10 e11 : Nat) : va_W := [(b0, .inr (4, [.ref a1, .ref a11, .ref a21, .ref a31, .ref a32, .ref a33, .ref a34, .ref a35, .ref a36, .ref a38, .ref a39, .int 0])), (a1, .inr (0, [.int 0, .int 0, .ref a2, .ref a3, .ref a4])), (a2, .inl (ca 2, 6, .inr (.inr (.inr (.inr (va_up (va_up (va_up (va_up (va_up (va_up (fun _ => none) 0 (some a5)) 1 (some a6)) 2 (some a7)) 3 (some a8)) 4 (some a9)) 5 (some a10))))))), (a3, .inl (ca 0, 16, .inl (fun _ => 0))), (a4, .inl (ca 0, 64, .inl (fun _ => 0))), (a5, .inr (3, [.int 0, .int 0, .int 0, .int 0])), (a6, .inr (3, [.int 0, .int 0, .int 0, .int 0])), (a7, .inr (3, [.int 0, .int 0, .int 0, .int 0])), (a8, .inr (3, [.int 0, .int 0, .int 0, .int 0])), (a9, .inr (3, [.int 0, .int 0, .int 0, .int 0])), (a10, .inr (3, [.int 0, .int 0, .int 0, .int 0])), (a11, .inr (0, [.int 0, .int 0, .ref a12, .ref a13, .ref a14])), (a12, .inl (ca 2, 6, .inr (.inr (.inr (.inr (va_up (va_up (va_up (va_up (va_up (va_up (fun _ => none) 0 (some a15)) 1 (some a16)) 2 (some a17)) 3 (some a18)) 4 (some a19)) 5 (some a20))))))), (a13, .inl (ca 0, 16, .inl (fun _ => 0))), (a14, .inl (ca 0, 64, .inl (fun _ => 0))), (a15, .inr (3, [.int 0, .int 0, .int 0, .int 0])), (a16, .inr (3, [.int 0, .int 0, .int 0, .int 0])), (a17, .inr (3, [.int 0, .int 0, .int 0, .int 0])), (a18, .inr (3, [.int 0, .int 0, .int 0, .int 0])), (a19, .inr (3, [.int 0, .int 0, .int 0, .int 0])), (a20, .inr (3, [.int 0, .int 0, .int 0, .int 0])), (a21, .inr (0, [.int 0, .int 0, .ref a22, .ref a23, .ref a24])), (a22, .inl (ca 2, 6, .inr (.inr (.inr (.inr (va_up (va_up (va_up (va_up (va_up (va_up (fun _ => none) 0 (some a25)) 1 (some a26)) 2 (some a27)) 3 (some a28)) 4 (some a29)) 5 (some a30))))))), (a23, .inl (ca 0, 16, .inl (fun _ => 0))), (a24, .inl (ca 0, 64, .inl (fun _ => 0))), (a25, .inr (3, [.int 0, .int 0, .int 0, .int 0])), (a26, .inr (3, [.int 0, .int 0, .int 0, .int 0])), (a27, .inr (3, [.int 0, .int 0, .int 0, .int 0])), (a28, .inr (3, [.int 0, .int 0, .int 0, .int 0])), (a29, .inr (3, [.int 0, .int 0, .int 0, .int 0])), (a30, .inr (3, [.int 0, .int 0, .int 0, .int 0])), (a31, .inr (3, [.int 0, .int 0, .int 0, .int 0])), (a32, .inr (3, [.int 0, .int 0, .int 0, .int 0])), (a33, .inl (ca 0, 16, .inl (fun _ => 0))), (a34, .inl (ca 0, 16, .inl (fun _ => 0))), (a35, .inl (ca 0, 64, .inl (fun _ => 0))), (a36, .inr (2, [.int 0, .int 0, .int 0, .int 0, .int 0, .ref a37])), (a37, .inl (ca 0, 120, .inl (fun _ => 0))), (a38, .inl (ca 3, 4, .inr (.inr (.inr (.inr (va_up (va_up (va_up (va_up (fun _ => none) 0 (some a40)) 1 (some a42)) 2 (some a44)) 3 (some a46))))))), (a39, .inl (ca 0, 7, .inl (fun _ => 0))), (a40, .inr (1, [.int 0, .int 0, .ref a41])), (a41, .inl (ca 1, 40, .inr (.inl (fun _ => 0)))), (a42, .inr (1, [.int 0, .int 0, .ref a43])), (a43, .inl (ca 1, 40, .inr (.inl (fun _ => 0)))), (a44, .inr (1, [.int 0, .int 0, .ref a45])), (a45, .inl (ca 1, 40, .inr (.inl (fun _ => 0)))), (a46, .inr (1, [.int 0, .int 0, .ref a47])), (a47, .inl (ca 1, 40, .inr (.inl (fun _ => 0)))), (b1, .inr (5, [.ref e1, .ref e2, .ref e3, .ref e4, .ref e5, .int 0, .ref e6, .ref e7, .int 0, .int 0, .int 0, .int 0, .int 0, .ref e8, .ref e9, .ref e10, .ref e11])), (e1, .inl (ca 0, 112, .inl (fun _ => 0))), (e2, .inl (ca 0, 112, .inl (fun _ => 0))), (e3, .inl (ca 0, 112, .inl (fun _ => 0))), (e4, .inl (ca 0, 112, .inl (fun _ => 0))), (e5, .inl (ca 0, 7, .inl (fun _ => 0))), (e6, .inl (ca 0, 64, .inl (fun _ => 0))), (e7, .inl (ca 0, 120, .inl (fun _ => 0))), (e8, .inl (ca 0, 4, .inl (fun _ => 0))), (e9, .inl (ca 0, 4, .inl (fun _ => 0))), (e10, .inl (ca 1, 160, .inr (.inl (fun _ => 0)))), (e11, .inl (ca 1, 40, .inr (.inl (fun _ => 0))))]
theorem adF_lt {l : List Nat} {kS vS : Nat → Nat} {fm b c : Nat} (h : c < 60) : adF l kS vS fm b c = l.getD c 0 := if_pos h
theorem adF_k {l : List Nat} {kS vS : Nat → Nat} {fm b i : Nat} (h : i < 15) : adF l kS vS fm b (100 + i) = kS i := by
  unfold adF
  rw [if_neg (by omega), if_pos (by omega), Nat.add_sub_cancel_left]
theorem adF_v {l : List Nat} {kS vS : Nat → Nat} {fm b i : Nat} (h : i < 15) : adF l kS vS fm b (130 + i) = vS i := by
  unfold adF
  rw [if_neg (by omega), if_neg (by omega), if_pos (by omega), Nat.add_sub_cancel_left]
theorem up6 (f : Nat → Nat) (a b c d e g : Nat) (x0 x1 x2 x3 x4 x5 : Nat) (h0 : f a = x0) (h1 : f b = x1) (h2 : f c = x2) (h3 : f d = x3) (h4 : f e = x4) (h5 : f g = x5) : (va_up (va_up (va_up (va_up (va_up (va_up (fun _ => none) 0 (some x0)) 1 (some x1)) 2 (some x2)) 3 (some x3)) 4 (some x4)) 5 (some x5)) = fun j => (([some a, some b, some c, some d, some e, some g] : List (Option Nat)).getD j none).map f := by
  subst h0 h1 h2 h3 h4 h5
  funext j
  match j with
  | 0 => rfl
  | 1 => rfl
  | 2 => rfl
  | 3 => rfl
  | 4 => rfl
  | 5 => rfl
  | j + 6 => simp [va_up]
theorem up4 (f : Nat → Nat) (a b c d : Nat) (x0 x1 x2 x3 : Nat) (h0 : f a = x0) (h1 : f b = x1) (h2 : f c = x2) (h3 : f d = x3) : (va_up (va_up (va_up (va_up (fun _ => none) 0 (some x0)) 1 (some x1)) 2 (some x2)) 3 (some x3)) = fun j => (([some a, some b, some c, some d] : List (Option Nat)).getD j none).map f := by
  subst h0 h1 h2 h3
  funext j
  match j with
  | 0 => rfl
  | 1 => rfl
  | 2 => rfl
  | 3 => rfl
  | j + 4 => simp [va_up]
set_option maxRecDepth 100000 in
set_option maxHeartbeats 4000000 in
theorem w60_P {l : Launch} {D : va_G} {ca : Nat → ClassId} {b0 a1 a2 a3 a4 a5 a6 a7 a8 a9 a10 a11 a12 a13 a14 a15 a16 a17 a18 a19 a20 a21 a22 a23 a24 a25 a26 a27 a28 a29 a30 a31 a32 a33 a34 a35 a36 a37 a38 a39 a40 a41 a42 a43 a44 a45 a46 a47 b1 e1 e2 e3 e4 e5 e6 e7 e8 e9 e10 e11 fm b : Nat} {kS vS : Nat → Nat} {H : Heap} (hP : va_P D vwCl (w60 ca b0 a1 a2 a3 a4 a5 a6 a7 a8 a9 a10 a11 a12 a13 a14 a15 a16 a17 a18 a19 a20 a21 a22 a23 a24 a25 a26 a27 a28 a29 a30 a31 a32 a33 a34 a35 a36 a37 a38 a39 a40 a41 a42 a43 a44 a45 a46 a47 b1 e1 e2 e3 e4 e5 e6 e7 e8 e9 e10 e11) H) : Pd (l, D, adF [b0, a1, a2, a5, a6, a7, a8, a9, a10, a3, a4, a11, a12, a15, a16, a17, a18, a19, a20, a13, a14, a21, a22, a25, a26, a27, a28, a29, a30, a23, a24, a31, a32, a33, a34, a35, a36, a37, e11, a38, a40, a41, a42, a43, a44, a45, a46, a47, a39, b1, e1, e2, e3, e4, e5, e6, e7, e8, e9, e10] kS vS fm b, ca) M0 H := by
  have hc : ∀ c, c < 60 → va_at D vwCl (adF [b0, a1, a2, a5, a6, a7, a8, a9, a10, a3, a4, a11, a12, a15, a16, a17, a18, a19, a20, a13, a14, a21, a22, a25, a26, a27, a28, a29, a30, a23, a24, a31, a32, a33, a34, a35, a36, a37, e11, a38, a40, a41, a42, a43, a44, a45, a46, a47, a39, b1, e1, e2, e3, e4, e5, e6, e7, e8, e9, e10] kS vS fm b c, cellE (l, D, adF [b0, a1, a2, a5, a6, a7, a8, a9, a10, a3, a4, a11, a12, a15, a16, a17, a18, a19, a20, a13, a14, a21, a22, a25, a26, a27, a28, a29, a30, a23, a24, a31, a32, a33, a34, a35, a36, a37, e11, a38, a40, a41, a42, a43, a44, a45, a46, a47, a39, b1, e1, e2, e3, e4, e5, e6, e7, e8, e9, e10] kS vS fm b, ca) M0 c) H := fun c hc => match c, hc with
    | 0, _ => hP 0 _ rfl
    | 1, _ => hP 1 _ rfl
    | 2, _ => by
      have h := hP 2 _ rfl
      rw [up6 (adF [b0, a1, a2, a5, a6, a7, a8, a9, a10, a3, a4, a11, a12, a15, a16, a17, a18, a19, a20, a13, a14, a21, a22, a25, a26, a27, a28, a29, a30, a23, a24, a31, a32, a33, a34, a35, a36, a37, e11, a38, a40, a41, a42, a43, a44, a45, a46, a47, a39, b1, e1, e2, e3, e4, e5, e6, e7, e8, e9, e10] kS vS fm b) 3 4 5 6 7 8 a5 a6 a7 a8 a9 a10 rfl rfl rfl rfl rfl rfl] at h
      exact h
    | 3, _ => hP 5 _ rfl
    | 4, _ => hP 6 _ rfl
    | 5, _ => hP 7 _ rfl
    | 6, _ => hP 8 _ rfl
    | 7, _ => hP 9 _ rfl
    | 8, _ => hP 10 _ rfl
    | 9, _ => hP 3 _ rfl
    | 10, _ => hP 4 _ rfl
    | 11, _ => hP 11 _ rfl
    | 12, _ => by
      have h := hP 12 _ rfl
      rw [up6 (adF [b0, a1, a2, a5, a6, a7, a8, a9, a10, a3, a4, a11, a12, a15, a16, a17, a18, a19, a20, a13, a14, a21, a22, a25, a26, a27, a28, a29, a30, a23, a24, a31, a32, a33, a34, a35, a36, a37, e11, a38, a40, a41, a42, a43, a44, a45, a46, a47, a39, b1, e1, e2, e3, e4, e5, e6, e7, e8, e9, e10] kS vS fm b) 13 14 15 16 17 18 a15 a16 a17 a18 a19 a20 rfl rfl rfl rfl rfl rfl] at h
      exact h
    | 13, _ => hP 15 _ rfl
    | 14, _ => hP 16 _ rfl
    | 15, _ => hP 17 _ rfl
    | 16, _ => hP 18 _ rfl
    | 17, _ => hP 19 _ rfl
    | 18, _ => hP 20 _ rfl
    | 19, _ => hP 13 _ rfl
    | 20, _ => hP 14 _ rfl
    | 21, _ => hP 21 _ rfl
    | 22, _ => by
      have h := hP 22 _ rfl
      rw [up6 (adF [b0, a1, a2, a5, a6, a7, a8, a9, a10, a3, a4, a11, a12, a15, a16, a17, a18, a19, a20, a13, a14, a21, a22, a25, a26, a27, a28, a29, a30, a23, a24, a31, a32, a33, a34, a35, a36, a37, e11, a38, a40, a41, a42, a43, a44, a45, a46, a47, a39, b1, e1, e2, e3, e4, e5, e6, e7, e8, e9, e10] kS vS fm b) 23 24 25 26 27 28 a25 a26 a27 a28 a29 a30 rfl rfl rfl rfl rfl rfl] at h
      exact h
    | 23, _ => hP 25 _ rfl
    | 24, _ => hP 26 _ rfl
    | 25, _ => hP 27 _ rfl
    | 26, _ => hP 28 _ rfl
    | 27, _ => hP 29 _ rfl
    | 28, _ => hP 30 _ rfl
    | 29, _ => hP 23 _ rfl
    | 30, _ => hP 24 _ rfl
    | 31, _ => hP 31 _ rfl
    | 32, _ => hP 32 _ rfl
    | 33, _ => hP 33 _ rfl
    | 34, _ => hP 34 _ rfl
    | 35, _ => hP 35 _ rfl
    | 36, _ => hP 36 _ rfl
    | 37, _ => hP 37 _ rfl
    | 38, _ => hP 59 _ rfl
    | 39, _ => by
      have h := hP 38 _ rfl
      rw [up4 (adF [b0, a1, a2, a5, a6, a7, a8, a9, a10, a3, a4, a11, a12, a15, a16, a17, a18, a19, a20, a13, a14, a21, a22, a25, a26, a27, a28, a29, a30, a23, a24, a31, a32, a33, a34, a35, a36, a37, e11, a38, a40, a41, a42, a43, a44, a45, a46, a47, a39, b1, e1, e2, e3, e4, e5, e6, e7, e8, e9, e10] kS vS fm b) 40 42 44 46 a40 a42 a44 a46 rfl rfl rfl rfl] at h
      exact h
    | 40, _ => hP 40 _ rfl
    | 41, _ => hP 41 _ rfl
    | 42, _ => hP 42 _ rfl
    | 43, _ => hP 43 _ rfl
    | 44, _ => hP 44 _ rfl
    | 45, _ => hP 45 _ rfl
    | 46, _ => hP 46 _ rfl
    | 47, _ => hP 47 _ rfl
    | 48, _ => hP 39 _ rfl
    | 49, _ => hP 48 _ rfl
    | 50, _ => hP 49 _ rfl
    | 51, _ => hP 50 _ rfl
    | 52, _ => hP 51 _ rfl
    | 53, _ => hP 52 _ rfl
    | 54, _ => hP 53 _ rfl
    | 55, _ => hP 54 _ rfl
    | 56, _ => hP 55 _ rfl
    | 57, _ => hP 56 _ rfl
    | 58, _ => hP 57 _ rfl
    | 59, _ => hP 58 _ rfl
    | n + 60, h => absurd h (by omega)
  intro k q hk
  have hl : k < 60 := by have := (List.getElem?_eq_some_iff.mp hk).1; simpa [wsOf] using this
  rw [ws_at _ M0 hl] at hk
  cases hk
  exact hc k hl
def piL : List Nat := [0, 1, 2, 5, 6, 7, 8, 9, 10, 3, 4, 11, 12, 15, 16, 17, 18, 19, 20, 13, 14, 21, 22, 25, 26, 27, 28, 29, 30, 23, 24, 31, 32, 33, 34, 35, 36, 37, 59, 38, 40, 41, 42, 43, 44, 45, 46, 47, 39, 48, 49, 50, 51, 52, 53, 54, 55, 56, 57, 58]
set_option maxRecDepth 100000 in
set_option maxHeartbeats 4000000 in
theorem w60_D {A : Nat → Prop} {ca : Nat → ClassId} {b0 a1 a2 a3 a4 a5 a6 a7 a8 a9 a10 a11 a12 a13 a14 a15 a16 a17 a18 a19 a20 a21 a22 a23 a24 a25 a26 a27 a28 a29 a30 a31 a32 a33 a34 a35 a36 a37 a38 a39 a40 a41 a42 a43 a44 a45 a46 a47 b1 e1 e2 e3 e4 e5 e6 e7 e8 e9 e10 e11 fm b : Nat} {kS vS : Nat → Nat} (hD : va_D A (w60 ca b0 a1 a2 a3 a4 a5 a6 a7 a8 a9 a10 a11 a12 a13 a14 a15 a16 a17 a18 a19 a20 a21 a22 a23 a24 a25 a26 a27 a28 a29 a30 a31 a32 a33 a34 a35 a36 a37 a38 a39 a40 a41 a42 a43 a44 a45 a46 a47 b1 e1 e2 e3 e4 e5 e6 e7 e8 e9 e10 e11)) : (∀ a c, a < 60 → c < 60 → adF [b0, a1, a2, a5, a6, a7, a8, a9, a10, a3, a4, a11, a12, a15, a16, a17, a18, a19, a20, a13, a14, a21, a22, a25, a26, a27, a28, a29, a30, a23, a24, a31, a32, a33, a34, a35, a36, a37, e11, a38, a40, a41, a42, a43, a44, a45, a46, a47, a39, b1, e1, e2, e3, e4, e5, e6, e7, e8, e9, e10] kS vS fm b a = adF [b0, a1, a2, a5, a6, a7, a8, a9, a10, a3, a4, a11, a12, a15, a16, a17, a18, a19, a20, a13, a14, a21, a22, a25, a26, a27, a28, a29, a30, a23, a24, a31, a32, a33, a34, a35, a36, a37, e11, a38, a40, a41, a42, a43, a44, a45, a46, a47, a39, b1, e1, e2, e3, e4, e5, e6, e7, e8, e9, e10] kS vS fm b c → a = c) ∧ ∀ c, c < 60 → A (adF [b0, a1, a2, a5, a6, a7, a8, a9, a10, a3, a4, a11, a12, a15, a16, a17, a18, a19, a20, a13, a14, a21, a22, a25, a26, a27, a28, a29, a30, a23, a24, a31, a32, a33, a34, a35, a36, a37, e11, a38, a40, a41, a42, a43, a44, a45, a46, a47, a39, b1, e1, e2, e3, e4, e5, e6, e7, e8, e9, e10] kS vS fm b c) := by
  have key : ∀ c, c < 60 → ∃ e, (w60 ca b0 a1 a2 a3 a4 a5 a6 a7 a8 a9 a10 a11 a12 a13 a14 a15 a16 a17 a18 a19 a20 a21 a22 a23 a24 a25 a26 a27 a28 a29 a30 a31 a32 a33 a34 a35 a36 a37 a38 a39 a40 a41 a42 a43 a44 a45 a46 a47 b1 e1 e2 e3 e4 e5 e6 e7 e8 e9 e10 e11)[piL.getD c 0]? = some (adF [b0, a1, a2, a5, a6, a7, a8, a9, a10, a3, a4, a11, a12, a15, a16, a17, a18, a19, a20, a13, a14, a21, a22, a25, a26, a27, a28, a29, a30, a23, a24, a31, a32, a33, a34, a35, a36, a37, e11, a38, a40, a41, a42, a43, a44, a45, a46, a47, a39, b1, e1, e2, e3, e4, e5, e6, e7, e8, e9, e10] kS vS fm b c, e) := fun c hc => match c, hc with
    | 0, _ => ⟨_, rfl⟩
    | 1, _ => ⟨_, rfl⟩
    | 2, _ => ⟨_, rfl⟩
    | 3, _ => ⟨_, rfl⟩
    | 4, _ => ⟨_, rfl⟩
    | 5, _ => ⟨_, rfl⟩
    | 6, _ => ⟨_, rfl⟩
    | 7, _ => ⟨_, rfl⟩
    | 8, _ => ⟨_, rfl⟩
    | 9, _ => ⟨_, rfl⟩
    | 10, _ => ⟨_, rfl⟩
    | 11, _ => ⟨_, rfl⟩
    | 12, _ => ⟨_, rfl⟩
    | 13, _ => ⟨_, rfl⟩
    | 14, _ => ⟨_, rfl⟩
    | 15, _ => ⟨_, rfl⟩
    | 16, _ => ⟨_, rfl⟩
    | 17, _ => ⟨_, rfl⟩
    | 18, _ => ⟨_, rfl⟩
    | 19, _ => ⟨_, rfl⟩
    | 20, _ => ⟨_, rfl⟩
    | 21, _ => ⟨_, rfl⟩
    | 22, _ => ⟨_, rfl⟩
    | 23, _ => ⟨_, rfl⟩
    | 24, _ => ⟨_, rfl⟩
    | 25, _ => ⟨_, rfl⟩
    | 26, _ => ⟨_, rfl⟩
    | 27, _ => ⟨_, rfl⟩
    | 28, _ => ⟨_, rfl⟩
    | 29, _ => ⟨_, rfl⟩
    | 30, _ => ⟨_, rfl⟩
    | 31, _ => ⟨_, rfl⟩
    | 32, _ => ⟨_, rfl⟩
    | 33, _ => ⟨_, rfl⟩
    | 34, _ => ⟨_, rfl⟩
    | 35, _ => ⟨_, rfl⟩
    | 36, _ => ⟨_, rfl⟩
    | 37, _ => ⟨_, rfl⟩
    | 38, _ => ⟨_, rfl⟩
    | 39, _ => ⟨_, rfl⟩
    | 40, _ => ⟨_, rfl⟩
    | 41, _ => ⟨_, rfl⟩
    | 42, _ => ⟨_, rfl⟩
    | 43, _ => ⟨_, rfl⟩
    | 44, _ => ⟨_, rfl⟩
    | 45, _ => ⟨_, rfl⟩
    | 46, _ => ⟨_, rfl⟩
    | 47, _ => ⟨_, rfl⟩
    | 48, _ => ⟨_, rfl⟩
    | 49, _ => ⟨_, rfl⟩
    | 50, _ => ⟨_, rfl⟩
    | 51, _ => ⟨_, rfl⟩
    | 52, _ => ⟨_, rfl⟩
    | 53, _ => ⟨_, rfl⟩
    | 54, _ => ⟨_, rfl⟩
    | 55, _ => ⟨_, rfl⟩
    | 56, _ => ⟨_, rfl⟩
    | 57, _ => ⟨_, rfl⟩
    | 58, _ => ⟨_, rfl⟩
    | 59, _ => ⟨_, rfl⟩
    | n + 60, h => absurd h (by omega)
  have hpi : ∀ a, a < 60 → ∀ c, c < 60 → piL.getD a 0 = piL.getD c 0 → a = c := by decide +kernel
  refine ⟨fun a c ha hc e => ?_, fun c hc => ?_⟩
  · obtain ⟨e1, h1⟩ := key a ha
    obtain ⟨e2, h2⟩ := key c hc
    exact hpi a ha c hc (hD.1 _ _ _ _ h1 h2 e)
  · obtain ⟨e1, h1⟩ := key c hc
    exact hD.2 _ _ h1
set_option maxRecDepth 100000 in
set_option maxHeartbeats 4000000 in
/-- THE LAW, from its entry -/
theorem whole_start {p : Program} {e : Env} {s : State} {m : MethodId} {below : List Frame} {meth : Method} {c : Code} (l : Launch) (hflags : l.flags = flags0) {b L : Nat} {xs : Nat → Int32} (hL : L ≤ 3072) (C0 : lw_At p s m meth c b L xs) : W p l e room_1 s m #[Value.ref b] below meth c s.heap [] 0 0 (lw_Z below #[Value.ref b] s) (entryFrame m ([Value.ref b] : List Value).toArray 4) := by
  obtain ⟨hx, hb, hr, hml, hown, hts, hX, hbl, hlocks, hgv⟩ := id C0
  obtain ⟨D, ca, hKN⟩ := start_K l hts
  obtain ⟨kS, vS, fm, hS1, hS2, hS3, hS4⟩ := start_S hts hgv
  have hl := lv_entry ([.ref b]) (n := 4) (Nat.le_of_ble_eq_true rfl)
  rw [lg_entry_eq]
  have hV : VN l D ca (fun q => s.heap.size ≤ q) (fun args s' => args = #[Value.ref b] ∧ s' = s) (kL_law.1, kL_law.2) room_1 0 0 (fun below args s => lw_Z below args s) 0 [some (.ref b), none, none, none] [] ([] : va_W) := by
    refine n_new (N := 12) dL_law_0 clL_7 rfl dfl_4 (Nat.le_of_ble_eq_true rfl) (Nat.le_of_ble_eq_true rfl) (fun b0 => ?_)
    refine n_dup dL_law_3 rfl ?_
    refine n_callI (as := []) (st := [.ref b0]) (nX5_init (pre := [])) dL_law_4 mlL_9 ⟨⟨Nat.le_of_ble_eq_true rfl, Nat.le_of_ble_eq_true rfl⟩, Nat.le_of_ble_eq_true rfl, Nat.le_of_ble_eq_true rfl⟩ rfl rfl (Nat.le_of_ble_eq_true rfl) (fun w1 hw1 => ?_)
    obtain ⟨a1, a2, a3, a4, a5, a6, a7, a8, a9, a10, a11, a12, a13, a14, a15, a16, a17, a18, a19, a20, a21, a22, a23, a24, a25, a26, a27, a28, a29, a30, a31, a32, a33, a34, a35, a36, a37, a38, a39, a40, a41, a42, a43, a44, a45, a46, a47, rfl⟩ := hw1
    refine n_astore_n (ls1 := [some (.ref b), some (.ref b0), none, none]) dL_law_7 (Nat.le_of_ble_eq_true rfl) rfl ?_
    refine n_new (N := 17) dL_law_8 clL_10 rfl dfl_5 (Nat.le_of_ble_eq_true rfl) (Nat.le_of_ble_eq_true rfl) (fun b1 => ?_)
    refine n_dup dL_law_11 rfl ?_
    refine n_callI (as := []) (st := [.ref b1]) nX6_init dL_law_12 mlL_12 ⟨⟨Nat.le_of_ble_eq_true rfl, Nat.le_of_ble_eq_true rfl⟩, Nat.le_of_ble_eq_true rfl, Nat.le_of_ble_eq_true rfl⟩ rfl rfl (Nat.le_of_ble_eq_true rfl) (fun w1 hw1 => ?_)
    obtain ⟨e1, e2, e3, e4, e5, e6, e7, e8, e9, e10, e11, rfl⟩ := hw1
    refine n_astore_n (ls1 := [some (.ref b), some (.ref b0), some (.ref b1), none]) dL_law_15 (Nat.le_of_ble_eq_true rfl) rfl ?_
    refine n_iconst (v := 0) dL_law_16 rfl ?_
    refine n_istore_n (ls1 := [some (.ref b), some (.ref b0), some (.ref b1), some (.int 0)]) dL_law_17 (Nat.le_of_ble_eq_true rfl) rfl ?_
    refine n_w (w1 := w60 ca b0 a1 a2 a3 a4 a5 a6 a7 a8 a9 a10 a11 a12 a13 a14 a15 a16 a17 a18 a19 a20 a21 a22 a23 a24 a25 a26 a27 a28 a29 a30 a31 a32 a33 a34 a35 a36 a37 a38 a39 a40 a41 a42 a43 a44 a45 a46 a47 b1 e1 e2 e3 e4 e5 e6 e7 e8 e9 e10 e11) rfl ?_
    intro p1 e1' s' m1 args below1 meth1 c1' H locs LS hx1 hb1 hr1 hml1 hown1 hts1 hlk1 hnm1 hE hK1 hA1 hSS hP1 hD1 hl1
    obtain ⟨rfl, rfl⟩ := hE
    obtain ⟨hi1, hi2⟩ := w60_D (fm := fm) (b := b) (kS := kS) (vS := vS) hD1
    have hgA : ∀ q, inA (l, D, adF [b0, a1, a2, a5, a6, a7, a8, a9, a10, a3, a4, a11, a12, a15, a16, a17, a18, a19, a20, a13, a14, a21, a22, a25, a26, a27, a28, a29, a30, a23, a24, a31, a32, a33, a34, a35, a36, a37, e11, a38, a40, a41, a42, a43, a44, a45, a46, a47, a39, b1, e1, e2, e3, e4, e5, e6, e7, e8, e9, e10] kS vS fm b, ca) q → s'.heap.size ≤ q := by
      rintro q ⟨c, hc, rfl⟩
      exact hi2 c hc
    have hKd : Kd (l, D, adF [b0, a1, a2, a5, a6, a7, a8, a9, a10, a3, a4, a11, a12, a15, a16, a17, a18, a19, a20, a13, a14, a21, a22, a25, a26, a27, a28, a29, a30, a23, a24, a31, a32, a33, a34, a35, a36, a37, e11, a38, a40, a41, a42, a43, a44, a45, a46, a47, a39, b1, e1, e2, e3, e4, e5, e6, e7, e8, e9, e10] kS vS fm b, ca) s' := by
      refine ⟨hK1.1, fun a c ha hc e => hi1 a c ha hc e, ?_, fun i q hq => ?_, hK1.2.1, hS3.narrow hgA, ?_⟩
      · have h := hS1.narrow hgA
        refine ⟨fun i hi => ?_, fun i j hi hj e => ?_⟩
        · show va_O _ (adF [b0, a1, a2, a5, a6, a7, a8, a9, a10, a3, a4, a11, a12, a15, a16, a17, a18, a19, a20, a13, a14, a21, a22, a25, a26, a27, a28, a29, a30, a23, a24, a31, a32, a33, a34, a35, a36, a37, e11, a38, a40, a41, a42, a43, a44, a45, a46, a47, a39, b1, e1, e2, e3, e4, e5, e6, e7, e8, e9, e10] kS vS fm b (100 + i)) _ _ _ ∧ va_OF _ _ _ _ (adF [b0, a1, a2, a5, a6, a7, a8, a9, a10, a3, a4, a11, a12, a15, a16, a17, a18, a19, a20, a13, a14, a21, a22, a25, a26, a27, a28, a29, a30, a23, a24, a31, a32, a33, a34, a35, a36, a37, e11, a38, a40, a41, a42, a43, a44, a45, a46, a47, a39, b1, e1, e2, e3, e4, e5, e6, e7, e8, e9, e10] kS vS fm b (100 + i)) _ _ _ ∧ va_OF _ _ _ (.ref (adF [b0, a1, a2, a5, a6, a7, a8, a9, a10, a3, a4, a11, a12, a15, a16, a17, a18, a19, a20, a13, a14, a21, a22, a25, a26, a27, a28, a29, a30, a23, a24, a31, a32, a33, a34, a35, a36, a37, e11, a38, a40, a41, a42, a43, a44, a45, a46, a47, a39, b1, e1, e2, e3, e4, e5, e6, e7, e8, e9, e10] kS vS fm b (130 + i))) (adF [b0, a1, a2, a5, a6, a7, a8, a9, a10, a3, a4, a11, a12, a15, a16, a17, a18, a19, a20, a13, a14, a21, a22, a25, a26, a27, a28, a29, a30, a23, a24, a31, a32, a33, a34, a35, a36, a37, e11, a38, a40, a41, a42, a43, a44, a45, a46, a47, a39, b1, e1, e2, e3, e4, e5, e6, e7, e8, e9, e10] kS vS fm b (100 + i)) _ _ _ ∧ va_T _ (adF [b0, a1, a2, a5, a6, a7, a8, a9, a10, a3, a4, a11, a12, a15, a16, a17, a18, a19, a20, a13, a14, a21, a22, a25, a26, a27, a28, a29, a30, a23, a24, a31, a32, a33, a34, a35, a36, a37, e11, a38, a40, a41, a42, a43, a44, a45, a46, a47, a39, b1, e1, e2, e3, e4, e5, e6, e7, e8, e9, e10] kS vS fm b (130 + i)) _ _ _ _ _
          rw [adF_k hi, adF_v hi]
          exact h.1 i hi
        · refine h.2 i j hi hj ?_
          have e : adF [b0, a1, a2, a5, a6, a7, a8, a9, a10, a3, a4, a11, a12, a15, a16, a17, a18, a19, a20, a13, a14, a21, a22, a25, a26, a27, a28, a29, a30, a23, a24, a31, a32, a33, a34, a35, a36, a37, e11, a38, a40, a41, a42, a43, a44, a45, a46, a47, a39, b1, e1, e2, e3, e4, e5, e6, e7, e8, e9, e10] kS vS fm b (100 + i) = adF [b0, a1, a2, a5, a6, a7, a8, a9, a10, a3, a4, a11, a12, a15, a16, a17, a18, a19, a20, a13, a14, a21, a22, a25, a26, a27, a28, a29, a30, a23, a24, a31, a32, a33, a34, a35, a36, a37, e11, a38, a40, a41, a42, a43, a44, a45, a46, a47, a39, b1, e1, e2, e3, e4, e5, e6, e7, e8, e9, e10] kS vS fm b (100 + j) := e
          rwa [adF_k hi, adF_k hj] at e
      · have hi : i < 15 := (List.getElem?_eq_some_iff.mp hq).1
        show vk_R _ _ _ (adF [b0, a1, a2, a5, a6, a7, a8, a9, a10, a3, a4, a11, a12, a15, a16, a17, a18, a19, a20, a13, a14, a21, a22, a25, a26, a27, a28, a29, a30, a23, a24, a31, a32, a33, a34, a35, a36, a37, e11, a38, a40, a41, a42, a43, a44, a45, a46, a47, a39, b1, e1, e2, e3, e4, e5, e6, e7, e8, e9, e10] kS vS fm b (100 + i)) _
        rw [adF_k hi]
        exact hS2 i q hq
      · rcases hS4 with h | h
        · exact Or.inl (h.narrow hgA)
        · exact Or.inr (h.narrow hgA)
    refine va_forget (fun q hq => hSS.2.2 q hq) ?_
    refine W.widen (k := 60) (n := 1634) (Nat.le_of_ble_eq_true rfl) (Nat.le_of_ble_eq_true rfl) ?_
    have hloop := law_loop (g := (l, D, adF [b0, a1, a2, a5, a6, a7, a8, a9, a10, a3, a4, a11, a12, a15, a16, a17, a18, a19, a20, a13, a14, a21, a22, a25, a26, a27, a28, a29, a30, a23, a24, a31, a32, a33, a34, a35, a36, a37, e11, a38, a40, a41, a42, a43, a44, a45, a46, a47, a39, b1, e1, e2, e3, e4, e5, e6, e7, e8, e9, e10] kS vS fm b, ca)) (xs := xs) hL 513 0 M0 (by omega) (by omega) Inv_zero
    refine hloop p1 e1' s' m1 _ below1 meth1 c1' H [] LS ⟨hx1, hb1, hr1, hml1, hown1, hts1, hlk1, hKd⟩ ⟨rfl, hX, hbl, hgA⟩ ⟨hSS.1, fun q h1 h2 => hSS.2.1 q h1 (Nat.not_le.mpr h1), fun q hq => by cases hq⟩ (w60_P hP1) hl1
  refine hV p e s m _ below meth c s.heap [] _ hx hb hr hml hown (tw_hts hts) hlocks (fun h => absurd h (by decide)) ⟨rfl, rfl⟩ hKN (fun q h => h) va_S.rf (fun k q h => by simp at h) ⟨fun i j p q h => by simp at h, fun k q h => by simp at h⟩ ?_
  exact lvH_of hl (fun i v hi => by
    match i, hi with
    | 0, hi => cases hi; exact List.mem_cons_self
    | 1, hi => cases hi
    | 2, hi => cases hi
    | 3, hi => cases hi
    | i + 4, hi => cases hi)
