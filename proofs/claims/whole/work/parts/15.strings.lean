/-! String constants: their rules, and the JDK's methods on them -/
abbrev isT (r : Nat) : Prop := ∃ i, i < 15 ∧ r = 100 + i
theorem isT_of {i : Nat} (h : i < 15) : isT (100 + i) := ⟨i, h, rfl⟩
theorem rec_isT {g : Wo} {M : Mem} {r : Nat} (h : isT r) : ∀ (s : State) (H : Heap) (locs : List Loc), Kd g s → va_S (inA g) s.heap H locs → Pd g M H → ∃ cell : Cell, H[g.2.2.1 r]? = some cell ∧ cell.vm.isStatics = false ∧ s.vm.findClass "java/lang/String" = some cell.cls := by
  obtain ⟨i, hi, rfl⟩ := h
  exact rec_str hi
theorem wS_38 : Cond.fieldLink RJ0 38 "java/lang/String" "COMPACT_STRINGS" "Z" ∈ Tw := tw_of (i := 568) (by decide +kernel) (by decide +kernel)
theorem wS_1053 : Cond.fieldLink RJ0 1053 "jdk/internal/util/Preconditions" "SIOOBE_FORMATTER" "Ljava/util/function/BiFunction;" ∈ Tw := tw_of (i := 584) (by decide +kernel) (by decide +kernel)
theorem wS_9 : Cond.fieldLink RJ0 9 "java/lang/String" "value" "[B" ∈ Tw := tw_of (i := 1260) (by decide +kernel) (by decide +kernel)
theorem wS_15 : Cond.fieldLink RJ0 15 "java/lang/String" "coder" "B" ∈ Tw := tw_of (i := 1261) (by decide +kernel) (by decide +kernel)
section
variable {g : Wo} {k : Mth} {j : Jd} {pc idx : Nat} {ls : List (Option Value)} {st : List Value} {M : Mem} {i : Nat}
theorem v_getSv (hi : i < 15) (hd : decode k.2.1 pc = .ok (.getfield idx, 3)) (hl : Cond.fieldLink k.1.cls idx "java/lang/String" "value" "[B" ∈ Tw) (n : V g k j (pc + 3) ls (.ref (130 + i) :: st) M) : V g k j pc ls (.ref (100 + i) :: st) M := by
  intro p e s m args below meth c H locs LS C h2 h3 h4 h5
  obtain ⟨hx, hb, hr, hml, hown, hts, hlk, hK⟩ := id C
  exact vk_getf hx hb (hK.2.2.1.1 i hi).2.2.1 h3 hown (hts _ hl) (fun _ h => h) hd (n p e s m args below meth c H locs LS C h2 h3 h4 h5)
theorem v_getSc (hi : i < 15) (hd : decode k.2.1 pc = .ok (.getfield idx, 3)) (hl : Cond.fieldLink k.1.cls idx "java/lang/String" "coder" "B" ∈ Tw) (n : V g k j (pc + 3) ls (.int 0 :: st) M) : V g k j pc ls (.ref (100 + i) :: st) M := by
  intro p e s m args below meth c H locs LS C h2 h3 h4 h5
  obtain ⟨hx, hb, hr, hml, hown, hts, hlk, hK⟩ := id C
  exact vk_getf hx hb (hK.2.2.1.1 i hi).2.1 h3 hown (hts _ hl) (fun _ h => h) hd (n p e s m args below meth c H locs LS C h2 h3 h4 h5)
theorem v_blen (hi : i < 15) (hd : decode k.2.1 pc = .ok (.arraylength, 1)) (n : V g k j (pc + 1) ls (.int (Int32.ofNat (lenL.getD i 0)) :: st) M) : V g k j pc ls (.ref (130 + i) :: st) M := by
  intro p e s m args below meth c H locs LS C h2 h3 h4 h5
  obtain ⟨hx, hb, hr, hml, hown, hts, hlk, hK⟩ := id C
  exact va_tlen hx hb (hK.2.2.1.1 i hi).2.2.2 h3 rfl hd (n p e s m args below meth c H locs LS C h2 h3 h4 h5)
theorem v_bld {q : Int32} (hi : i < 15) (hd : decode k.2.1 pc = .ok (.baload, 1)) (hq : inb q (lenL.getD i 0) = true) (n : V g k j (pc + 1) ls (.int ((bytL.getD i []).getD (ix q) 0) :: st) M) : V g k j pc ls (.int q :: .ref (130 + i) :: st) M := by
  intro p e s m args below meth c H locs LS C h2 h3 h4 h5
  obtain ⟨hx, hb, hr, hml, hown, hts, hlk, hK⟩ := id C
  exact va_tb hx hb (hK.2.2.1.1 i hi).2.2.2 h3 (inb_in hq) rfl hd (n p e s m args below meth c H locs LS C h2 h3 h4 h5)
theorem v_gcs (hd : decode k.2.1 pc = .ok (.getstatic idx, 3)) (hl : Cond.fieldLink k.1.cls idx "java/lang/String" "COMPACT_STRINGS" "Z" ∈ Tw) (n : V g k j (pc + 3) ls (.int 1 :: st) M) : V g k j pc ls st M := by
  intro p e s m args below meth c H locs LS C h2 h3 h4 h5
  obtain ⟨hx, hb, hr, hml, hown, hts, hlk, hK⟩ := id C
  exact va_gets hx hb hK.2.2.2.2.2.1 h3 hown (hts _ hl) (fun _ h => h) hd (n p e s m args below meth c H locs LS C h2 h3 h4 h5)
theorem v_gfm (hd : decode k.2.1 pc = .ok (.getstatic idx, 3)) (hl : Cond.fieldLink k.1.cls idx "jdk/internal/util/Preconditions" "SIOOBE_FORMATTER" "Ljava/util/function/BiFunction;" ∈ Tw) (n : ∀ v : Value, v = .null ∨ v = .ref 150 → V g k j (pc + 3) ls (v :: st) M) : V g k j pc ls st M := by
  intro p e s m args below meth c H locs LS C h2 h3 h4 h5
  obtain ⟨hx, hb, hr, hml, hown, hts, hlk, hK⟩ := id C
  rcases hK.2.2.2.2.2.2 with hz | hz
  · exact va_gets hx hb hz h3 hown (hts _ hl) (fun _ h => h) hd (n .null (Or.inl rfl) p e s m args below meth c H locs LS C h2 h3 h4 h5)
  · exact va_gets hx hb hz h3 hown (hts _ hl) (fun _ h => h) hd (n (.ref 150) (Or.inr rfl) p e s m args below meth c H locs LS C h2 h3 h4 h5)
end
def sLen (r : Nat) : Int32 := Int32.ofNat (lenL.getD (r - 100) 0)
def sAt (r : Nat) (q : Int32) : Option Int32 := if inb q (lenL.getD (r - 100) 0) = true then some ((((bytL.getD (r - 100) []).getD (ix q) 0) &&& 255).toUInt32 % 65536).toInt32 else none
theorem lenL_lt : ∀ i, i < 15 → lenL.getD i 0 < 2 ^ 31 := by decide
theorem inb_len {i : Nat} {q : Int32} (hi : i < 15) (h : inb q (lenL.getD i 0) = true) : ¬ q < 0 ∧ q < Int32.ofNat (lenL.getD i 0) := by
  have h1 := inb_in h
  obtain ⟨k, hk, rfl⟩ := vp_in_of h1 (lenL_lt i hi)
  exact ⟨nI_pos (Nat.lt_trans hk (lenL_lt i hi)), nI_lt hk (lenL_lt i hi)⟩
set_option maxRecDepth 100000 in
theorem sJ0_coder {g : Wo} {M : Mem} {i : Nat} (hi : i < 15) : Sp g kJ0_coder_7d493 0 [.ref (100 + i)] M (some (.int 0)) M := by
  refine Sp_intro (by decide) [some (.ref (100 + i))] rfl (Nat.le_of_ble_eq_true rfl) ?_
  refine v_gcs dJ0_coder_7d493_0 wS_38 ?_
  refine v_if_eq (tgt := 13) dJ0_coder_7d493_3 rfl (fun c => absurd c (by decide)) (fun c => ?_)
  refine v_aload_n dJ0_coder_7d493_6 rfl ?_
  refine v_getSc hi dJ0_coder_7d493_7 wS_15 ?_
  refine v_goto (tgt := 14) dJ0_coder_7d493_10 rfl ?_
  exact v_zret rfl rfl dJ0_coder_7d493_14
set_option maxRecDepth 100000 in
theorem sJ0_isLatin1 {g : Wo} {M : Mem} {i : Nat} (hi : i < 15) : Sp g kJ0_isLatin1_aae02 0 [.ref (100 + i)] M (some (.int 1)) M := by
  refine Sp_intro (by decide) [some (.ref (100 + i))] rfl (Nat.le_of_ble_eq_true rfl) ?_
  refine v_gcs dJ0_isLatin1_aae02_0 wS_38 ?_
  refine v_if_eq (tgt := 17) dJ0_isLatin1_aae02_3 rfl (fun c => absurd c (by decide)) (fun c => ?_)
  refine v_aload_n dJ0_isLatin1_aae02_6 rfl ?_
  refine v_getSc hi dJ0_isLatin1_aae02_7 wS_15 ?_
  refine v_if_ne (tgt := 17) dJ0_isLatin1_aae02_10 rfl (fun c => absurd rfl c) (fun c => ?_)
  refine v_iconst (v := 1) dJ0_isLatin1_aae02_13 rfl ?_
  refine v_goto (tgt := 18) dJ0_isLatin1_aae02_14 rfl ?_
  exact v_zret rfl rfl dJ0_isLatin1_aae02_18
set_option maxRecDepth 100000 in
theorem sJ3_checkIndex {g : Wo} {M : Mem} {q n : Int32} {v : Value} (hv : v = .null ∨ v = .ref 150) (h0 : ¬ q < 0) (h1 : q < n) : Sp g kJ3_checkIndex_8e157 0 [.int q, .int n, v] M (some (.int q)) M := by
  refine Sp_intro (by decide) [some (.int q), some (.int n), some v] (by rcases hv with rfl | rfl <;> rfl) (by rcases hv with rfl | rfl <;> exact Nat.le_of_ble_eq_true rfl) ?_
  refine v_iload_n dJ3_checkIndex_8e157_0 rfl ?_
  refine v_if_lt (tgt := 9) dJ3_checkIndex_8e157_1 rfl (fun c => absurd c h0) (fun c => ?_)
  refine v_iload_n dJ3_checkIndex_8e157_4 rfl ?_
  refine v_iload_n dJ3_checkIndex_8e157_5 rfl ?_
  refine v_icmp_lt (tgt := 16) dJ3_checkIndex_8e157_6 rfl (fun c => ?_) (fun c => absurd h1 c)
  refine v_iload_n dJ3_checkIndex_8e157_16 rfl ?_
  exact v_iret rfl dJ3_checkIndex_8e157_17
set_option maxRecDepth 100000 in
theorem sJ0_checkIndex {g : Wo} {M : Mem} {q n : Int32} (h0 : ¬ q < 0) (h1 : q < n) : Sp g kJ0_checkIndex_df160 1 [.int q, .int n] M none M := by
  refine Sp_intro (by decide) [some (.int q), some (.int n)] rfl (Nat.le_of_ble_eq_true rfl) ?_
  refine v_iload_n dJ0_checkIndex_df160_0 rfl ?_
  refine v_iload_n dJ0_checkIndex_df160_1 rfl ?_
  refine v_gfm dJ0_checkIndex_df160_2 wS_1053 (fun v hv => ?_)
  refine v_callS (as := [.int q, .int n, v]) (st := []) (sJ3_checkIndex hv h0 h1) dJ0_checkIndex_df160_5 mlJ0_1059 (CRn (by decide) (by decide)) rfl rfl (Nat.le_of_ble_eq_true rfl) ?_
  refine v_pop dJ0_checkIndex_df160_8 rfl ?_
  exact v_vret rfl dJ0_checkIndex_df160_9
set_option maxRecDepth 100000 in
theorem sJ1_charAt {g : Wo} {M : Mem} {i : Nat} {q : Int32} (hi : i < 15) (h : inb q (lenL.getD i 0) = true) : Sp g kJ1_charAt_3b067 2 [.ref (130 + i), .int q] M (some (.int ((((bytL.getD i []).getD (ix q) 0) &&& 255).toUInt32 % 65536).toInt32)) M := by
  obtain ⟨h0, h1⟩ := inb_len hi h
  refine Sp_intro (by decide) [some (.ref (130 + i)), some (.int q)] rfl (Nat.le_of_ble_eq_true rfl) ?_
  refine v_iload_n dJ1_charAt_3b067_0 rfl ?_
  refine v_aload_n dJ1_charAt_3b067_1 rfl ?_
  refine v_blen hi dJ1_charAt_3b067_2 ?_
  refine v_callS (as := [.int q, .int (Int32.ofNat (lenL.getD i 0))]) (st := []) (sJ0_checkIndex h0 h1) dJ1_charAt_3b067_3 mlJ1_9 (CRn (by decide) (by decide)) rfl rfl (Nat.le_of_ble_eq_true rfl) ?_
  refine v_aload_n dJ1_charAt_3b067_6 rfl ?_
  refine v_iload_n dJ1_charAt_3b067_7 rfl ?_
  refine v_bld hi dJ1_charAt_3b067_8 h ?_
  refine v_sipush (v := 255) dJ1_charAt_3b067_9 rfl ?_
  refine v_iand dJ1_charAt_3b067_12 ?_
  refine v_i2c dJ1_charAt_3b067_13 ?_
  exact v_zret rfl (pk_nc _) dJ1_charAt_3b067_14
set_option maxRecDepth 100000 in
theorem sJ0_charAt {g : Wo} {M : Mem} {r : Nat} {q v : Int32} (hr : isT r) (h : sAt r q = some v) : Sp g kJ0_charAt_5068e 3 [.ref r, .int q] M (some (.int v)) M := by
  obtain ⟨i, hi, rfl⟩ := hr
  unfold sAt at h
  rw [Nat.add_sub_cancel_left] at h
  split at h
  · next hb =>
    cases h
    refine Sp_intro (by decide) [some (.ref (100 + i)), some (.int q)] rfl (Nat.le_of_ble_eq_true rfl) ?_
    refine v_aload_n dJ0_charAt_5068e_0 rfl ?_
    refine v_callW (as := []) (st := []) (sJ0_isLatin1 hi) dJ0_charAt_5068e_1 mlJ0_492 (CRn (by decide) (by decide)) (rec_str hi) rfl rfl (Nat.le_of_ble_eq_true rfl) ?_
    refine v_if_eq (tgt := 16) dJ0_charAt_5068e_4 rfl (fun c => absurd c (by decide)) (fun c => ?_)
    refine v_aload_n dJ0_charAt_5068e_7 rfl ?_
    refine v_getSv hi dJ0_charAt_5068e_8 wS_9 ?_
    refine v_iload_n dJ0_charAt_5068e_11 rfl ?_
    refine v_callS (as := [.ref (130 + i), .int q]) (st := []) (sJ1_charAt hi hb) dJ0_charAt_5068e_12 mlJ0_495 (CRn (by decide) (by decide)) rfl rfl (Nat.le_of_ble_eq_true rfl) ?_
    exact v_zret rfl (pk_nc _) dJ0_charAt_5068e_15
  · cases h
theorem shr00 (x : Int32) : x >>> ((0 : Int32) &&& 31) = x := sb_shr0 x
set_option maxRecDepth 100000 in
theorem sJ0_length {g : Wo} {M : Mem} {r : Nat} {v : Int32} (hr : isT r) (h : sLen r = v) : Sp g kJ0_length_8abf5 1 [.ref r] M (some (.int v)) M := by
  obtain ⟨i, hi, rfl⟩ := hr
  unfold sLen at h
  rw [Nat.add_sub_cancel_left] at h
  subst h
  refine Sp_intro (by decide) [some (.ref (100 + i))] rfl (Nat.le_of_ble_eq_true rfl) ?_
  refine v_aload_n dJ0_length_8abf5_0 rfl ?_
  refine v_getSv hi dJ0_length_8abf5_1 wS_9 ?_
  refine v_blen hi dJ0_length_8abf5_4 ?_
  refine v_aload_n dJ0_length_8abf5_5 rfl ?_
  refine v_callW (as := []) (st := [.int (Int32.ofNat (lenL.getD i 0))]) (sJ0_coder hi) dJ0_length_8abf5_6 mlJ0_335 (CRn (by decide) (by decide)) (rec_str hi) rfl rfl (Nat.le_of_ble_eq_true rfl) ?_
  refine v_ishr dJ0_length_8abf5_9 ?_
  rw [shr00]
  exact v_iret rfl dJ0_length_8abf5_10
