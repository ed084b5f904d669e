/-! MATHS: the two bit counts -/
theorem sU_d (k n : Nat) : sC (mF k) (sB (m3 k) (sA (m5 k) n)) = sU k n := rfl
theorem sV_d (k n : Nat) : sB (m3 k) (sA (m5 k) n) = sV k n := rfl
theorem bc_ar {q0 q1 q2 q3 U : Nat} (hU : U = q0 + 256 * (q1 + 256 * (q2 + 256 * q3))) (p0 : q0 ≤ 8) (p1 : q1 ≤ 8) (p2 : q2 ≤ 8) (p3 : q3 ≤ 8) : U < 4294967296 ∧ U + U / 256 < 4294967296 ∧ U + U / 256 + (U + U / 256) / 65536 < 4294967296 ∧ (U + U / 256 + (U + U / 256) / 65536) % 64 = q0 + q1 + q2 + q3 := by
  have e1 : U / 256 = q1 + 256 * (q2 + 256 * q3) := by omega
  have e2 : U + U / 256 = (q0 + q1) + 256 * (q1 + q2) + 65536 * ((q2 + q3) + 256 * q3) := by omega
  have e3 : (U + U / 256) / 65536 = (q2 + q3) + 256 * q3 := by omega
  rw [e3, e2]
  omega
theorem sU_4 (n : Nat) : sU 4 n = pc 8 (n % 256) + 256 * (pc 8 (n / 256 % 256) + 256 * (pc 8 (n / 256 / 256 % 256) + 256 * pc 8 (n / 256 / 256 / 256 % 256))) := by
  rw [sU_s, sU_s, sU_s, sU_s, sU_0, Nat.mul_zero, Nat.add_zero]
theorem pc_32 (n : Nat) : pc 32 n = pc 8 (n % 256) + pc 8 (n / 256 % 256) + pc 8 (n / 256 / 256 % 256) + pc 8 (n / 256 / 256 / 256 % 256) := by
  have s1 : pc 32 n = _ := pc_8 24 n
  have s2 : pc 24 (n / 256) = _ := pc_8 16 (n / 256)
  have s3 : pc 16 (n / 256 / 256) = _ := pc_8 8 (n / 256 / 256)
  have s4 : pc 8 (n / 256 / 256 / 256) = _ := pc_8 0 (n / 256 / 256 / 256)
  rw [s1, s2, s3, s4, pc, Nat.add_zero, Nat.add_assoc, Nat.add_assoc]
set_option maxHeartbeats 40000 in
theorem bc_i {n : Nat} (h : n < 2 ^ 32) : fJ6_bitCount_0f7a4 (nI n) = nI (pc 32 n) := by
  have e : fJ6_bitCount_0f7a4 (nI n) = jE (jD (jC (jB (jA (nI n))))) &&& 63 := rfl
  have h3 := sV_3 4 n
  have hA : sA (m5 4) n ≤ n := Nat.sub_le _ _
  obtain ⟨a1, a2, a3, a4⟩ := bc_ar (sU_4 n) (pc8_le n) (pc8_le (n / 256)) (pc8_le (n / 256 / 256)) (pc8_le (n / 256 / 256 / 256))
  rw [e, jA_n h, jB_n (Nat.lt_of_le_of_lt hA h), sV_d, jC_n h3]
  rw [show sC (mF 4) (sV 4 n) = sU 4 n from rfl, jD_n a1, jE_n a2, pk_andN a3 6 (by decide), pc_32]
  exact congrArg nI a4
theorem sU_8 (n : Nat) : sU 8 n = pc 8 (n % 256) + 256 * (pc 8 (n / 256 % 256) + 256 * (pc 8 (n / 256 / 256 % 256) + 256 * (pc 8 (n / 256 / 256 / 256 % 256) + 256 * (pc 8 (n / 256 / 256 / 256 / 256 % 256) + 256 * (pc 8 (n / 256 / 256 / 256 / 256 / 256 % 256) + 256 * (pc 8 (n / 256 / 256 / 256 / 256 / 256 / 256 % 256) + 256 * pc 8 (n / 256 / 256 / 256 / 256 / 256 / 256 / 256 % 256))))))) := by
  rw [sU_s, sU_s, sU_s, sU_s, sU_s, sU_s, sU_s, sU_s, sU_0, Nat.mul_zero, Nat.add_zero]
theorem pc_64 (n : Nat) : pc 64 n = pc 8 (n % 256) + pc 8 (n / 256 % 256) + pc 8 (n / 256 / 256 % 256) + pc 8 (n / 256 / 256 / 256 % 256) + pc 8 (n / 256 / 256 / 256 / 256 % 256) + pc 8 (n / 256 / 256 / 256 / 256 / 256 % 256) + pc 8 (n / 256 / 256 / 256 / 256 / 256 / 256 % 256) + pc 8 (n / 256 / 256 / 256 / 256 / 256 / 256 / 256 % 256) := by
  have s1 : pc 64 (n) = _ := pc_8 56 (n)
  have s2 : pc 56 (n / 256) = _ := pc_8 48 (n / 256)
  have s3 : pc 48 (n / 256 / 256) = _ := pc_8 40 (n / 256 / 256)
  have s4 : pc 40 (n / 256 / 256 / 256) = _ := pc_8 32 (n / 256 / 256 / 256)
  have s5 : pc 32 (n / 256 / 256 / 256 / 256) = _ := pc_8 24 (n / 256 / 256 / 256 / 256)
  have s6 : pc 24 (n / 256 / 256 / 256 / 256 / 256) = _ := pc_8 16 (n / 256 / 256 / 256 / 256 / 256)
  have s7 : pc 16 (n / 256 / 256 / 256 / 256 / 256 / 256) = _ := pc_8 8 (n / 256 / 256 / 256 / 256 / 256 / 256)
  have s8 : pc 8 (n / 256 / 256 / 256 / 256 / 256 / 256 / 256) = _ := pc_8 0 (n / 256 / 256 / 256 / 256 / 256 / 256 / 256)
  rw [s1, s2, s3, s4, s5, s6, s7, s8, pc, Nat.add_zero]
  simp only [Nat.add_assoc]
theorem bc_ar8 {q0 q1 q2 q3 q4 q5 q6 q7 U : Nat} (hU : U = q0 + 256 * (q1 + 256 * (q2 + 256 * (q3 + 256 * (q4 + 256 * (q5 + 256 * (q6 + 256 * (q7)))))))) (p0 : q0 ≤ 8) (p1 : q1 ≤ 8) (p2 : q2 ≤ 8) (p3 : q3 ≤ 8) (p4 : q4 ≤ 8) (p5 : q5 ≤ 8) (p6 : q6 ≤ 8) (p7 : q7 ≤ 8) : ∃ V W z, U < 18446744073709551616 ∧ U + U / 256 = V ∧ V < 18446744073709551616 ∧ V + V / 65536 = W ∧ W < 18446744073709551616 ∧ W + W / 4294967296 = (q0 + q1 + q2 + q3 + q4 + q5 + q6 + q7) + 256 * z := by
  refine ⟨(q0 + q1) + 256 * ((q1 + q2) + 256 * ((q2 + q3) + 256 * ((q3 + q4) + 256 * ((q4 + q5) + 256 * ((q5 + q6) + 256 * ((q6 + q7) + 256 * ((q7)))))))), (q0 + q1 + q2 + q3) + 256 * ((q1 + q2 + q3 + q4) + 256 * ((q2 + q3 + q4 + q5) + 256 * ((q3 + q4 + q5 + q6) + 256 * ((q4 + q5 + q6 + q7) + 256 * ((q5 + q6 + q7) + 256 * ((q6 + q7) + 256 * ((q7)))))))), (q1 + q2 + q3 + q4 + q5 + q6 + q7) + 256 * ((q2 + q3 + q4 + q5 + q6 + q7) + 256 * ((q3 + q4 + q5 + q6 + q7) + 256 * ((q4 + q5 + q6 + q7) + 256 * ((q5 + q6 + q7) + 256 * ((q6 + q7) + 256 * ((q7))))))), ?_, ?_, ?_, ?_, ?_, ?_⟩
  · omega
  · have e1 : U / 256 = q1 + 256 * (q2 + 256 * (q3 + 256 * (q4 + 256 * (q5 + 256 * (q6 + 256 * (q7)))))) := by omega
    rw [e1]; omega
  · omega
  · have e1 : ((q0 + q1) + 256 * ((q1 + q2) + 256 * ((q2 + q3) + 256 * ((q3 + q4) + 256 * ((q4 + q5) + 256 * ((q5 + q6) + 256 * ((q6 + q7) + 256 * ((q7))))))))) / 65536 = (q2 + q3) + 256 * ((q3 + q4) + 256 * ((q4 + q5) + 256 * ((q5 + q6) + 256 * ((q6 + q7) + 256 * ((q7)))))) := by omega
    rw [e1]; omega
  · omega
  · have e1 : ((q0 + q1 + q2 + q3) + 256 * ((q1 + q2 + q3 + q4) + 256 * ((q2 + q3 + q4 + q5) + 256 * ((q3 + q4 + q5 + q6) + 256 * ((q4 + q5 + q6 + q7) + 256 * ((q5 + q6 + q7) + 256 * ((q6 + q7) + 256 * ((q7))))))))) / 4294967296 = (q4 + q5 + q6 + q7) + 256 * ((q5 + q6 + q7) + 256 * ((q6 + q7) + 256 * ((q7)))) := by omega
    rw [e1]; omega
set_option maxHeartbeats 40000 in
theorem bc_l {n : Nat} (h : n < 2 ^ 64) : fJ13_bitCount_95d88 (lN n) = nI (pc 64 n) := by
  have e : fJ13_bitCount_95d88 (lN n) = (lD (nI 32) (lD (nI 16) (lD (nI 8) (lC (lB (lA (lN n))))))).toInt32 &&& 127 := rfl
  have h3 := sV_3 8 n
  have hA : sA (m5 8) n ≤ n := Nat.sub_le _ _
  obtain ⟨V, W, z, a1, a2, a3, a4, a5, a6⟩ := bc_ar8 (sU_8 n) (pc8_le (n)) (pc8_le (n / 256)) (pc8_le (n / 256 / 256)) (pc8_le (n / 256 / 256 / 256)) (pc8_le (n / 256 / 256 / 256 / 256)) (pc8_le (n / 256 / 256 / 256 / 256 / 256)) (pc8_le (n / 256 / 256 / 256 / 256 / 256 / 256)) (pc8_le (n / 256 / 256 / 256 / 256 / 256 / 256 / 256))
  rw [e, lA_n h, lB_n (Nat.lt_of_le_of_lt hA h), sV_d, lC_n h3]
  rw [show sC (mF 8) (sV 8 n) = sU 8 n from rfl, lD_n a1 (by decide), show (2 : Nat) ^ 8 = 256 from rfl, a2, lD_n a3 (by decide), show (2 : Nat) ^ 16 = 65536 from rfl, a4, lD_n a5 (by decide), show (2 : Nat) ^ 32 = 4294967296 from rfl, a6, lN_i, pk_and _ 7 (by decide), pc_64]
  have hq : pc 8 (n % 256) + pc 8 (n / 256 % 256) + pc 8 (n / 256 / 256 % 256) + pc 8 (n / 256 / 256 / 256 % 256) + pc 8 (n / 256 / 256 / 256 / 256 % 256) + pc 8 (n / 256 / 256 / 256 / 256 / 256 % 256) + pc 8 (n / 256 / 256 / 256 / 256 / 256 / 256 % 256) + pc 8 (n / 256 / 256 / 256 / 256 / 256 / 256 / 256 % 256) ≤ 64 := by
    have := pc_le 64 n
    rw [pc_64] at this; exact this
  generalize pc 8 (n % 256) + pc 8 (n / 256 % 256) + pc 8 (n / 256 / 256 % 256) + pc 8 (n / 256 / 256 / 256 % 256) + pc 8 (n / 256 / 256 / 256 / 256 % 256) + pc 8 (n / 256 / 256 / 256 / 256 / 256 % 256) + pc 8 (n / 256 / 256 / 256 / 256 / 256 / 256 % 256) + pc 8 (n / 256 / 256 / 256 / 256 / 256 / 256 / 256 % 256) = Q at hq ⊢
  refine congrArg nI ?_
  show ((Q + 256 * z) % 4294967296) % 128 = Q
  omega
theorem m_ones (x : Int32) : fX6_ones x = some (fJ6_bitCount_0f7a4 x) := by
  obtain ⟨n, hn, rfl⟩ := wb_of32 x
  rw [bc_i hn]
  have := m_onc (kx := fun u2 => some u2) (pc 32 n) 0 n FU hn rfl (by have := pc_le 32 n; unfold FU; omega)
  rw [Nat.zero_add] at this
  exact this
