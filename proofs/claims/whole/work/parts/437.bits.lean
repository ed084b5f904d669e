/-! ===== lN n to 2^64: shifts, and, or, masks, one bit ===== -/
theorem wb_tb (n : Nat) : (lN n).toBitVec = BitVec.ofNat 64 n := rfl
theorem wb_inj {a b : Int64} (h : a.toBitVec = b.toBitVec) : a = b := Int64.toBitVec_inj.mp h
theorem wb_tn {n : Nat} (h : n < 2 ^ 64) : (lN n).toBitVec.toNat = n := by rw [wb_tb, BitVec.toNat_ofNat, Nat.mod_eq_of_lt h]
theorem wb_of (x : Int64) : ∃ n, n < 2 ^ 64 ∧ x = lN n := ⟨x.toBitVec.toNat, x.toBitVec.isLt, wb_inj (by rw [wb_tb]; simp)⟩
theorem wb_of32 (x : Int32) : ∃ n, n < 2 ^ 32 ∧ x = nI n := ⟨x.toBitVec.toNat, x.toBitVec.isLt, Int32.toBitVec_inj.mp (by show _ = BitVec.ofNat 32 _; simp)⟩
theorem wb_c : ∀ k, k < 64 → ((nI k).toInt64 &&& 63) = lN k := by decide +kernel
theorem wb_cu : ∀ k, k < 64 → ((nI k).toInt64.toUInt64 &&& Int64.toUInt64 63) = UInt64.ofNat k := by decide +kernel
theorem wb_sm : ∀ k, k < 64 → (BitVec.ofNat 64 k).smod 64 = BitVec.ofNat 64 k := by decide +kernel
theorem wb_pw {a b : Nat} (h : a ≤ b) : 2 ^ b = 2 ^ a * 2 ^ (b - a) := by rw [← Nat.pow_add]; congr 1; omega
theorem wb_lt2 {a b : Nat} (h : a < b) : 2 ^ a < 2 ^ b := Nat.pow_lt_pow_right (by decide) h
theorem wb_mod (n : Nat) : lN n = lN (n % 2 ^ 64) := wb_inj (by rw [wb_tb, wb_tb]; apply BitVec.eq_of_toNat_eq; rw [BitVec.toNat_ofNat, BitVec.toNat_ofNat, Nat.mod_mod])
theorem wb_shr {n k : Nat} (hn : n < 2 ^ 64) (hk : k < 64) : ((lN n).toUInt64 >>> ((nI k).toInt64.toUInt64 &&& Int64.toUInt64 63)).toInt64 = lN (n / 2 ^ k) := by
  rw [wb_cu k hk]
  apply wb_inj
  apply BitVec.eq_of_toNat_eq
  show ((lN n).toUInt64 >>> UInt64.ofNat k).toNat = (BitVec.ofNat 64 _).toNat
  have h1 : (UInt64.ofNat k).toNat = k := by
    show (BitVec.ofNat 64 k).toNat = k
    rw [BitVec.toNat_ofNat, Nat.mod_eq_of_lt (by omega)]
  have h2 : (lN n).toUInt64.toNat = n := wb_tn hn
  rw [UInt64.toNat_shiftRight, h1, h2, Nat.mod_eq_of_lt hk, Nat.shiftRight_eq_div_pow, BitVec.toNat_ofNat, Nat.mod_eq_of_lt (Nat.lt_of_le_of_lt (Nat.div_le_self _ _) hn)]
theorem wb_shl (n : Nat) {k : Nat} (hk : k < 64) : lN n <<< ((nI k).toInt64 &&& 63) = lN (n * 2 ^ k) := by
  rw [wb_c k hk]
  apply wb_inj
  rw [Int64.toBitVec_shiftLeft, wb_tb, wb_tb, wb_tb, wb_sm k hk]
  apply BitVec.eq_of_toNat_eq
  rw [BitVec.shiftLeft_eq', BitVec.toNat_shiftLeft, BitVec.toNat_ofNat, BitVec.toNat_ofNat, BitVec.toNat_ofNat, Nat.mod_eq_of_lt (show k < 2 ^ 64 by omega), Nat.shiftLeft_eq, Nat.mul_mod, Nat.mod_mod, ← Nat.mul_mod]
theorem wb_and {a b : Nat} (ha : a < 2 ^ 64) (hb : b < 2 ^ 64) : lN a &&& lN b = lN (a &&& b) := by
  apply wb_inj
  rw [Int64.toBitVec_and, wb_tb, wb_tb, wb_tb]
  apply BitVec.eq_of_toNat_eq
  rw [BitVec.toNat_and, BitVec.toNat_ofNat, BitVec.toNat_ofNat, BitVec.toNat_ofNat, Nat.mod_eq_of_lt ha, Nat.mod_eq_of_lt hb, Nat.mod_eq_of_lt (Nat.and_lt_two_pow _ hb)]
theorem wb_or {a b : Nat} (ha : a < 2 ^ 64) (hb : b < 2 ^ 64) : lN a ||| lN b = lN (a ||| b) := by
  apply wb_inj
  rw [Int64.toBitVec_or, wb_tb, wb_tb, wb_tb]
  apply BitVec.eq_of_toNat_eq
  rw [BitVec.toNat_or, BitVec.toNat_ofNat, BitVec.toNat_ofNat, BitVec.toNat_ofNat, Nat.mod_eq_of_lt ha, Nat.mod_eq_of_lt hb, Nat.mod_eq_of_lt (Nat.or_lt_two_pow ha hb)]
theorem wb_mask {n k : Nat} (hn : n < 2 ^ 64) (hk : k < 64) : lN n &&& lN (2 ^ k - 1) = lN (n % 2 ^ k) := by
  rw [wb_and hn (by have := wb_lt2 hk; omega), Nat.and_two_pow_sub_one_eq_mod]
theorem wb_a1 {n : Nat} (hn : n < 2 ^ 64) : lN n &&& 1 = lN (n % 2) := wb_mask (k := 1) hn (by decide)
theorem wb_bit {n k : Nat} (hn : n < 2 ^ 64) (hk : k < 64) : ((lN n).toUInt64 >>> ((nI k).toInt64.toUInt64 &&& Int64.toUInt64 63)).toInt64 &&& 1 = lN (n / 2 ^ k % 2) := by
  rw [wb_shr hn hk, wb_a1 (Nat.lt_of_le_of_lt (Nat.div_le_self _ _) hn)]
/-! nI to 2^32: and, or, one bit -/
theorem ib_tb (n : Nat) : (nI n).toBitVec = BitVec.ofNat 32 n := rfl
theorem ib_and {a b : Nat} (ha : a < 2 ^ 32) (hb : b < 2 ^ 32) : nI a &&& nI b = nI (a &&& b) := by
  apply Int32.toBitVec_inj.mp
  rw [Int32.toBitVec_and, ib_tb, ib_tb, ib_tb]
  apply BitVec.eq_of_toNat_eq
  rw [BitVec.toNat_and, BitVec.toNat_ofNat, BitVec.toNat_ofNat, BitVec.toNat_ofNat, Nat.mod_eq_of_lt ha, Nat.mod_eq_of_lt hb, Nat.mod_eq_of_lt (Nat.and_lt_two_pow _ hb)]
theorem ib_or {a b : Nat} (ha : a < 2 ^ 32) (hb : b < 2 ^ 32) : nI a ||| nI b = nI (a ||| b) := by
  apply Int32.toBitVec_inj.mp
  rw [Int32.toBitVec_or, ib_tb, ib_tb, ib_tb]
  apply BitVec.eq_of_toNat_eq
  rw [BitVec.toNat_or, BitVec.toNat_ofNat, BitVec.toNat_ofNat, BitVec.toNat_ofNat, Nat.mod_eq_of_lt ha, Nat.mod_eq_of_lt hb, Nat.mod_eq_of_lt (Nat.or_lt_two_pow ha hb)]
theorem ib_one : ∀ f, f < 31 → (1 : Int32) <<< (nI f &&& 31) = nI (2 ^ f) := by decide +kernel
theorem ib_lone : ∀ f, f < 64 → (1 : Int64) <<< ((nI f).toInt64 &&& 63) = lN (2 ^ f) := by decide +kernel
/-! counting ones -/
def pc : Nat → Nat → Nat
  | 0, _ => 0
  | k + 1, n => n % 2 + pc k (n / 2)
def sA (m n : Nat) : Nat := n - (n / 2 &&& m)
def sB (m n : Nat) : Nat := (n &&& m) + (n / 4 &&& m)
def sC (m n : Nat) : Nat := (n + n / 16) &&& m
theorem and_sp {a b c e : Nat} (ha : a < 256) (hc : c < 256) : (a + 256 * b) &&& (c + 256 * e) = (a &&& c) + 256 * (b &&& e) := by
  have h1 : (a &&& c) < 2 ^ 8 := Nat.and_lt_two_pow _ hc
  rw [Nat.add_comm a, Nat.add_comm c, Nat.add_comm (a &&& c), show (256 : Nat) = 2 ^ 8 from rfl]
  apply Nat.eq_of_testBit_eq
  intro i
  rw [Nat.testBit_and, Nat.testBit_two_pow_mul_add _ (show a < 2 ^ 8 from ha), Nat.testBit_two_pow_mul_add _ (show c < 2 ^ 8 from hc), Nat.testBit_two_pow_mul_add _ h1]
  by_cases q : i < 8
  · rw [if_pos q, if_pos q, if_pos q, Nat.testBit_and]
  · rw [if_neg q, if_neg q, if_neg q, Nat.testBit_and]
theorem k5 : ∀ d, d < 256 → ∀ r, r < 2 → (d / 2 + 128 * r) &&& 85 = d / 2 &&& 85 := by decide +kernel
theorem k3 : ∀ d, d < 256 → ∀ r, r < 4 → (d / 4 + 64 * r) &&& 51 = d / 4 &&& 51 := by decide +kernel
theorem kV : ∀ d, d < 256 → sA 85 d < 256 ∧ sB 51 (sA 85 d) < 256 ∧ sB 51 (sA 85 d) % 16 ≤ 4 ∧ sB 51 (sA 85 d) + sB 51 (sA 85 d) / 16 + 64 < 256 ∧ sC 15 (sB 51 (sA 85 d)) = pc 8 d ∧ pc 8 d ≤ 8 := by decide +kernel
theorem sA_sp {d q m : Nat} (hd : d < 256) : sA (85 + 256 * m) (d + 256 * q) = sA 85 d + 256 * sA m q := by
  unfold sA
  have e : (d + 256 * q) / 2 = (d / 2 + 128 * (q % 2)) + 256 * (q / 2) := by omega
  rw [e, and_sp (by omega) (by decide), k5 d hd _ (by omega)]
  have h1 : d / 2 &&& 85 ≤ d / 2 := Nat.and_le_left
  have h2 : q / 2 &&& m ≤ q / 2 := Nat.and_le_left
  omega
theorem sB_sp {d q m : Nat} (hd : d < 256) : sB (51 + 256 * m) (d + 256 * q) = sB 51 d + 256 * sB m q := by
  unfold sB
  have e : (d + 256 * q) / 4 = (d / 4 + 64 * (q % 4)) + 256 * (q / 4) := by omega
  rw [e, and_sp hd (by decide), and_sp (by omega) (by decide), k3 d hd _ (by omega)]
  omega
theorem sC_sp {d q m : Nat} (hd : d + d / 16 + 16 * (q % 16) < 256) : sC (15 + 256 * m) (d + 256 * q) = sC 15 d + 256 * sC m q := by
  unfold sC
  have e : d + 256 * q + (d + 256 * q) / 16 = (d + d / 16 + 16 * (q % 16)) + 256 * (q + q / 16) := by omega
  rw [e, and_sp hd (by decide)]
  have h1 : ∀ x : Nat, x &&& 15 = x % 16 := fun x => Nat.and_two_pow_sub_one_eq_mod x 4
  rw [h1, h1]
  omega
def m5 : Nat → Nat
  | 0 => 0
  | k + 1 => 85 + 256 * m5 k
def m3 : Nat → Nat
  | 0 => 0
  | k + 1 => 51 + 256 * m3 k
def mF : Nat → Nat
  | 0 => 0
  | k + 1 => 15 + 256 * mF k
def sV (k n : Nat) : Nat := sB (m3 k) (sA (m5 k) n)
theorem sV_0 (n : Nat) : sV 0 n = 0 := by
  show (sA 0 n &&& 0) + (sA 0 n / 4 &&& 0) = 0
  rw [Nat.and_zero, Nat.and_zero]
theorem sV_s {k d q : Nat} (hd : d < 256) : sV (k + 1) (d + 256 * q) = sB 51 (sA 85 d) + 256 * sV k q := by
  unfold sV
  rw [m3, m5, sA_sp hd, sB_sp (kV d hd).1]
theorem sV_16 (k q : Nat) : sV k q % 16 ≤ 4 := by
  cases k with
  | zero => rw [sV_0]; decide
  | succ k =>
    have e : q = q % 256 + 256 * (q / 256) := by omega
    rw [e, sV_s (Nat.mod_lt _ (by decide))]
    have := (kV (q % 256) (Nat.mod_lt _ (by decide))).2.2.1
    omega
def sU (k n : Nat) : Nat := sC (mF k) (sV k n)
theorem sU_0 (n : Nat) : sU 0 n = 0 := by
  unfold sU; rw [sV_0]; rfl
theorem sU_s (k n : Nat) : sU (k + 1) n = pc 8 (n % 256) + 256 * sU k (n / 256) := by
  have hd : n % 256 < 256 := Nat.mod_lt _ (by decide)
  have h := kV _ hd
  have h16 := sV_16 k (n / 256)
  unfold sU
  have e : sV (k + 1) n = sB 51 (sA 85 (n % 256)) + 256 * sV k (n / 256) := by
    rw [← sV_s hd]; congr 1; omega
  rw [e, mF, sC_sp (by omega), h.2.2.2.2.1]
theorem pc_8 (k n : Nat) : pc (k + 8) n = pc 8 (n % 256) + pc k (n / 256) := by
  have e : n / 2 / 2 / 2 / 2 / 2 / 2 / 2 / 2 = n / 256 := by omega
  simp only [pc]
  rw [e]
  omega
theorem pc_z (k : Nat) : pc k 0 = 0 := by
  induction k with
  | zero => rfl
  | succ k ih => show 0 % 2 + pc k (0 / 2) = 0; rw [Nat.zero_div, ih]
