/-! MATHS: Integer.bitCount, Long.bitCount, and ones counted one by one -/
theorem sV_3 (k n : Nat) : sV k n * 3 < 256 ^ k := by
  have h68 : ∀ d, d < 256 → sB 51 (sA 85 d) ≤ 68 := by decide +kernel
  induction k generalizing n with
  | zero => rw [sV_0]; decide
  | succ k ih =>
    have e : n = n % 256 + 256 * (n / 256) := by omega
    rw [e, sV_s (Nat.mod_lt _ (by decide))]
    have h1 := h68 (n % 256) (Nat.mod_lt _ (by decide))
    have h2 := ih (n / 256)
    rw [Nat.pow_succ]
    omega
def jA (x : Int32) : Int32 := x - (((x.toUInt32 >>> ((1 : Int32).toUInt32 &&& Int32.toUInt32 31)).toInt32) &&& (1431655765 : Int32))
def jB (x : Int32) : Int32 := (x &&& (858993459 : Int32)) + (((x.toUInt32 >>> ((2 : Int32).toUInt32 &&& Int32.toUInt32 31)).toInt32) &&& (858993459 : Int32))
def jC (x : Int32) : Int32 := (x + ((x.toUInt32 >>> ((4 : Int32).toUInt32 &&& Int32.toUInt32 31)).toInt32)) &&& (252645135 : Int32)
def jD (x : Int32) : Int32 := x + ((x.toUInt32 >>> ((8 : Int32).toUInt32 &&& Int32.toUInt32 31)).toInt32)
def jE (x : Int32) : Int32 := x + ((x.toUInt32 >>> ((16 : Int32).toUInt32 &&& Int32.toUInt32 31)).toInt32)
theorem jA_n {n : Nat} (h : n < 2 ^ 32) : jA (nI n) = nI (sA (m5 4) n) := by
  unfold jA
  rw [pk_ushrN h 1 1 (by decide), show (1431655765 : Int32) = nI (m5 4) by decide, ib_and (by omega) (by decide), pk_sub (Nat.le_trans Nat.and_le_left (Nat.div_le_self _ _))]; rfl
theorem jB_n {n : Nat} (h : n < 2 ^ 32) : jB (nI n) = nI (sB (m3 4) n) := by
  unfold jB
  rw [pk_ushrN h 2 2 (by decide), show (858993459 : Int32) = nI (m3 4) by decide, ib_and h (by decide), ib_and (by omega) (by decide), nI_add]; rfl
theorem jC_n {n : Nat} (h : n * 3 < 2 ^ 32) : jC (nI n) = nI (sC (mF 4) n) := by
  unfold jC
  rw [pk_ushrN (by omega) 4 4 (by decide), show (252645135 : Int32) = nI (mF 4) by decide, nI_add, ib_and (by omega) (by decide)]; rfl
theorem jD_n {n : Nat} (h : n < 2 ^ 32) : jD (nI n) = nI (n + n / 256) := by
  unfold jD
  rw [pk_ushrN h 8 8 (by decide), nI_add]
theorem jE_n {n : Nat} (h : n < 2 ^ 32) : jE (nI n) = nI (n + n / 65536) := by
  unfold jE
  rw [pk_ushrN h 16 16 (by decide), nI_add]
theorem pc8_le (n : Nat) : pc 8 (n % 256) ≤ 8 := (kV _ (Nat.mod_lt _ (by decide))).2.2.2.2.2
def lA (x : Int64) : Int64 := x - (((x.toUInt64 >>> ((1 : Int32).toInt64.toUInt64 &&& Int64.toUInt64 63)).toInt64) &&& (6148914691236517205 : Int64))
def lB (x : Int64) : Int64 := (x &&& (3689348814741910323 : Int64)) + (((x.toUInt64 >>> ((2 : Int32).toInt64.toUInt64 &&& Int64.toUInt64 63)).toInt64) &&& (3689348814741910323 : Int64))
def lC (x : Int64) : Int64 := (x + ((x.toUInt64 >>> ((4 : Int32).toInt64.toUInt64 &&& Int64.toUInt64 63)).toInt64)) &&& (1085102592571150095 : Int64)
def lD (k : Int32) (x : Int64) : Int64 := x + ((x.toUInt64 >>> (k.toInt64.toUInt64 &&& Int64.toUInt64 63)).toInt64)
theorem lA_n {n : Nat} (h : n < 2 ^ 64) : lA (lN n) = lN (sA (m5 8) n) := by
  unfold lA
  rw [show (1 : Int32) = nI 1 from rfl, wb_shr h (by decide), show (6148914691236517205 : Int64) = lN (m5 8) by decide, wb_and (by omega) (by decide), lN_sub (Nat.le_trans Nat.and_le_left (Nat.div_le_self _ _))]; rfl
theorem lB_n {n : Nat} (h : n < 2 ^ 64) : lB (lN n) = lN (sB (m3 8) n) := by
  unfold lB
  rw [show (2 : Int32) = nI 2 from rfl, wb_shr h (by decide), show (3689348814741910323 : Int64) = lN (m3 8) by decide, wb_and h (by decide), wb_and (by omega) (by decide), lN_add]; rfl
theorem lC_n {n : Nat} (h : n * 3 < 2 ^ 64) : lC (lN n) = lN (sC (mF 8) n) := by
  unfold lC
  rw [show (4 : Int32) = nI 4 from rfl, wb_shr (by omega) (by decide), show (1085102592571150095 : Int64) = lN (mF 8) by decide, lN_add, wb_and (by omega) (by decide)]; rfl
theorem lD_n {n k : Nat} (h : n < 2 ^ 64) (hk : k < 64) : lD (nI k) (lN n) = lN (n + n / 2 ^ k) := by
  unfold lD
  rw [wb_shr h hk, lN_add]
theorem and_2 {a b c e : Nat} (ha : a < 2) (hc : c < 2) : (a + 2 * b) &&& (c + 2 * e) = (a &&& c) + 2 * (b &&& e) := by
  have h1 : (a &&& c) < 2 ^ 1 := Nat.and_lt_two_pow _ hc
  rw [Nat.add_comm a, Nat.add_comm c, Nat.add_comm (a &&& c)]
  show (2 ^ 1 * b + a) &&& (2 ^ 1 * e + c) = 2 ^ 1 * (b &&& e) + (a &&& c)
  apply Nat.eq_of_testBit_eq
  intro i
  rw [Nat.testBit_and, Nat.testBit_two_pow_mul_add _ (show a < 2 ^ 1 from ha), Nat.testBit_two_pow_mul_add _ (show c < 2 ^ 1 from hc), Nat.testBit_two_pow_mul_add _ h1]
  by_cases q : i < 1
  · rw [if_pos q, if_pos q, if_pos q, Nat.testBit_and]
  · rw [if_neg q, if_neg q, if_neg q, Nat.testBit_and]
theorem or_2 {a b c e : Nat} (ha : a < 2) (hc : c < 2) : (a + 2 * b) ||| (c + 2 * e) = (a ||| c) + 2 * (b ||| e) := by
  have h1 : (a ||| c) < 2 ^ 1 := Nat.or_lt_two_pow ha hc
  rw [Nat.add_comm a, Nat.add_comm c, Nat.add_comm (a ||| c)]
  show (2 ^ 1 * b + a) ||| (2 ^ 1 * e + c) = 2 ^ 1 * (b ||| e) + (a ||| c)
  apply Nat.eq_of_testBit_eq
  intro i
  rw [Nat.testBit_or, Nat.testBit_two_pow_mul_add _ (show a < 2 ^ 1 from ha), Nat.testBit_two_pow_mul_add _ (show c < 2 ^ 1 from hc), Nat.testBit_two_pow_mul_add _ h1]
  by_cases q : i < 1
  · rw [if_pos q, if_pos q, if_pos q, Nat.testBit_or]
  · rw [if_neg q, if_neg q, if_neg q, Nat.testBit_or]
theorem pc_s {k a b : Nat} (ha : a < 2) : pc (k + 1) (a + 2 * b) = a + pc k b := by
  show (a + 2 * b) % 2 + pc k ((a + 2 * b) / 2) = _
  rw [show (a + 2 * b) % 2 = a by omega, show (a + 2 * b) / 2 = b by omega]
theorem pc_dec (k : Nat) : ∀ n, 0 < n → n < 2 ^ k → pc k (n &&& (n - 1)) + 1 = pc k n := by
  induction k with
  | zero => intro n h1 h2; rw [Nat.pow_zero] at h2; omega
  | succ k ih =>
    intro n h1 h2
    rw [Nat.pow_succ] at h2
    obtain ⟨b, q, hb, rfl⟩ : ∃ b q, b < 2 ∧ n = b + 2 * q := ⟨n % 2, n / 2, by omega, by omega⟩
    by_cases hz : b = 0
    · subst hz
      have e : 0 + 2 * q - 1 = 1 + 2 * (q - 1) := by omega
      rw [e, and_2 (by decide) (by decide), pc_s (by decide), show (0 &&& 1 : Nat) = 0 from rfl, pc_s (by decide)]
      have := ih q (by omega) (by omega)
      omega
    · obtain rfl : b = 1 := by omega
      have e : 1 + 2 * q - 1 = 0 + 2 * q := by omega
      rw [e, and_2 (by decide) (by decide), pc_s (by decide), show (1 &&& 0 : Nat) = 0 from rfl, Nat.and_self, pc_s (by decide)]
      omega
theorem pc_or (k : Nat) : ∀ n w, w < k → n.testBit w = false → pc k (n ||| 2 ^ w) = pc k n + 1 := by
  induction k with
  | zero => intro n w h; omega
  | succ k ih =>
    intro n w h ht
    obtain ⟨b, q, hb, rfl⟩ : ∃ b q, b < 2 ∧ n = b + 2 * q := ⟨n % 2, n / 2, by omega, by omega⟩
    cases w with
    | zero =>
      have hz : b = 0 := by
        rw [Nat.testBit_zero] at ht
        have := of_decide_eq_false ht
        omega
      subst hz
      rw [show (2 : Nat) ^ 0 = 1 + 2 * 0 from rfl, or_2 (by decide) (by decide), pc_s (by decide), show (0 ||| 1 : Nat) = 1 from rfl, pc_s (by decide), Nat.or_zero]
      omega
    | succ w =>
      rw [Nat.testBit_succ, show (b + 2 * q) / 2 = q by omega] at ht
      have := ih q w (by omega) ht
      rw [show (2 : Nat) ^ (w + 1) = 0 + 2 * 2 ^ w by rw [Nat.pow_succ]; omega, or_2 hb (by decide), pc_s hb, Nat.or_zero, pc_s hb, this]
      omega
theorem nz32 {n : Nat} (h : n < 2 ^ 32) : nI n = 0 ↔ n = 0 := by
  refine ⟨fun q => ?_, fun q => by rw [q]; rfl⟩
  have := congrArg (fun x : Int32 => x.toBitVec.toNat) q
  have e : (nI n).toBitVec.toNat = (0 : Int32).toBitVec.toNat := this
  rw [pk_tn h] at e
  exact e
theorem nz64 {n : Nat} (h : n < 2 ^ 64) : lN n = 0 ↔ n = 0 := by
  refine ⟨fun q => ?_, fun q => by rw [q]; rfl⟩
  have := congrArg (fun x : Int64 => x.toBitVec.toNat) q
  have e : (lN n).toBitVec.toNat = (0 : Int64).toBitVec.toNat := this
  rw [wb_tn h] at e
  exact e
theorem m_onc {ρ : Type} {kx : Int32 → Option ρ} (c : Nat) : ∀ (i n fu : Nat), n < 2 ^ 32 → pc 32 n = c → c < fu → fX6_ones_4 kx fu (nI i) (nI n) = kx (nI (i + c)) := by
  induction c with
  | zero =>
    intro i n fu hn e h
    obtain ⟨fu, rfl⟩ : ∃ k, fu = k + 1 := ⟨fu - 1, by omega⟩
    have hz : n = 0 := by
      by_cases q : n = 0
      · exact q
      · have := pc_dec 32 n (by omega) hn; omega
    rw [fX6_ones_4, if_pos ((nz32 hn).mpr hz)]; rfl
  | succ c ih =>
    intro i n fu hn e h
    obtain ⟨fu, rfl⟩ : ∃ k, fu = k + 1 := ⟨fu - 1, by omega⟩
    have hz : ¬ n = 0 := fun q => by rw [q, pc_z] at e; omega
    have hd := pc_dec 32 n (by omega) hn
    have hp : nI n - 1 = nI (n - 1) := by
      have := nI_pred (n - 1)
      rw [show n - 1 + 1 = n by omega] at this; exact this
    rw [fX6_ones_4, if_neg (fun q => hz ((nz32 hn).mp q)), hp, ib_and hn (by omega), nI_1, ih (i + 1) _ fu (Nat.lt_of_le_of_lt Nat.and_le_left hn) (by omega) (by omega), show i + 1 + c = i + (c + 1) by omega]
theorem pc_le (k : Nat) : ∀ n, pc k n ≤ k := by
  induction k with
  | zero => intro n; exact Nat.le_refl _
  | succ k ih => intro n; show n % 2 + pc k (n / 2) ≤ k + 1; have := ih (n / 2); omega