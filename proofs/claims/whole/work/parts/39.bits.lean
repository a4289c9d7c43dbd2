/-! NUMBERS OF 64 BITS as natural numbers -/
theorem lN_bv (n : Nat) : (lN n).toBitVec = BitVec.ofNat 64 n := rfl
theorem nI_bv (n : Nat) : (nI n).toBitVec = BitVec.ofNat 32 n := rfl
theorem lN_and (a b : Nat) : lN a &&& lN b = lN (a &&& b) := by
  apply Int64.toBitVec_inj.mp
  rw [Int64.toBitVec_and, lN_bv, lN_bv, lN_bv]
  apply BitVec.eq_of_toNat_eq
  simp only [BitVec.toNat_and, BitVec.toNat_ofNat, Nat.and_mod_two_pow]
theorem lN_or (a b : Nat) : lN a ||| lN b = lN (a ||| b) := by
  apply Int64.toBitVec_inj.mp
  rw [Int64.toBitVec_or, lN_bv, lN_bv, lN_bv]
  apply BitVec.eq_of_toNat_eq
  simp only [BitVec.toNat_or, BitVec.toNat_ofNat, Nat.or_mod_two_pow]
theorem nI_and (a b : Nat) : nI a &&& nI b = nI (a &&& b) := by
  apply Int32.toBitVec_inj.mp
  rw [Int32.toBitVec_and, nI_bv, nI_bv, nI_bv]
  apply BitVec.eq_of_toNat_eq
  simp only [BitVec.toNat_and, BitVec.toNat_ofNat, Nat.and_mod_two_pow]
theorem nI_or (a b : Nat) : nI a ||| nI b = nI (a ||| b) := by
  apply Int32.toBitVec_inj.mp
  rw [Int32.toBitVec_or, nI_bv, nI_bv, nI_bv]
  apply BitVec.eq_of_toNat_eq
  simp only [BitVec.toNat_or, BitVec.toNat_ofNat, Nat.or_mod_two_pow]
theorem sh63 : ∀ m, m < 64 → ((nI m).toInt64 &&& 63).toBitVec.smod 64 = BitVec.ofNat 64 m := by decide +kernel
theorem shu63 : ∀ m, m < 64 → ((nI m).toInt64.toUInt64 &&& Int64.toUInt64 63).toBitVec % 64 = BitVec.ofNat 64 m := by decide +kernel
theorem lN_shl (a : Nat) {m : Nat} (h : m < 64) : lN a <<< ((nI m).toInt64 &&& 63) = lN (a <<< m) := by
  apply Int64.toBitVec_inj.mp
  rw [Int64.toBitVec_shiftLeft, sh63 m h, lN_bv, lN_bv]
  apply BitVec.eq_of_toNat_eq
  simp only [BitVec.toNat_shiftLeft, BitVec.shiftLeft_eq', BitVec.toNat_ofNat, Nat.shiftLeft_eq, Nat.mod_eq_of_lt (show m < 2 ^ 64 by omega), Nat.mod_mul_mod]
theorem lN_shr {a m : Nat} (ha : a < 2 ^ 63) (h : m < 64) : lN a >>> ((nI m).toInt64 &&& 63) = lN (a >>> m) := by
  apply Int64.toBitVec_inj.mp
  rw [Int64.toBitVec_shiftRight, sh63 m h, lN_bv, lN_bv]
  apply BitVec.eq_of_toNat_eq
  have hm : (BitVec.ofNat 64 a).msb = false := by rw [BitVec.msb_eq_false_iff_two_mul_lt]; simp only [BitVec.toNat_ofNat]; omega
  rw [BitVec.sshiftRight_eq', BitVec.toNat_sshiftRight_of_msb_false hm]
  simp only [BitVec.toNat_ofNat, Nat.mod_eq_of_lt (show m < 2 ^ 64 by omega), Nat.mod_eq_of_lt (show a < 2 ^ 64 by omega), Nat.shiftRight_eq_div_pow]
  exact (Nat.mod_eq_of_lt (Nat.lt_of_le_of_lt (Nat.div_le_self _ _) (by omega))).symm
theorem lN_ushr {a m : Nat} (ha : a < 2 ^ 63) (h : m < 64) : ((lN a).toUInt64 >>> ((nI m).toInt64.toUInt64 &&& Int64.toUInt64 63)).toInt64 = lN (a >>> m) := by
  apply Int64.toBitVec_inj.mp
  show ((lN a).toUInt64 >>> ((nI m).toInt64.toUInt64 &&& Int64.toUInt64 63)).toBitVec = _
  rw [UInt64.toBitVec_shiftRight, shu63 m h, lN_bv]
  show (BitVec.ofNat 64 a) >>> BitVec.ofNat 64 m = _
  apply BitVec.eq_of_toNat_eq
  simp only [BitVec.ushiftRight_eq', BitVec.toNat_ushiftRight, BitVec.toNat_ofNat, Nat.mod_eq_of_lt (show m < 2 ^ 64 by omega), Nat.mod_eq_of_lt (show a < 2 ^ 64 by omega), Nat.shiftRight_eq_div_pow]
  exact (Nat.mod_eq_of_lt (Nat.lt_of_le_of_lt (Nat.div_le_self _ _) (by omega))).symm
theorem nI_mul (a b : Nat) : nI a * nI b = nI (a * b) := (Int32.ofNat_mul a b).symm
theorem lN_int {n : Nat} (h : n < 2 ^ 63) : (lN n).toInt = (n : Int) := Int64.toInt_ofNat_of_lt (by omega)
theorem lN_eqq {a b : Nat} (ha : a < 2 ^ 63) (hb : b < 2 ^ 63) : (lN a = lN b) = (a = b) := by
  rw [← Int64.toInt_inj, lN_int ha, lN_int hb]; exact propext ⟨fun h => by omega, fun h => by omega⟩
theorem lN_cmp0 {a b : Nat} (ha : a < 2 ^ 63) (hb : b < 2 ^ 63) : (lg_cmp (lN a) (lN b) = 0) = (a = b) := by
  unfold lg_cmp
  have h1 : (lN a > lN b) = (b < a) := by rw [gt_iff_lt, Int64.lt_iff_toInt_lt, lN_int ha, lN_int hb]; exact propext ⟨fun h => by omega, fun h => by omega⟩
  simp only [h1, lN_eqq ha hb]
  by_cases h : b < a
  · rw [if_pos h]; exact propext ⟨fun h => absurd h (by decide), fun h => by omega⟩
  · rw [if_neg h]
    by_cases h2 : a = b
    · rw [if_pos h2]; exact propext ⟨fun _ => h2, fun _ => rfl⟩
    · rw [if_neg h2]; exact propext ⟨fun h => absurd h (by decide), fun h => absurd h h2⟩
theorem lN_cmple {a b : Nat} (ha : a < 2 ^ 63) (hb : b < 2 ^ 63) : (lg_cmp (lN a) (lN b) ≤ 0) = (a ≤ b) := by
  unfold lg_cmp
  have h1 : (lN a > lN b) = (b < a) := by rw [gt_iff_lt, Int64.lt_iff_toInt_lt, lN_int ha, lN_int hb]; exact propext ⟨fun h => by omega, fun h => by omega⟩
  simp only [h1, lN_eqq ha hb]
  by_cases h : b < a
  · rw [if_pos h]; exact propext ⟨fun h => absurd h (by decide), fun h => by omega⟩
  · rw [if_neg h]
    by_cases h2 : a = b
    · rw [if_pos h2]; exact propext ⟨fun _ => by omega, fun _ => by decide⟩
    · rw [if_neg h2]; exact propext ⟨fun _ => by omega, fun _ => by decide⟩
theorem lN_cmpgt {a b : Nat} (ha : a < 2 ^ 63) (hb : b < 2 ^ 63) : (0 < lg_cmp (lN a) (lN b)) = (b < a) := by
  have := lN_cmple ha hb
  rw [← Int32.not_le, this]; exact propext ⟨fun h => by omega, fun h => by omega⟩
theorem lN_cmplt {a b : Nat} (ha : a < 2 ^ 63) (hb : b < 2 ^ 63) : (lg_cmp (lN a) (lN b) < 0) = (a < b) := by
  unfold lg_cmp
  have h1 : (lN a > lN b) = (b < a) := by rw [gt_iff_lt, Int64.lt_iff_toInt_lt, lN_int ha, lN_int hb]; exact propext ⟨fun h => by omega, fun h => by omega⟩
  simp only [h1, lN_eqq ha hb]
  by_cases h : b < a
  · rw [if_pos h]; exact propext ⟨fun h => absurd h (by decide), fun h => by omega⟩
  · rw [if_neg h]
    by_cases h2 : a = b
    · rw [if_pos h2]; exact propext ⟨fun h => absurd h (by decide), fun h => by omega⟩
    · rw [if_neg h2]; exact propext ⟨fun _ => by omega, fun _ => by decide⟩
theorem lN_cmpge {a b : Nat} (ha : a < 2 ^ 63) (hb : b < 2 ^ 63) : (0 ≤ lg_cmp (lN a) (lN b)) = (b ≤ a) := by
  have := lN_cmplt ha hb
  rw [← Int32.not_lt, this]; exact propext ⟨fun h => by omega, fun h => by omega⟩
theorem or_shl {a b m : Nat} (h : a < 2 ^ m) : a ||| (b <<< m) = a + b * 2 ^ m := by
  rw [Nat.or_comm, ← Nat.shiftLeft_add_eq_or_of_lt h, Nat.shiftLeft_eq, Nat.add_comm]
theorem and_m (a k : Nat) : a &&& (2 ^ k - 1) = a % 2 ^ k := Nat.and_two_pow_sub_one_eq_mod a k
theorem and1 (a : Nat) : a &&& 1 = a % 2 := and_m a 1
theorem and7 (a : Nat) : a &&& 7 = a % 8 := and_m a 3
theorem and127 (a : Nat) : a &&& 127 = a % 128 := and_m a 7
theorem and2047 (a : Nat) : a &&& 2047 = a % 2048 := and_m a 11
theorem and4095 (a : Nat) : a &&& 4095 = a % 4096 := and_m a 12
theorem and48 (a : Nat) : a &&& 281474976710655 = a % 281474976710656 := and_m a 48
theorem j_0 : (0 : Int64) = lN 0 := rfl
theorem j_1 : (1 : Int64) = lN 1 := rfl
theorem j_7 : (7 : Int64) = lN 7 := rfl
theorem j_127 : (127 : Int64) = lN 127 := rfl
theorem j_4095 : (4095 : Int64) = lN 4095 := rfl
theorem j_1999 : (1999 : Int64) = lN 1999 := rfl
theorem j_4000 : (4000 : Int64) = lN 4000 := rfl
theorem j_48 : (281474976710655 : Int64) = lN 281474976710655 := rfl
theorem j_62 : (4611686018427387904 : Int64) = lN 4611686018427387904 := rfl
theorem l_0 : (0 : Int32) = nI 0 := rfl
theorem l_1 : (1 : Int32) = nI 1 := rfl
theorem l_2 : (2 : Int32) = nI 2 := rfl
theorem l_3 : (3 : Int32) = nI 3 := rfl
theorem l_4 : (4 : Int32) = nI 4 := rfl
theorem l_5 : (5 : Int32) = nI 5 := rfl
theorem l_6 : (6 : Int32) = nI 6 := rfl
theorem l_7 : (7 : Int32) = nI 7 := rfl
theorem l_8 : (8 : Int32) = nI 8 := rfl
theorem l_10 : (10 : Int32) = nI 10 := rfl
theorem l_11 : (11 : Int32) = nI 11 := rfl
theorem l_12 : (12 : Int32) = nI 12 := rfl
theorem l_36 : (36 : Int32) = nI 36 := rfl
theorem l_48 : (48 : Int32) = nI 48 := rfl
theorem l_60 : (60 : Int32) = nI 60 := rfl
theorem l_100 : (100 : Int32) = nI 100 := rfl
theorem l_999 : (999 : Int32) = nI 999 := rfl
theorem l_1000 : (1000 : Int32) = nI 1000 := rfl
theorem l_1999 : (1999 : Int32) = nI 1999 := rfl
theorem l_2000 : (2000 : Int32) = nI 2000 := rfl
theorem l_2007 : (2007 : Int32) = nI 2007 := rfl
theorem l_2047 : (2047 : Int32) = nI 2047 := rfl
theorem l_3000 : (3000 : Int32) = nI 3000 := rfl
theorem l_4095 : (4095 : Int32) = nI 4095 := rfl
