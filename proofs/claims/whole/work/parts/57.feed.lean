/-! FEED -/
theorem fp_lshrv {v s : Int} (hv : fp_lng v) (hs : 0 ≤ s ∧ s < 64) : Int64.ofInt v >>> ((Int32.ofInt s).toInt64 &&& 63) = Int64.ofInt (v / 2 ^ s.toNat) := by
  have hk : (((Int32.ofInt s).toInt64 &&& 63).toBitVec.smod 64).toNat = s.toNat := by
    have h : ∀ n : Nat, n < 64 → (((Int32.ofInt (n : Int)).toInt64 &&& 63).toBitVec.smod 64).toNat = n := by decide +kernel
    have := h s.toNat (by omega)
    rwa [Int.toNat_of_nonneg hs.1] at this
  rw [← Int64.toInt_inj]
  have e1 : (Int64.ofInt v >>> ((Int32.ofInt s).toInt64 &&& 63)).toInt = (Int64.ofInt v).toInt >>> s.toNat := by
    show (Int64.ofInt v >>> ((Int32.ofInt s).toInt64 &&& 63)).toBitVec.toInt = _
    rw [Int64.toBitVec_shiftRight, BitVec.sshiftRight', BitVec.toInt_sshiftRight, hk]
    rfl
  rw [e1]
  have hp : (0 : Int) < 2 ^ s.toNat := Int.pow_pos (by decide)
  unfold fp_lng at hv
  have hd : -9223372036854775808 ≤ v / 2 ^ s.toNat ∧ v / 2 ^ s.toNat < 9223372036854775808 := by
    constructor
    · rw [Int.le_ediv_iff_mul_le hp]
      have : (-9223372036854775808) * (2 ^ s.toNat) ≤ (-9223372036854775808 : Int) := by
        have h1 : (1 : Int) ≤ 2 ^ s.toNat := hp
        have := Int.mul_le_mul_of_nonneg_left h1 (show (0 : Int) ≤ 9223372036854775808 by decide)
        omega
      omega
    · apply Int.ediv_lt_of_lt_mul hp
      have h1 : (1 : Int) ≤ 2 ^ s.toNat := hp
      have := Int.mul_le_mul_of_nonneg_left h1 (show (0 : Int) ≤ 9223372036854775808 by decide)
      omega
  rw [Int64.toInt_ofInt_of_le (by omega) (by omega), Int64.toInt_ofInt_of_le (by omega) (by omega), Int.shiftRight_eq_div_pow]
  simp
theorem fp_and255 (a : Int) : Int32.ofInt a &&& Int32.ofInt 255 = Int32.ofInt (a % 256) := by
  apply Int32.toBitVec.inj
  apply BitVec.eq_of_toNat_eq
  rw [Int32.toBitVec_and, BitVec.toNat_and]
  have h : (Int32.ofInt 255).toBitVec.toNat = 2 ^ 8 - 1 := by decide
  rw [h, Nat.and_two_pow_sub_one_eq_mod]
  simp only [Int32.toBitVec_ofInt, BitVec.toNat_ofInt]
  omega
def aByte (v : Int) (i : Nat) : Int := (v / 2 ^ (56 - 8 * i)) % 256
def A_feed (tp : List Int) (v : Int) : Int × List Int := if 480 < tp.length + 8 then (-3, tp) else ((tp.length : Int) + 8, tp ++ (List.range 8).map (aByte v))
theorem A_feed_getD {tp : List Int} {v : Int} (i : Nat) (h : i < tp.length + 8) : (tp ++ (List.range 8).map (aByte v)).getD i 0 = if i < tp.length then tp.getD i 0 else aByte v (i - tp.length) := by
  rw [List.getD_eq_getElem?_getD]
  split
  · rename_i hi
    rw [List.getElem?_append_left hi, List.getD_eq_getElem?_getD]
  · rename_i hi
    rw [List.getElem?_append_right (by omega), List.getElem?_map, List.getElem?_range (by omega)]
    rfl
