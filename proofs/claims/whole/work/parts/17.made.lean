theorem lN_clamp {n : Nat} (h : n < 2 ^ 63) : (lN n).toNatClampNeg = n := by
  have e := lclamp (n := lN n)
  rw [pk_lT h] at e
  split at e <;> omega
theorem rem_uns (y : Int32) : S0_unsigned y - S0_unsigned y / 32 * 32 = lN (uw y % 32) := by
  have hy := uw_lt y
  rw [uns_lN]
  exact pk_lRem (b := 32) (by omega) (by decide) (by decide)
theorem pow_uns (y : Int32) : S1_power (S0_unsigned y - S0_unsigned y / 32 * 32) = lN (2 ^ (uw y % 32)) := by
  unfold S1_power
  rw [rem_uns, lN_clamp (by omega)]
theorem and31 (y : Int32) : y &&& 31 = nI (uw y % 32) := and_mask y 31 5 (by decide)
theorem pow_le (y : Int32) : 1 ≤ 2 ^ (uw y % 32) ∧ 2 ^ (uw y % 32) ≤ 2147483648 := ⟨Nat.pow_pos (by decide), Nat.le_trans (Nat.pow_le_pow_right (by decide) (show uw y % 32 ≤ 31 by omega)) (by decide)⟩
theorem shl_eq (x y : Int32) : (S0_unsigned x * S1_power (S0_unsigned y - S0_unsigned y / 32 * 32)).toInt32 = x <<< ((y &&& 31) &&& 31) := by
  rw [pow_uns, uns_lN, lN_mul, lN_i, and31 y]
  apply uw_inj
  rw [uw_mod, uw_shl x (by omega)]
theorem ushr_eq (x y : Int32) : (S0_unsigned x / S1_power (S0_unsigned y - S0_unsigned y / 32 * 32)).toInt32 = i_ushr x (y &&& 31) := by
  have hx := uw_lt x
  have hp := pow_le y
  rw [pow_uns, uns_lN, pk_lDiv (by omega) (by omega) (by omega), lN_i, and31]
  apply uw_inj
  rw [uw_ushr x (by omega), uw_nI (by have := Nat.div_le_self (uw x) (2 ^ (uw y % 32)); omega)]
theorem i32_of {z : Int64} {r : Int32} (h : z.toInt = r.toInt) : z.toInt32 = r := by
  apply ti_eq
  rw [Int64.toInt_toInt32, h]
  have h1 := uw_lt r
  have h2 := uw_ti r
  split at h2 <;> (apply Int.bmod_eq_of_le <;> omega)
theorem sar_eq (x y : Int32) : (S1_down (S1_signed (S0_unsigned x)) (S1_power (S0_unsigned y - S0_unsigned y / 32 * 32))).toInt32 = S0_movedRightWithSign x y := by
  have hp := pow_le y
  have e : (lN (2 ^ (uw y % 32))).toInt = ((2 ^ (uw y % 32) : Nat) : Int) := pk_lT (by omega)
  apply i32_of
  rw [signed_uns, pow_uns, down_ti _ _ (by rw [e]; omega) (by rw [e]; omega), e, Int32.toInt_toInt64]
  unfold S0_movedRightWithSign
  rw [and31 y, ti_shr x (by omega)]
theorem scmp_ge (x y : Int32) : (0 ≤ lg_cmp (S1_signed (S0_unsigned x)) (S1_signed (S0_unsigned y))) ↔ y ≤ x := by
  rw [signed_uns, signed_uns, lg_cmp_ge, Int32.toInt64_le]
theorem made_plain (t x y : Int32) : (S1_made t 0 (S0_unsigned x) (S0_unsigned y)).toInt32 = S0_plain t x y := by
  unfold S1_made S0_plain
  by_cases h0 : t = 0
  · rw [if_pos h0, if_pos h0, if_neg (by decide), Int64.toInt32_add, uns_i, uns_i]
  rw [if_neg h0, if_neg h0]
  by_cases h1 : t = 1
  · rw [if_pos h1, if_pos h1]
    exact shl_eq x y
  rw [if_neg h1, if_neg h1]
  by_cases h2 : t = 2
  · rw [if_pos h2, if_pos h2]
    by_cases hc : y ≤ x
    · rw [if_pos ((scmp_ge x y).mpr hc), if_pos hc]
      rfl
    · rw [if_neg (fun h => hc ((scmp_ge x y).mp h)), if_neg hc]
      rfl
  rw [if_neg h2, if_neg h2]
  by_cases h3 : t = 3
  · rw [if_pos h3, if_pos h3]
    by_cases hc : 0 ≤ lg_cmp (S0_unsigned x) (S0_unsigned y)
    · rw [if_pos hc, if_pos hc]
      rfl
    · rw [if_neg hc, if_neg hc]
      rfl
  rw [if_neg h3, if_neg h3]
  by_cases h4 : t = 4
  · rw [if_pos h4, if_pos h4, Int64.toInt32_xor, uns_i, uns_i]
  rw [if_neg h4, if_neg h4]
  by_cases h5 : t = 5
  · rw [if_pos h5, if_pos h5, if_pos rfl]
    exact ushr_eq x y
  rw [if_neg h5, if_neg h5]
  by_cases h6 : t = 6
  · rw [if_pos h6, if_pos h6, Int64.toInt32_or, uns_i, uns_i]
  rw [if_neg h6, if_neg h6, Int64.toInt32_and, uns_i, uns_i]
theorem made_sub (x y : Int32) : (S1_made 0 32 (S0_unsigned x) (S0_unsigned y)).toInt32 = x - y := by
  unfold S1_made
  rw [if_pos rfl, if_pos rfl, Int64.toInt32_sub, uns_i, uns_i]
theorem made_sar (x y : Int32) : (S1_made 5 32 (S0_unsigned x) (S0_unsigned y)).toInt32 = S0_movedRightWithSign x y := by
  unfold S1_made
  rw [if_neg (by decide), if_neg (by decide), if_neg (by decide), if_neg (by decide), if_neg (by decide), if_pos rfl, if_neg (by decide)]
  exact sar_eq x y
/-- longs as numbers without sign -/
def ul (z : Int64) : Nat := z.toBitVec.toNat
theorem ul_lt (z : Int64) : ul z < 18446744073709551616 := z.toBitVec.isLt
theorem ul_ti (z : Int64) : z.toInt = if ul z < 9223372036854775808 then (ul z : Int) else (ul z : Int) - 18446744073709551616 := by
  have h := BitVec.toInt_eq_toNat_cond z.toBitVec
  rw [← Int64.toInt_toBitVec, h]
  show (if 2 * ul z < 2 ^ 64 then ((ul z : Nat) : Int) else ((ul z : Nat) : Int) - ((2 ^ 64 : Nat) : Int)) = _
  split <;> split <;> omega
theorem ul_i (z : Int64) : uw z.toInt32 = ul z % 4294967296 := l_i32 z
theorem ul_s32 (z : Int64) : ul (l_ushr z 32) = ul z / 4294967296 := by
  show (z.toUInt64 >>> ((32 : Int32).toInt64.toUInt64 &&& Int64.toUInt64 63)).toNat = _
  rw [UInt64.toNat_shiftRight, show ((32 : Int32).toInt64.toUInt64 &&& Int64.toUInt64 63).toNat % 64 = 32 from by decide, Nat.shiftRight_eq_div_pow]
  rfl
theorem up_eq (z : Int64) : (S1_down z 4294967296).toInt32 = (l_ushr z 32).toInt32 := by
  apply uw_inj
  have e := down_ti z 4294967296 (by decide) (by decide)
  have h1 := ul_ti z
  have h2 := ul_lt z
  have h3 := ul_ti (S1_down z 4294967296)
  have h4 := ul_lt (S1_down z 4294967296)
  have e0 : (4294967296 : Int64).toInt = 4294967296 := rfl
  rw [e0] at e
  rw [ul_i, ul_i, ul_s32]
  split at h1 <;> split at h3 <;> omega
theorem nat_up (X Y : Nat) (hX : X < 4294967296) (hY : Y < 4294967296) : X / 65536 * (Y / 65536) + (X / 65536 * (Y % 65536) + X % 65536 * (Y % 65536) / 65536) / 65536 + (X % 65536 * (Y / 65536) + (X / 65536 * (Y % 65536) + X % 65536 * (Y % 65536) / 65536) % 65536) / 65536 = X * Y / 4294967296 := by
  have e : X * Y = X / 65536 * (Y / 65536) * 4294967296 + (X / 65536 * (Y % 65536) + X % 65536 * (Y / 65536)) * 65536 + X % 65536 * (Y % 65536) := by
    have ex : X = X / 65536 * 65536 + X % 65536 := by omega
    have ey : Y = Y / 65536 * 65536 + Y % 65536 := by omega
    generalize X / 65536 = p at *
    generalize X % 65536 = q at *
    generalize Y / 65536 = r at *
    generalize Y % 65536 = t at *
    rw [ex, ey, Nat.add_mul, Nat.mul_add, Nat.mul_add, Nat.add_mul, show p * 65536 * (r * 65536) = p * r * 4294967296 by rw [Nat.mul_mul_mul_comm], show p * 65536 * t = p * t * 65536 by rw [Nat.mul_right_comm], show q * (r * 65536) = q * r * 65536 by rw [Nat.mul_assoc]]
    omega
  have hb : X % 65536 * (Y % 65536) < 4294967296 := Nat.lt_of_lt_of_le (Nat.mul_lt_mul'' (Nat.mod_lt X (by decide)) (Nat.mod_lt Y (by decide))) (by decide)
  rw [e]
  generalize X / 65536 * (Y / 65536) = A
  generalize X / 65536 * (Y % 65536) = B
  generalize X % 65536 * (Y / 65536) = C
  generalize X % 65536 * (Y % 65536) = E at hb
  omega
theorem upper_eq (v : MS) (x y : Int32) (hx : M_x v = S0_unsigned x) (hy : M_y v = S0_unsigned y) : S1_upper v = lN (uw x * uw y / 4294967296) := by
  have h1 := uw_lt x
  have h2 := uw_lt y
  have d1 : S0_unsigned x / 65536 = lN (uw x / 65536) := by rw [uns_lN]; exact pk_lDiv (b := 65536) (by omega) (by decide) (by decide)
  have d2 : S0_unsigned y / 65536 = lN (uw y / 65536) := by rw [uns_lN]; exact pk_lDiv (b := 65536) (by omega) (by decide) (by decide)
  have r1 : S0_unsigned x - lN (uw x / 65536) * 65536 = lN (uw x % 65536) := by
    rw [← d1, uns_lN]; exact pk_lRem (b := 65536) (by omega) (by decide) (by decide)
  have r2 : S0_unsigned y - lN (uw y / 65536) * 65536 = lN (uw y % 65536) := by
    rw [← d2, uns_lN]; exact pk_lRem (b := 65536) (by omega) (by decide) (by decide)
  have hE : uw x % 65536 * (uw y % 65536) < 4294967296 := Nat.lt_of_lt_of_le (Nat.mul_lt_mul'' (Nat.mod_lt _ (by decide)) (Nat.mod_lt _ (by decide))) (by decide)
  have hB : uw x / 65536 * (uw y % 65536) < 4294967296 := Nat.lt_of_lt_of_le (Nat.mul_lt_mul'' (show uw x / 65536 < 65536 by omega) (Nat.mod_lt _ (by decide))) (by decide)
  have hC : uw x % 65536 * (uw y / 65536) < 4294967296 := Nat.lt_of_lt_of_le (Nat.mul_lt_mul'' (Nat.mod_lt _ (by decide)) (show uw y / 65536 < 65536 by omega)) (by decide)
  have dE : lN (uw x % 65536 * (uw y % 65536)) / 65536 = lN (uw x % 65536 * (uw y % 65536) / 65536) := pk_lDiv (b := 65536) (by omega) (by decide) (by decide)
  have dM : lN (uw x / 65536 * (uw y % 65536) + uw x % 65536 * (uw y % 65536) / 65536) / 65536 = lN ((uw x / 65536 * (uw y % 65536) + uw x % 65536 * (uw y % 65536) / 65536) / 65536) := pk_lDiv (b := 65536) (by omega) (by decide) (by decide)
  have rM : lN (uw x / 65536 * (uw y % 65536) + uw x % 65536 * (uw y % 65536) / 65536) - lN ((uw x / 65536 * (uw y % 65536) + uw x % 65536 * (uw y % 65536) / 65536) / 65536) * 65536 = lN ((uw x / 65536 * (uw y % 65536) + uw x % 65536 * (uw y % 65536) / 65536) % 65536) := by
    rw [← dM]; exact pk_lRem (b := 65536) (by omega) (by decide) (by decide)
  have dO : lN (uw x % 65536 * (uw y / 65536) + (uw x / 65536 * (uw y % 65536) + uw x % 65536 * (uw y % 65536) / 65536) % 65536) / 65536 = lN ((uw x % 65536 * (uw y / 65536) + (uw x / 65536 * (uw y % 65536) + uw x % 65536 * (uw y % 65536) / 65536) % 65536) / 65536) := pk_lDiv (b := 65536) (by omega) (by decide) (by decide)
  unfold S1_upper
  rw [hx, hy, d1, d2, r1, r2, lN_mul, lN_mul, lN_mul, lN_mul, dE, lN_add (uw x / 65536 * (uw y % 65536)), dM, rM, lN_add (uw x % 65536 * (uw y / 65536)), dO, lN_add, lN_add, nat_up _ _ h1 h2]
theorem mulu_eq (x y : Int32) : (l_ushr (S0_unsigned x * S0_unsigned y) 32).toInt32 = nI (uw x * uw y / 4294967296) := by
  have h1 := uw_lt x
  have h2 := uw_lt y
  have hb : uw x * uw y < 18446744073709551616 := Nat.lt_of_lt_of_le (Nat.mul_lt_mul'' h1 h2) (by decide)
  apply uw_inj
  rw [ul_i, ul_s32, uns_lN, uns_lN, lN_mul, uw_mod]
  have e : ul (lN (uw x * uw y)) = uw x * uw y := by
    show (BitVec.ofNat 64 (uw x * uw y)).toNat = _
    rw [BitVec.toNat_ofNat, Nat.mod_eq_of_lt hb]
  rw [e]
theorem t64_0 (y : Int32) : lg_cmp y.toInt64 0 = 0 ↔ y = 0 := by
  rw [lg_cmp_eq]
  constructor
  · intro h
    have h2 := congrArg Int64.toInt32 h
    rw [Int32.toInt32_toInt64] at h2
    exact h2
  · rintro rfl
    decide
theorem u64_0 (y : Int32) : lg_cmp (S0_unsigned y) 0 = 0 ↔ y = 0 := by
  rw [lg_cmp_eq, uns_0]
theorem prod_eq (v : MS) (t x y : Int32) (ht : M_t v = t) (hx : M_x v = S0_unsigned x) (hy : M_y v = S0_unsigned y) : (S1_product v).toInt32 = S0_productOrQuotient t x y := by
  unfold S1_product S0_productOrQuotient
  rw [ht, hx, hy, signed_uns, signed_uns]
  by_cases h0 : t = 0
  · rw [if_pos h0, if_pos h0, Int64.toInt32_mul, Int32.toInt32_toInt64, Int32.toInt32_toInt64]
  rw [if_neg h0, if_neg h0]
  by_cases h1 : t = 1
  · rw [if_pos h1, if_pos h1]
    exact up_eq _
  rw [if_neg h1, if_neg h1]
  by_cases h2 : t = 2
  · rw [if_pos h2, if_pos h2]
    exact up_eq _
  rw [if_neg h2, if_neg h2]
  by_cases h3 : t = 3
  · rw [if_pos h3, if_pos h3, upper_eq v x y hx hy, lN_i]
    exact (mulu_eq x y).symm
  rw [if_neg h3, if_neg h3]
  unfold S0_quotient S0_rest
  by_cases hz : y = 0
  · have cu := (u64_0 y).mpr hz
    have ct := (t64_0 y).mpr hz
    simp only [cu, ct, if_true]
    repeat' split
    all_goals first | rfl | exact uns_i x | (rw [uns_i, Int32.toInt32_toInt64]) | (rw [uns_i])
  · have cu : ¬ lg_cmp (S0_unsigned y) 0 = 0 := fun h => hz ((u64_0 y).mp h)
    have ct : ¬ lg_cmp y.toInt64 0 = 0 := fun h => hz ((t64_0 y).mp h)
    simp only [cu, ct, if_false]
    repeat' split
    all_goals rfl
