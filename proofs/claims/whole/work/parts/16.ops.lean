/-- fields of a word, in the reference's way and in the class's -/
theorem lshr_uw (w : Int32) {f : Nat} (hf : f < 32) : (l_shr (S1_plain w.toInt64) (nI f)).toInt32 = i_ushr w (nI f) := by
  have hw := uw_lt w
  have h0 : (((nI f).toInt64 &&& 63).toBitVec.smod 64).toNat = f := (show ∀ n, n < 32 → (((nI n).toInt64 &&& 63).toBitVec.smod 64).toNat = n by decide) f hf
  have e : S1_plain w.toInt64 = lN (uw w) := by rw [plain_uw, Int32.toInt32_toInt64]
  have e2 : l_shr (lN (uw w)) (nI f) = lN (uw w / 2 ^ f) := by
    apply Int64.toInt_inj.mp
    show ((lN (uw w)) >>> ((nI f).toInt64 &&& 63)).toInt = _
    rw [← Int64.toInt_toBitVec]
    show (BitVec.sshiftRight' (lN (uw w)).toBitVec (((nI f).toInt64 &&& 63).toBitVec.smod 64)).toInt = _
    rw [BitVec.sshiftRight', BitVec.toInt_sshiftRight, h0, Int64.toInt_toBitVec, pk_lT (by omega), pk_lT (by have := Nat.div_le_self (uw w) (2 ^ f); omega), Int.shiftRight_eq_div_pow]
    omega
  rw [e, e2, lN_i]
  apply uw_inj
  rw [uw_ushr w hf, uw_nI (by have := Nat.div_le_self (uw w) (2 ^ f); omega)]
theorem bits_nI (w : Int32) {f k : Nat} (hf : f < 32) {n : Int32} (hm : uw (((1 : Int32) <<< (n &&& 31)) - 1) = 2 ^ k - 1) : S1_bits w (nI f) n = nI (uw w / 2 ^ f % 2 ^ k) := by
  unfold S1_bits
  rw [lshr_uw w hf]
  exact ush_mask w _ hf k hm
theorem bt_0_7 (w : Int32) : S1_bits w 0 7 = nI (uw w / 2 ^ 0 % 2 ^ 7) := bits_nI (f := 0) w (by decide) (by decide)
theorem bt_7_5 (w : Int32) : S1_bits w 7 5 = nI (uw w / 2 ^ 7 % 2 ^ 5) := bits_nI (f := 7) w (by decide) (by decide)
theorem bt_12_3 (w : Int32) : S1_bits w 12 3 = nI (uw w / 2 ^ 12 % 2 ^ 3) := bits_nI (f := 12) w (by decide) (by decide)
theorem bt_15_5 (w : Int32) : S1_bits w 15 5 = nI (uw w / 2 ^ 15 % 2 ^ 5) := bits_nI (f := 15) w (by decide) (by decide)
theorem bt_20_5 (w : Int32) : S1_bits w 20 5 = nI (uw w / 2 ^ 20 % 2 ^ 5) := bits_nI (f := 20) w (by decide) (by decide)
theorem bt_25_7 (w : Int32) : S1_bits w 25 7 = nI (uw w / 2 ^ 25 % 2 ^ 7) := bits_nI (f := 25) w (by decide) (by decide)
theorem bt_20_12 (w : Int32) : S1_bits w 20 12 = nI (uw w / 2 ^ 20 % 2 ^ 12) := bits_nI (f := 20) w (by decide) (by decide)
theorem bt_8_4 (w : Int32) : S1_bits w 8 4 = nI (uw w / 2 ^ 8 % 2 ^ 4) := bits_nI (f := 8) w (by decide) (by decide)
theorem bt_25_6 (w : Int32) : S1_bits w 25 6 = nI (uw w / 2 ^ 25 % 2 ^ 6) := bits_nI (f := 25) w (by decide) (by decide)
theorem bt_7_1 (w : Int32) : S1_bits w 7 1 = nI (uw w / 2 ^ 7 % 2 ^ 1) := bits_nI (f := 7) w (by decide) (by decide)
theorem bt_31_1 (w : Int32) : S1_bits w 31 1 = nI (uw w / 2 ^ 31 % 2 ^ 1) := bits_nI (f := 31) w (by decide) (by decide)
theorem bt_21_10 (w : Int32) : S1_bits w 21 10 = nI (uw w / 2 ^ 21 % 2 ^ 10) := bits_nI (f := 21) w (by decide) (by decide)
theorem bt_20_1 (w : Int32) : S1_bits w 20 1 = nI (uw w / 2 ^ 20 % 2 ^ 1) := bits_nI (f := 20) w (by decide) (by decide)
theorem bt_12_8 (w : Int32) : S1_bits w 12 8 = nI (uw w / 2 ^ 12 % 2 ^ 8) := bits_nI (f := 12) w (by decide) (by decide)
theorem fl_op (w : Int32) : S0_fieldOp w = nI (uw w % 2 ^ 7) := and_mask w 127 7 (by decide)
theorem fl_d (w : Int32) : S0_fieldD w = nI (uw w / 2 ^ 7 % 2 ^ 5) := ush_mask (f := 7) w 31 (by decide) 5 (by decide)
theorem fl_t (w : Int32) : S0_fieldT w = nI (uw w / 2 ^ 12 % 2 ^ 3) := ush_mask (f := 12) w 7 (by decide) 3 (by decide)
theorem fl_x (w : Int32) : S0_fieldX w = nI (uw w / 2 ^ 15 % 2 ^ 5) := ush_mask (f := 15) w 31 (by decide) 5 (by decide)
theorem fl_y (w : Int32) : S0_fieldY w = nI (uw w / 2 ^ 20 % 2 ^ 5) := ush_mask (f := 20) w 31 (by decide) 5 (by decide)
theorem fl_s (w : Int32) : S0_fieldS w = nI (uw w / 2 ^ 25) := by
  apply uw_inj
  rw [uw_nI (by have := uw_lt w; omega)]
  exact uw_ushr (k := 25) w (by decide)
theorem eq_op (w : Int32) : S1_bits w 0 7 = S0_fieldOp w := by rw [bt_0_7, fl_op, Nat.pow_zero, Nat.div_one]
theorem eq_d (w : Int32) : S1_bits w 7 5 = S0_fieldD w := by rw [bt_7_5, fl_d]
theorem eq_t (w : Int32) : S1_bits w 12 3 = S0_fieldT w := by rw [bt_12_3, fl_t]
theorem eq_x (w : Int32) : S1_bits w 15 5 = S0_fieldX w := by rw [bt_15_5, fl_x]
theorem eq_y (w : Int32) : S1_bits w 20 5 = S0_fieldY w := by rw [bt_20_5, fl_y]
theorem eq_s (w : Int32) : S1_bits w 25 7 = S0_fieldS w := by
  rw [bt_25_7, fl_s, Nat.mod_eq_of_lt (by have := uw_lt w; omega)]
/-- an int by its number -/
theorem ti_eq {x y : Int32} (h : x.toInt = y.toInt) : x = y := Int32.toInt_inj.mp h
theorem ti_nI {n : Nat} (h : n < 2147483648) : (nI n).toInt = (n : Int) := nI_toInt h
theorem wS_ti {n : Nat} (k : Int32) (p q : Nat) (h1 : (1 : Int32) <<< ((k - 1) &&& 31) = nI p) (h2 : (1 : Int32) <<< (k &&& 31) = nI q) (hn : n < 2147483648) (hp : p < 2147483648) (hq : q < 2147483648) : (S1_withSign (nI n) k).toInt = if n < p then (n : Int) else (n : Int) - q := by
  unfold S1_withSign
  rw [h1, h2]
  split
  · rename_i h
    rw [nI_ltI hn hp] at h
    rw [if_pos h, ti_nI hn]
  · rename_i h
    rw [nI_ltI hn hp] at h
    rw [if_neg h, Int32.toInt_sub, ti_nI hn, ti_nI hq, Int.bmod_eq_of_le (by omega) (by omega)]
theorem eq_im (w : Int32) : S1_withSign (S1_bits w 20 12) 12 = S0_numberI w := by
  apply ti_eq
  have hw := uw_lt w
  have ht := uw_ti w
  have e : (S0_numberI w).toInt = w.toInt / ((2 ^ 20 : Nat) : Int) := ti_shr (k := 20) w (by decide)
  rw [bt_20_12, wS_ti 12 2048 4096 (by decide) (by decide) (by omega) (by decide) (by decide), e, ht]
  split <;> split <;> omega
theorem eq_sd (w : Int32) : S1_withSign (S0_fieldS w * 32 + S0_fieldD w) 12 = S0_storeDistance w := by
  apply ti_eq
  have hw := uw_lt w
  have ht := uw_ti w
  have e1 : S0_fieldS w * 32 + S0_fieldD w = nI (uw w / 2 ^ 25 * 32 + uw w / 2 ^ 7 % 2 ^ 5) := by
    rw [fl_s, fl_d, show (32 : Int32) = nI 32 from rfl, pk_mul, nI_add]
  have e2 : (w >>> ((25 : Int32) &&& 31)).toInt = w.toInt / ((2 ^ 25 : Nat) : Int) := ti_shr (k := 25) w (by decide)
  have e3 := uw_ti (w >>> ((25 : Int32) &&& 31))
  have e3l := uw_lt (w >>> ((25 : Int32) &&& 31))
  have e4 : uw ((w >>> ((25 : Int32) &&& 31)) <<< ((5 : Int32) &&& 31)) = uw (w >>> ((25 : Int32) &&& 31)) * 2 ^ 5 % 4294967296 := uw_shl (k := 5) _ (by decide)
  have e5 : uw (S0_fieldD w) = uw w / 2 ^ 7 % 2 ^ 5 := by rw [fl_d, uw_nI (by omega)]
  have e6 : uw (S0_storeDistance w) = uw ((w >>> ((25 : Int32) &&& 31)) <<< ((5 : Int32) &&& 31)) + uw (S0_fieldD w) := uw_orA 5 (by rw [e4]; omega) (by rw [e5]; omega)
  have e7 := uw_ti (S0_storeDistance w)
  rw [e1, wS_ti 12 2048 4096 (by decide) (by decide) (by omega) (by decide) (by decide), e7, e6, e4, e5]
  split at e3 <;> split at ht <;> split <;> split <;> omega
theorem sh31 (w : Int32) : uw (w >>> ((31 : Int32) &&& 31)) = if uw w < 2147483648 then 0 else 4294967295 := by
  have hw := uw_lt w
  have ht := uw_ti w
  have e2 : (w >>> ((31 : Int32) &&& 31)).toInt = w.toInt / ((2 ^ 31 : Nat) : Int) := ti_shr (k := 31) w (by decide)
  have e3 := uw_ti (w >>> ((31 : Int32) &&& 31))
  have e3l := uw_lt (w >>> ((31 : Int32) &&& 31))
  split at e3 <;> split at ht <;> split <;> omega
theorem eq_bd (w : Int32) : S1_withSign (S1_bits w 8 4 * 2 + S1_bits w 25 6 * 32 + S1_bits w 7 1 * 2048 + S1_bits w 31 1 * 4096) 13 = S0_branchDistance w := by
  apply ti_eq
  have hw := uw_lt w
  have e1 : S1_bits w 8 4 * 2 + S1_bits w 25 6 * 32 + S1_bits w 7 1 * 2048 + S1_bits w 31 1 * 4096 = nI (uw w / 2 ^ 8 % 2 ^ 4 * 2 + uw w / 2 ^ 25 % 2 ^ 6 * 32 + uw w / 2 ^ 7 % 2 ^ 1 * 2048 + uw w / 2 ^ 31 % 2 ^ 1 * 4096) := by
    rw [bt_8_4, bt_25_6, bt_7_1, bt_31_1, show (32 : Int32) = nI 32 from rfl, show (2 : Int32) = nI 2 from rfl, show (2048 : Int32) = nI 2048 from rfl, show (4096 : Int32) = nI 4096 from rfl, pk_mul, pk_mul, pk_mul, pk_mul, nI_add, nI_add, nI_add]
  have a1 : uw ((w >>> ((31 : Int32) &&& 31)) <<< ((12 : Int32) &&& 31)) = uw (w >>> ((31 : Int32) &&& 31)) * 2 ^ 12 % 4294967296 := uw_shl (k := 12) _ (by decide)
  rw [sh31] at a1
  have b1 : i_ushr w 7 &&& 1 = nI (uw w / 2 ^ 7 % 2 ^ 1) := ush_mask (f := 7) w 1 (by decide) 1 (by decide)
  have b2 : uw ((i_ushr w 7 &&& 1) <<< ((11 : Int32) &&& 31)) = uw (i_ushr w 7 &&& 1) * 2 ^ 11 % 4294967296 := uw_shl (k := 11) _ (by decide)
  rw [b1, uw_nI (by omega)] at b2
  have c1 : i_ushr w 25 &&& 63 = nI (uw w / 2 ^ 25 % 2 ^ 6) := ush_mask (f := 25) w 63 (by decide) 6 (by decide)
  have c2 : uw ((i_ushr w 25 &&& 63) <<< ((5 : Int32) &&& 31)) = uw (i_ushr w 25 &&& 63) * 2 ^ 5 % 4294967296 := uw_shl (k := 5) _ (by decide)
  rw [c1, uw_nI (by omega)] at c2
  have d1 : i_ushr w 8 &&& 15 = nI (uw w / 2 ^ 8 % 2 ^ 4) := ush_mask (f := 8) w 15 (by decide) 4 (by decide)
  have d2 : uw ((i_ushr w 8 &&& 15) <<< ((1 : Int32) &&& 31)) = uw (i_ushr w 8 &&& 15) * 2 ^ 1 % 4294967296 := uw_shl (k := 1) _ (by decide)
  rw [d1, uw_nI (by omega)] at d2
  have e7 := uw_ti (S0_branchDistance w)
  have e6 : uw (S0_branchDistance w) = (if uw w < 2147483648 then 0 else 4294967295) * 2 ^ 12 % 4294967296 + uw w / 2 ^ 7 % 2 ^ 1 * 2 ^ 11 % 4294967296 + uw w / 2 ^ 25 % 2 ^ 6 * 2 ^ 5 % 4294967296 + uw w / 2 ^ 8 % 2 ^ 4 * 2 ^ 1 % 4294967296 := by
    unfold S0_branchDistance
    rw [b1, c1, d1]
    have o1 := uw_orA (x := (w >>> ((31 : Int32) &&& 31)) <<< ((12 : Int32) &&& 31)) (y := nI (uw w / 2 ^ 7 % 2 ^ 1) <<< ((11 : Int32) &&& 31)) 12 (by rw [a1]; split <;> omega) (by rw [b2]; omega)
    have o2 := uw_orA (x := ((w >>> ((31 : Int32) &&& 31)) <<< ((12 : Int32) &&& 31)) ||| (nI (uw w / 2 ^ 7 % 2 ^ 1) <<< ((11 : Int32) &&& 31))) (y := nI (uw w / 2 ^ 25 % 2 ^ 6) <<< ((5 : Int32) &&& 31)) 11 (by rw [o1, a1, b2]; split <;> omega) (by rw [c2]; omega)
    rw [uw_orA 5 (by rw [o2, o1, a1, b2, c2]; split <;> omega) (by rw [d2]; omega), o2, o1, a1, b2, c2, d2]
  rw [e1, wS_ti 13 4096 8192 (by decide) (by decide) (by omega) (by decide) (by decide), e7, e6]
  split <;> split <;> split <;> omega
theorem eq_jd (w : Int32) : S1_withSign (S1_bits w 21 10 * 2 + S1_bits w 20 1 * 2048 + S1_bits w 12 8 * 4096 + S1_bits w 31 1 * 1048576) 21 = S0_jumpDistance w := by
  apply ti_eq
  have hw := uw_lt w
  have e1 : S1_bits w 21 10 * 2 + S1_bits w 20 1 * 2048 + S1_bits w 12 8 * 4096 + S1_bits w 31 1 * 1048576 = nI (uw w / 2 ^ 21 % 2 ^ 10 * 2 + uw w / 2 ^ 20 % 2 ^ 1 * 2048 + uw w / 2 ^ 12 % 2 ^ 8 * 4096 + uw w / 2 ^ 31 % 2 ^ 1 * 1048576) := by
    rw [bt_21_10, bt_20_1, bt_12_8, bt_31_1, show (2 : Int32) = nI 2 from rfl, show (2048 : Int32) = nI 2048 from rfl, show (4096 : Int32) = nI 4096 from rfl, show (1048576 : Int32) = nI 1048576 from rfl, pk_mul, pk_mul, pk_mul, pk_mul, nI_add, nI_add, nI_add]
  have a1 : uw ((w >>> ((31 : Int32) &&& 31)) <<< ((20 : Int32) &&& 31)) = uw (w >>> ((31 : Int32) &&& 31)) * 2 ^ 20 % 4294967296 := uw_shl (k := 20) _ (by decide)
  rw [sh31] at a1
  have b2 : uw (w &&& 1044480) = uw w / 2 ^ 12 % 2 ^ 8 * 2 ^ 12 := by
    rw [uw_and, show uw (1044480 : Int32) = (2 ^ 8 - 1) * 2 ^ 12 from by decide, nat_mask]
  have c1 : i_ushr w 20 &&& 1 = nI (uw w / 2 ^ 20 % 2 ^ 1) := ush_mask (f := 20) w 1 (by decide) 1 (by decide)
  have c2 : uw ((i_ushr w 20 &&& 1) <<< ((11 : Int32) &&& 31)) = uw (i_ushr w 20 &&& 1) * 2 ^ 11 % 4294967296 := uw_shl (k := 11) _ (by decide)
  rw [c1, uw_nI (by omega)] at c2
  have d1 : i_ushr w 21 &&& 1023 = nI (uw w / 2 ^ 21 % 2 ^ 10) := ush_mask (f := 21) w 1023 (by decide) 10 (by decide)
  have d2 : uw ((i_ushr w 21 &&& 1023) <<< ((1 : Int32) &&& 31)) = uw (i_ushr w 21 &&& 1023) * 2 ^ 1 % 4294967296 := uw_shl (k := 1) _ (by decide)
  rw [d1, uw_nI (by omega)] at d2
  have e7 := uw_ti (S0_jumpDistance w)
  have e6 : uw (S0_jumpDistance w) = (if uw w < 2147483648 then 0 else 4294967295) * 2 ^ 20 % 4294967296 + uw w / 2 ^ 12 % 2 ^ 8 * 2 ^ 12 + uw w / 2 ^ 20 % 2 ^ 1 * 2 ^ 11 % 4294967296 + uw w / 2 ^ 21 % 2 ^ 10 * 2 ^ 1 % 4294967296 := by
    unfold S0_jumpDistance
    rw [c1, d1]
    have o1 := uw_orA (x := (w >>> ((31 : Int32) &&& 31)) <<< ((20 : Int32) &&& 31)) (y := w &&& 1044480) 20 (by rw [a1]; split <;> omega) (by rw [b2]; omega)
    have o2 := uw_orA (x := ((w >>> ((31 : Int32) &&& 31)) <<< ((20 : Int32) &&& 31)) ||| (w &&& 1044480)) (y := nI (uw w / 2 ^ 20 % 2 ^ 1) <<< ((11 : Int32) &&& 31)) 12 (by rw [o1, a1, b2]; split <;> omega) (by rw [c2]; omega)
    rw [uw_orA 11 (by rw [o2, o1, a1, b2, c2]; split <;> omega) (by rw [d2]; omega), o2, o1, a1, b2, c2, d2]
  rw [e1, wS_ti 21 1048576 2097152 (by decide) (by decide) (by omega) (by decide) (by decide), e7, e6]
  split <;> split <;> split <;> omega
theorem eq_up (w : Int32) : (w >>> ((12 : Int32) &&& 31)) * 4096 = w &&& (-4096) := by
  apply uw_inj
  have hw := uw_lt w
  have ht := uw_ti w
  have e2 : (w >>> ((12 : Int32) &&& 31)).toInt = w.toInt / ((2 ^ 12 : Nat) : Int) := ti_shr (k := 12) w (by decide)
  have e3 := uw_ti (w >>> ((12 : Int32) &&& 31))
  have e3l := uw_lt (w >>> ((12 : Int32) &&& 31))
  rw [uw_mul, uw_and, show uw (-4096 : Int32) = (2 ^ 20 - 1) * 2 ^ 12 from by decide, nat_mask, show uw (4096 : Int32) = 4096 from by decide]
  split at e3 <;> split at ht <;> omega
