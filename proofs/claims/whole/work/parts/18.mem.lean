theorem uw_xor (x y : Int32) : uw (x ^^^ y) = uw x ^^^ uw y := BitVec.toNat_xor x.toBitVec y.toBitVec
theorem tb_shl (x : Int32) {s : Nat} (hs : s < 32) (i : Nat) : (uw (x <<< (nI s &&& 31))).testBit i = (decide (i < 32) && (decide (s ≤ i) && (uw x).testBit (i - s))) := by
  rw [uw_shl x hs, show (4294967296 : Nat) = 2 ^ 32 from rfl, Nat.testBit_mod_two_pow, ← Nat.shiftLeft_eq, Nat.testBit_shiftLeft]
theorem rep_tb (old v m : Int32) (n : Nat) {s : Nat} (hs : s < 32) (hm : uw m = 2 ^ (8 * n) - 1) {i : Nat} (hi : i < 32) : (uw ((old &&& ((m <<< (nI s &&& 31)) ^^^ (-1))) ||| ((v &&& m) <<< (nI s &&& 31)))).testBit i = if s ≤ i ∧ i - s < 8 * n then (uw v).testBit (i - s) else (uw old).testBit i := by
  rw [uw_or, Nat.testBit_or, uw_and, Nat.testBit_and, uw_xor, Nat.testBit_xor, tb_shl _ hs, tb_shl _ hs, uw_and, Nat.testBit_and, hm, Nat.testBit_two_pow_sub_one, show uw (-1 : Int32) = 2 ^ 32 - 1 from by decide, Nat.testBit_two_pow_sub_one]
  by_cases h1 : s ≤ i <;> by_cases h2 : i - s < 8 * n <;> simp [hi, h1, h2]
theorem bn_tb (x : Int32) (k i : Nat) : (bnat x k).testBit i = (decide (i < 8) && (uw x).testBit (8 * k + i)) := by
  show (uw x / 2 ^ (8 * k) % 256).testBit i = _
  rw [show (256 : Nat) = 2 ^ 8 from rfl, Nat.testBit_mod_two_pow, ← Nat.shiftRight_eq_div_pow, Nat.testBit_shiftRight]
theorem rep_bn (old v m : Int32) (n o k : Nat) (ho : o < 4) (hk : k < 4) (hm : uw m = 2 ^ (8 * n) - 1) : bnat ((old &&& ((m <<< (nI (8 * o) &&& 31)) ^^^ (-1))) ||| ((v &&& m) <<< (nI (8 * o) &&& 31))) k = if o ≤ k ∧ k < o + n then bnat v (k - o) else bnat old k := by
  apply Nat.eq_of_testBit_eq
  intro i
  rw [bn_tb]
  by_cases hi : i < 8
  · rw [rep_tb old v m n (by omega) hm (by omega)]
    by_cases hc : o ≤ k ∧ k < o + n
    · rw [if_pos hc, if_pos (by omega), bn_tb, show 8 * k + i - 8 * o = 8 * (k - o) + i by omega]
    · rw [if_neg hc, if_neg (by omega), bn_tb]
  · have h1 : ∀ y q, (bnat y q).testBit i = false := fun y q => by rw [bn_tb]; simp [hi]
    split <;> simp [h1, hi]
theorem bn_lt (x : Int32) (k : Nat) : bnat x k < 256 := Nat.mod_lt _ (by decide)
/-- places -/
theorem off_nI {j : Nat} (hj : j < 4096) : S0_bitOffset (nI j) = nI (8 * (j % 4)) := by
  unfold S0_bitOffset
  rw [show (4 : Int32) = nI 4 from rfl, pk_rem (by omega) (by decide) (by decide), show (8 : Int32) = nI 8 from rfl, pk_mul, Nat.mul_comm]
theorem dv_nI {j : Nat} (hj : j < 4096) : (nI j / 4).toNatClampNeg = j / 4 := by
  rw [show (4 : Int32) = nI 4 from rfl, pk_div (by omega) (by decide) (by decide), nI_clamp (by omega)]
theorem bf_uw {j : Nat} (hj : j < 4096) (u : WS) : uw (S0_bitsFrom (nI j) u) = uw (W_mem u (j / 4)) / 2 ^ (8 * (j % 4)) := by
  unfold S0_bitsFrom
  rw [off_nI hj, dv_nI hj, uw_ushr _ (by omega)]
theorem rb_eq {j : Nat} (hj : j < 4096) (b v : Int32) (u : WS) : S0_replaceBits (nI j) b v u = Wp_mem (upd (W_mem u) (j / 4) ((W_mem u (j / 4) &&& ((b <<< (nI (8 * (j % 4)) &&& 31)) ^^^ (-1))) ||| ((v &&& b) <<< (nI (8 * (j % 4)) &&& 31)))) u := by
  unfold S0_replaceBits
  rw [off_nI hj, dv_nI hj]
/-- an address of n bytes is there, in both ways of saying it -/
theorem nI_0i {n : Nat} (h : n < 4294967296) : nI n = 0 ↔ n = 0 := by
  constructor
  · intro e
    have e2 := congrArg uw e
    rw [uw_nI h] at e2
    exact e2
  · rintro rfl
    rfl
theorem adr_iff (a : Int32) (n : Nat) (hn : n = 1 ∨ n = 2 ∨ n = 4) : (¬ S0_isAddress a (nI n) = 0) ↔ (uw a % n = 0 ∧ uw a + n ≤ 4096) := by
  have ha := uw_lt a
  have ht := uw_ti a
  have em : S0_isMultiple a (nI n) = if uw a % n = 0 then 1 else 0 := by
    unfold S0_isMultiple
    rcases hn with rfl | rfl | rfl
    · rw [and_mask a (nI 1 - 1) 0 (by decide)]
      simp only [nI_0i (show uw a % 2 ^ 0 < 4294967296 by omega)]
    · rw [and_mask a (nI 2 - 1) 1 (by decide)]
      simp only [nI_0i (show uw a % 2 ^ 1 < 4294967296 by omega)]
    · rw [and_mask a (nI 4 - 1) 2 (by decide)]
      simp only [nI_0i (show uw a % 2 ^ 2 < 4294967296 by omega)]
  have es : ((4096 : Int32) - nI n).toInt = 4096 - (n : Int) := pk_sub_toInt (a := 4096) (by omega) (by omega)
  have e0 : (0 : Int32).toInt = 0 := rfl
  unfold S0_isAddress
  rw [em]
  split
  · rename_i h
    rw [Int32.lt_iff_toInt_lt] at h
    constructor
    · intro hh
      exact absurd rfl hh
    · intro hh
      exfalso
      split at ht <;> omega
  · rename_i h
    rw [Int32.lt_iff_toInt_lt] at h
    split
    · rename_i h2
      rw [Int32.lt_iff_toInt_lt, es] at h2
      constructor
      · intro hh
        exact absurd rfl hh
      · intro hh
        exfalso
        split at ht <;> omega
    · rename_i h2
      rw [Int32.lt_iff_toInt_lt, es] at h2
      by_cases hm : uw a % n = 0
      · rw [if_pos hm, if_neg (by decide)]
        constructor
        · intro _
          refine ⟨hm, ?_⟩
          split at ht <;> omega
        · intro _
          decide
      · rw [if_neg hm, if_pos rfl]
        constructor
        · intro hh
          exact absurd rfl hh
        · intro hh
          exact absurd hh.1 hm
theorem lN_0i {n : Nat} (h : n < 2 ^ 63) : lN n = 0 ↔ n = 0 := pk_lEQ (b := 0) h (by decide)
theorem there_iff (a : Int32) (n : Nat) (hn : n = 1 ∨ n = 2 ∨ n = 4) (v : MS) : (¬ S1_isThere (S0_unsigned a) (nI n) v = 0) ↔ (uw a % n = 0 ∧ uw a + n ≤ 4096) := by
  have ha := uw_lt a
  have hn2 : 0 < n ∧ n ≤ 4 := by omega
  have hm : uw a % n < n := Nat.mod_lt _ hn2.1
  unfold S1_isThere
  rw [nI_l (by omega), uns_lN, pk_lRem (by omega) hn2.1 (by omega), lN_add]
  have c1 : lg_cmp (lN (uw a % n)) 0 = 0 ↔ uw a % n = 0 := by rw [lg_cmp_eq, lN_0i (by omega)]
  have c2 : 0 < lg_cmp (lN (uw a + n)) 4096 ↔ 4096 < uw a + n := by
    rw [lg_cmp_gt]
    exact pk_lLT (a := 4096) (by decide) (by omega)
  by_cases h1 : uw a % n = 0
  · rw [if_pos (c1.mpr h1)]
    by_cases h2 : 4096 < uw a + n
    · rw [if_pos (c2.mpr h2)]
      constructor
      · intro hh
        exact absurd rfl hh
      · intro hh
        omega
    · rw [if_neg (fun h => h2 (c2.mp h))]
      constructor
      · intro _
        exact ⟨h1, by omega⟩
      · intro _
        decide
  · rw [if_neg (fun h => h1 (c1.mp h))]
    constructor
    · intro hh
      exact absurd rfl hh
    · intro hh
      exact absurd hh.1 h1
/-- a byte with its sign -/
theorem sb_of (x : Int32) : x.toInt8.toInt32 = (nI (uw x % 256)).toInt8.toInt32 := by
  have e : x.toInt8 = (nI (uw x % 256)).toInt8 := by
    apply Int8.toBitVec_inj.mp
    apply BitVec.eq_of_toNat_eq
    show (x.toBitVec.signExtend 8).toNat = ((nI (uw x % 256)).toBitVec.signExtend 8).toNat
    rw [BitVec.signExtend_eq_setWidth_of_le _ (by decide), BitVec.signExtend_eq_setWidth_of_le _ (by decide), BitVec.toNat_setWidth, BitVec.toNat_setWidth]
    show uw x % 2 ^ 8 = uw (nI (uw x % 256)) % 2 ^ 8
    rw [uw_nI (by omega)]
    omega
  rw [e]
theorem ti8 (x : Int32) : x.toInt8.toInt32.toInt = if uw x % 256 < 128 then ((uw x % 256 : Nat) : Int) else ((uw x % 256 : Nat) : Int) - 256 := by
  have hx := uw_lt x
  have ht := uw_ti x
  rw [Int8.toInt_toInt32, Int32.toInt_toInt8, Int.bmod_def]
  split at ht <;> split <;> split <;> omega
theorem ti16 (x : Int32) : x.toInt16.toInt32.toInt = if uw x % 65536 < 32768 then ((uw x % 65536 : Nat) : Int) else ((uw x % 65536 : Nat) : Int) - 65536 := by
  have hx := uw_lt x
  have ht := uw_ti x
  rw [Int16.toInt_toInt32, Int32.toInt_toInt16, Int.bmod_def]
  split at ht <;> split <;> split <;> omega
/-- the reference's store, byte by byte -/
theorem sloop_eq (A Y : Nat) (hY : Y < 4294967296) : ∀ (n k : Nat) (w : MS), A + k + n ≤ 4096 → ∃ f : Nat → Int32, S1_sloop n (lN A) (nI k) (lN (Y / 256 ^ k)) w = (0, Mp_mem f w) ∧ ∀ b : Nat, f b = if A + k ≤ b ∧ b < A + k + n then (nI (Y / 256 ^ (b - A) % 256)).toInt8.toInt32 else M_mem w b := by
  intro n
  induction n with
  | zero =>
    intro k w hk
    refine ⟨M_mem w, rfl, fun b => ?_⟩
    rw [if_neg (by omega)]
  | succ n ih =>
    intro k w hk
    have hd : Y / 256 ^ k < 4294967296 := Nat.lt_of_le_of_lt (Nat.div_le_self _ _) hY
    have e1 : lN (Y / 256 ^ k) / 256 = lN (Y / 256 ^ (k + 1)) := by
      rw [show lN (Y / 256 ^ k) / 256 = lN (Y / 256 ^ k / 256) from pk_lDiv (b := 256) (by omega) (by decide) (by decide), Nat.div_div_eq_div_mul, Nat.pow_succ]
    have e2 : lN (Y / 256 ^ k) - lN (Y / 256 ^ k) / 256 * 256 = lN (Y / 256 ^ k % 256) := pk_lRem (b := 256) (by omega) (by decide) (by decide)
    have e3 : ((lN A).toInt32 + nI k).toNatClampNeg = A + k := by rw [lN_i, nI_add, nI_clamp (by omega)]
    rw [S1_sloop, e3, e2, e1, lN_i, pk_vb, nI_1]
    obtain ⟨f, hf, hb⟩ := ih (k + 1) (Mp_mem (upd (M_mem w) (A + k) (nI (Y / 256 ^ k % 256)).toInt8.toInt32) w) (by omega)
    refine ⟨f, hf, fun b => ?_⟩
    rw [hb b]
    by_cases h1 : A + (k + 1) ≤ b ∧ b < A + (k + 1) + n
    · rw [if_pos h1, if_pos (by omega)]
    · rw [if_neg h1]
      show upd (M_mem w) (A + k) (nI (Y / 256 ^ k % 256)).toInt8.toInt32 b = _
      unfold upd
      by_cases h2 : b = A + k
      · rw [if_pos h2, if_pos (by omega), h2, show A + k - A = k by omega]
      · rw [if_neg h2, if_neg (by omega)]
