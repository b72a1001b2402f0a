theorem ix_of {r : Int32} {n : Nat} (h1 : 0 ≤ r.toInt) (h2 : r.toInt < n) : vp_in r n := vp_in_iff.mpr ⟨h1, h2⟩
theorem ix_reg {r : Int32} (h1 : ¬ r ≤ 0) (h2 : ¬ (32 : Int32) ≤ r) : vp_in r 32 := by
  rw [Int32.le_iff_toInt_le] at h1 h2
  have e1 : (0 : Int32).toInt = 0 := rfl
  have e2 : (32 : Int32).toInt = 32 := rfl
  exact ix_of (by omega) (by omega)
theorem ix_give {r : Int32} (h1 : ¬ r ≤ 0) (h2 : r < 32) : vp_in r 32 := by
  rw [Int32.le_iff_toInt_le] at h1
  rw [Int32.lt_iff_toInt_lt] at h2
  have e1 : (0 : Int32).toInt = 0 := rfl
  have e2 : (32 : Int32).toInt = 32 := rfl
  exact ix_of (by omega) (by omega)
theorem ix_get {r : Int32} (h1 : ¬ r < 0) (h2 : ¬ (32 : Int32) ≤ r) : vp_in r 32 := by
  rw [Int32.lt_iff_toInt_lt] at h1
  rw [Int32.le_iff_toInt_le] at h2
  have e1 : (0 : Int32).toInt = 0 := rfl
  have e2 : (32 : Int32).toInt = 32 := rfl
  exact ix_of (by omega) (by omega)
theorem ix_poke {r : Int32} (h1 : ¬ r < 0) (h2 : r ≤ 4095) : vp_in r 4096 := by
  rw [Int32.lt_iff_toInt_lt] at h1
  rw [Int32.le_iff_toInt_le] at h2
  have e1 : (0 : Int32).toInt = 0 := rfl
  have e2 : (4095 : Int32).toInt = 4095 := rfl
  exact ix_of (by omega) (by omega)
theorem ix_peek {r : Int32} (h1 : ¬ r < 0) (h2 : ¬ (4096 : Int32) ≤ r) : vp_in r 4096 := by
  rw [Int32.lt_iff_toInt_lt] at h1
  rw [Int32.le_iff_toInt_le] at h2
  have e1 : (0 : Int32).toInt = 0 := rfl
  have e2 : (4096 : Int32).toInt = 4096 := rfl
  exact ix_of (by omega) (by omega)
theorem ix_word {n : Int32} (h : 0 ≤ n) (h2 : n < 1024) : vp_in n 1024 := by
  rw [Int32.le_iff_toInt_le] at h
  rw [Int32.lt_iff_toInt_lt] at h2
  have e1 : (0 : Int32).toInt = 0 := rfl
  have e2 : (1024 : Int32).toInt = 1024 := rfl
  exact ix_of (by omega) (by omega)
theorem ix_word1 {n : Int32} (h : 0 ≤ n) (h1 : n ≤ 1024) (c : ¬ n = 1024) : vp_in n 1024 := by
  have h3 : ¬ n.toInt = (1024 : Int32).toInt := fun e => c (Int32.toInt_inj.mp e)
  rw [Int32.le_iff_toInt_le] at h h1
  have e1 : (0 : Int32).toInt = 0 := rfl
  have e2 : (1024 : Int32).toInt = 1024 := rfl
  exact ix_of (by omega) (by omega)
theorem lt32 {r : Int32} (h : r ≤ 31) : r < 32 := by
  rw [Int32.le_iff_toInt_le] at h
  rw [Int32.lt_iff_toInt_lt]
  have e1 : (31 : Int32).toInt = 31 := rfl
  have e2 : (32 : Int32).toInt = 32 := rfl
  omega
theorem in_fieldX (w : Int32) : vp_in (S0_fieldX w) 32 := pk_andIn (m := 31) _ 5 (by decide) (by decide)
theorem in_fieldY (w : Int32) : vp_in (S0_fieldY w) 32 := pk_andIn (m := 31) _ 5 (by decide) (by decide)
theorem dv4 {a : Int32} (h : ¬ a < 0) : ∃ j : Nat, j < 2 ^ 31 ∧ a = nI j ∧ a / 4 = nI (j / 4) := by
  obtain ⟨j, hj, e⟩ := nI_of h
  exact ⟨j, hj, e, by rw [e]; exact pk_div hj (by decide) (by decide)⟩
theorem ix_div4 {a : Int32} (h : ¬ a < 0) (h2 : a.toInt ≤ 4095) : vp_in (a / 4) 1024 := by
  obtain ⟨j, hj, e, e4⟩ := dv4 h
  rw [e4]
  rw [e, nI_toInt hj] at h2
  exact vp_in_nI (by omega) (by decide)
theorem ix_code {a n : Int32} (h1 : ¬ a < 0) (h3 : a / 4 < n) (hw : n ≤ 1024) : vp_in (a / 4) 1024 := by
  obtain ⟨j, hj, e, e4⟩ := dv4 h1
  rw [e4] at h3 ⊢
  rw [Int32.lt_iff_toInt_lt, nI_toInt (by omega)] at h3
  rw [Int32.le_iff_toInt_le] at hw
  have e2 : (1024 : Int32).toInt = 1024 := rfl
  exact vp_in_nI (by omega) (by decide)
theorem ix_place {a : Int32} {u : WS} (h : ¬ S0_isPlaceOfWord a u = 0) (hw : W_wc u ≤ 1024) : vp_in (a / 4) 1024 := by
  unfold S0_isPlaceOfWord at h
  split at h
  · exact absurd rfl h
  · split at h
    · exact absurd rfl h
    · split at h
      · exact absurd rfl h
      · rename_i h1 _ h3
        refine ix_code h1 ?_ hw
        rw [Int32.le_iff_toInt_le] at h3
        rw [Int32.lt_iff_toInt_lt]
        omega
theorem ix_isreg {r : Int32} (h : ¬ S0_isRegister r = 0) : vp_in r 32 := by
  unfold S0_isRegister at h
  split at h
  · exact absurd rfl h
  · split at h
    · exact absurd rfl h
    · rename_i h1 h2
      exact ix_get h1 h2
theorem width_cases (t : Int32) : S0_widthOf t = 1 ∨ S0_widthOf t = 2 ∨ S0_widthOf t = 4 ∨ S0_widthOf t = 8 := by
  obtain ⟨j, hj, e⟩ := pk_andE t (m := 3) 2 (by decide)
  unfold S0_widthOf
  rw [e]
  match j, hj with
  | 0, _ => exact Or.inl (by decide)
  | 1, _ => exact Or.inr (Or.inl (by decide))
  | 2, _ => exact Or.inr (Or.inr (Or.inl (by decide)))
  | 3, _ => exact Or.inr (Or.inr (Or.inr (by decide)))
  | j + 4, h => exact absurd h (by omega)
theorem ix_addr {a b : Int32} (hb : b = 1 ∨ b = 2 ∨ b = 4 ∨ b = 8) (h : ¬ S0_isAddress a b = 0) : vp_in (a / 4) 1024 := by
  unfold S0_isAddress at h
  split at h
  · exact absurd rfl h
  · split at h
    · exact absurd rfl h
    · rename_i h1 h2
      refine ix_div4 h1 ?_
      rw [Int32.lt_iff_toInt_lt] at h2
      rcases hb with rfl | rfl | rfl | rfl
      · have e : ((4096 : Int32) - 1).toInt = 4095 := by decide
        omega
      · have e : ((4096 : Int32) - 2).toInt = 4094 := by decide
        omega
      · have e : ((4096 : Int32) - 4).toInt = 4092 := by decide
        omega
      · have e : ((4096 : Int32) - 8).toInt = 4088 := by decide
        omega
theorem ix_addrW {a t : Int32} (h : ¬ S0_isAddress a (S0_widthOf t) = 0) : vp_in (a / 4) 1024 := ix_addr (width_cases t) h
theorem ix_addr1 {a : Int32} (h : ¬ S0_isAddress a 1 = 0) : vp_in (a / 4) 1024 := ix_addr (Or.inl rfl) h
theorem cmp_ne {y : Int64} (h : ¬ lg_cmp y 0 = 0) : ¬ y = 0 := fun e => h ((lg_cmp_eq y 0).mpr e)
theorem bits5_eq (w f : Int32) : S1_bits w f 5 = ((l_shr (S1_plain w.toInt64) f).toInt32) &&& 31 := by
  unfold S1_bits
  rw [show ((1 : Int32) <<< ((5 : Int32) &&& 31)) - 1 = 31 from by decide]
theorem in_bits5 (w f : Int32) : vp_in (S1_bits w f 5) 32 := by
  rw [bits5_eq]
  exact pk_andIn (m := 31) _ 5 (by decide) (by decide)
theorem lt_bits5 (w f : Int32) : S1_bits w f 5 < 32 := by
  have h := (vp_in_iff.mp (in_bits5 w f)).2
  rw [Int32.lt_iff_toInt_lt]
  exact h
/-- loops: counter and bound -/
theorem rn_ge {n : Int32} {j : Nat} (h0 : ¬ n < 0) (h : j + 0 = n.toNatClampNeg) : n ≤ nI j := by
  obtain ⟨k, hk, rfl⟩ := nI_of h0
  rw [nI_clamp hk] at h
  exact nI_le (by omega) (by omega)
theorem rn_lt {n : Int32} {j : Nat} (h0 : ¬ n < 0) (h : j < n.toNatClampNeg) : ¬ n ≤ nI j := by
  obtain ⟨k, hk, rfl⟩ := nI_of h0
  rw [nI_clamp hk] at h
  exact nI_ge h hk
theorem lclamp {n : Int64} : (n.toNatClampNeg : Int) = if 0 ≤ n.toInt then n.toInt else 0 := by
  have e : n.toNatClampNeg = n.toInt.toNat := rfl
  rw [e]
  split <;> omega
theorem lclamp_lt (n : Int64) : n.toNatClampNeg < 2 ^ 63 := by
  have h := Int64.toInt_lt n
  have e := lclamp (n := n)
  split at e <;> omega
theorem pw_ge {n : Int64} {j : Nat} (h : j + 0 = n.toNatClampNeg) : 0 ≤ lg_cmp (lN j) n := by
  rw [lg_cmp_ge, Int64.le_iff_toInt_le, pk_lT (by have := lclamp_lt n; omega)]
  have e := lclamp (n := n)
  split at e <;> omega
theorem pw_lt {n : Int64} {j : Nat} (h : j < n.toNatClampNeg) : ¬ 0 ≤ lg_cmp (lN j) n := by
  rw [lg_cmp_ge, Int64.le_iff_toInt_le, pk_lT (by have := lclamp_lt n; omega)]
  have e := lclamp (n := n)
  split at e <;> omega
theorem pw_dbl (j : Nat) : lN (2 ^ j) * 2 = lN (2 ^ (j + 1)) := by
  have h := lN_mul (2 ^ j) 2
  rw [Nat.pow_succ, ← h]
  rfl
/-- the rest by 32, as a number -/
theorem tdv (a : Int) {d : Int} (hd : 0 < d) : a.tdiv d = if 0 ≤ a then a / d else -((-a) / d) := by
  split
  · rename_i h
    exact Int.tdiv_eq_ediv_of_nonneg h
  · rename_i h
    have e := Int.neg_tdiv (-a) d
    rw [Int.neg_neg] at e
    rw [e, Int.tdiv_eq_ediv_of_nonneg (by omega)]
theorem rem32 (b : Int64) : (b - b / 32 * 32).toNatClampNeg < 32 := by
  have h1 := Int64.le_toInt b
  have h2 := Int64.toInt_lt b
  have e0 : (32 : Int64).toInt = 32 := rfl
  have ht := tdv b.toInt (d := 32) (by decide)
  generalize hq : b.toInt.tdiv 32 = q at ht
  have hb1 : -(2 ^ 58) ≤ q ∧ q < 2 ^ 58 + 1 ∧ -32 < b.toInt - q * 32 ∧ b.toInt - q * 32 < 32 := by
    split at ht <;> omega
  have ed : (b / 32).toInt = q := by
    rw [Int64.toInt_div, e0, hq]
    apply Int.bmod_eq_of_le <;> omega
  have em : (b / 32 * 32).toInt = q * 32 := by
    rw [Int64.toInt_mul, ed, e0]
    apply Int.bmod_eq_of_le <;> omega
  have es : (b - b / 32 * 32).toInt = b.toInt - q * 32 := by
    rw [Int64.toInt_sub, em]
    apply Int.bmod_eq_of_le <;> omega
  have e := lclamp (n := b - b / 32 * 32)
  rw [es] at e
  split at e <;> omega
theorem pw_ne (b : Int64) : ¬ S1_power (b - b / 32 * 32) = 0 := by
  intro h
  have hl := rem32 b
  unfold S1_power at h
  have hp : 2 ^ (b - b / 32 * 32).toNatClampNeg ≤ 2 ^ 31 := Nat.pow_le_pow_right (by decide) (by omega)
  have h2 := congrArg Int64.toInt h
  rw [pk_lT (by omega)] at h2
  have h3 : 0 < 2 ^ (b - b / 32 * 32).toNatClampNeg := Nat.pow_pos (by decide)
  have e0 : (0 : Int64).toInt = 0 := rfl
  omega
theorem width_any (l : Int32) (u : MS) : S1_width l u = 0 ∨ S1_width l u = 1 ∨ S1_width l u = 2 ∨ S1_width l u = 4 := by
  unfold S1_width
  repeat' split
  all_goals simp
theorem width_pos (u : MS) : ¬ S1_width 1 u < 0 := by
  rcases width_any 1 u with h | h | h | h <;> rw [h] <;> decide
theorem width_pos0 (u : MS) : ¬ S1_width 0 u < 0 := by
  rcases width_any 0 u with h | h | h | h <;> rw [h] <;> decide
theorem width_le (u : MS) : ∃ N : Nat, N ≤ 4 ∧ S1_width 1 u = nI N := by
  rcases width_any 1 u with h | h | h | h
  · exact ⟨0, by decide, h⟩
  · exact ⟨1, by decide, h⟩
  · exact ⟨2, by decide, h⟩
  · exact ⟨4, by decide, h⟩
theorem width_le0 (u : MS) : ∃ N : Nat, N ≤ 4 ∧ S1_width 0 u = nI N := by
  rcases width_any 0 u with h | h | h | h
  · exact ⟨0, by decide, h⟩
  · exact ⟨1, by decide, h⟩
  · exact ⟨2, by decide, h⟩
  · exact ⟨4, by decide, h⟩
theorem width_ne {l : Int32} {u : MS} (h : ¬ S1_width l u = 0) : ¬ (S1_width l u).toInt64 = 0 := by
  rcases width_any l u with e | e | e | e
  · exact absurd e h
  · rw [e]; decide
  · rw [e]; decide
  · rw [e]; decide
/-- a plain number is one of 32 bits -/
theorem plain_lN (z : Int64) : ∃ k : Nat, k < 2 ^ 32 ∧ S1_plain z = lN k := by
  refine ⟨z.toBitVec.toNat % 2 ^ 32, Nat.mod_lt _ (by decide), ?_⟩
  apply Int64.toBitVec_inj.mp
  apply BitVec.eq_of_toNat_eq
  show (z.toBitVec &&& (4294967295 : Int64).toBitVec).toNat = (BitVec.ofNat 64 (z.toBitVec.toNat % 2 ^ 32)).toNat
  rw [BitVec.toNat_and, show (4294967295 : Int64).toBitVec.toNat = 2 ^ 32 - 1 from by decide, Nat.and_two_pow_sub_one_eq_mod, BitVec.toNat_ofNat, Nat.mod_eq_of_lt (a := z.toBitVec.toNat % 2 ^ 32)]
  exact Nat.lt_of_lt_of_le (Nat.mod_lt _ (by decide)) (by decide)
theorem ix_there {z : Int64} {n : Int32} {u : MS} {j : Nat} (h : ¬ S1_isThere (S1_plain z) n u = 0) (hn : ∃ N : Nat, N ≤ 4 ∧ n = nI N) (hj : j < n.toNatClampNeg) : vp_in ((S1_plain z).toInt32 + nI j) 4096 := by
  obtain ⟨N, hN, rfl⟩ := hn
  rw [nI_clamp (by omega)] at hj
  obtain ⟨k, hk, e⟩ := plain_lN z
  rw [e] at h ⊢
  unfold S1_isThere at h
  split at h
  · split at h
    · exact absurd rfl h
    · rename_i _ h2
      rw [lg_cmp_gt, nI_l (by omega), lN_add, show (4096 : Int64) = lN 4096 from rfl, pk_lLT (by decide) (by omega)] at h2
      rw [lN_i, nI_add]
      exact vp_in_nI (by omega) (by decide)
  · exact absurd rfl h
/-- what division by a signed register needs of the registers -/
def RP (z : Int64) : Prop := ¬ z = 0 → ¬ S1_signed z = 0
def RG (u : MS) : Prop := ∀ i : Nat, i < 32 → RP (M_regs u i)
theorem rg_at {u : MS} {i : Int32} (h : RG u) (hi : vp_in i 32) : ¬ M_regs u i.toNatClampNeg = 0 → ¬ S1_signed (M_regs u i.toNatClampNeg) = 0 := h _ (by
  have := Nat.not_le.mp (fun q => hi (Or.inr q))
  exact this)
theorem rp_plain (z : Int64) : RP (S1_plain z) := by
  obtain ⟨k, hk, e⟩ := plain_lN z
  rw [e]
  intro h0 h
  unfold S1_signed at h
  split at h
  · exact h0 h
  · have h2 := congrArg Int64.toInt h
    rw [Int64.toInt_sub, pk_lT (by omega), show (4294967296 : Int64).toInt = 4294967296 from rfl, show (0 : Int64).toInt = 0 from rfl, Int.bmod_eq_of_le (by omega) (by omega)] at h2
    omega
/-- WordMachine: a step keeps the number of words -/
theorem wc_reg (r v : Int32) (u : WS) : W_wc (S0_setRegister r v u) = W_wc u := by
  unfold S0_setRegister
  repeat' split
  all_goals rfl
theorem wc_tell (w v : Int32) (u : WS) : W_wc (S0_tell w v u).2 = W_wc u := wc_reg _ _ _
theorem wc_jump (w v : Int32) (u : WS) : W_wc (S0_jump w v u).2 = W_wc u := wc_reg _ _ _
theorem wc_load (w : Int32) (u : WS) : W_wc (S0_load w u).2 = W_wc u := by
  unfold S0_load
  repeat' split
  all_goals first | rfl | exact wc_tell _ _ _ | exact wc_jump _ _ _
theorem wc_calculateWithNumber (w : Int32) (u : WS) : W_wc (S0_calculateWithNumber w u).2 = W_wc u := by
  unfold S0_calculateWithNumber
  repeat' split
  all_goals first | rfl | exact wc_tell _ _ _ | exact wc_jump _ _ _
theorem wc_store (w : Int32) (u : WS) : W_wc (S0_store w u).2 = W_wc u := by
  unfold S0_store
  repeat' split
  all_goals first | rfl | exact wc_tell _ _ _ | exact wc_jump _ _ _
theorem wc_calculateWithRegister (w : Int32) (u : WS) : W_wc (S0_calculateWithRegister w u).2 = W_wc u := by
  unfold S0_calculateWithRegister
  repeat' split
  all_goals first | rfl | exact wc_tell _ _ _ | exact wc_jump _ _ _
theorem wc_branch (w : Int32) (u : WS) : W_wc (S0_branch w u).2 = W_wc u := by
  unfold S0_branch
  repeat' split
  all_goals first | rfl | exact wc_tell _ _ _ | exact wc_jump _ _ _
theorem wc_jumpToRegister (w : Int32) (u : WS) : W_wc (S0_jumpToRegister w u).2 = W_wc u := by
  unfold S0_jumpToRegister
  repeat' split
  all_goals first | rfl | exact wc_tell _ _ _ | exact wc_jump _ _ _
theorem wc_ask (w : Int32) (u : WS) : W_wc (S0_ask w u).2 = W_wc u := by
  unfold S0_ask
  repeat' split
  all_goals first | rfl | exact wc_tell _ _ _ | exact wc_jump _ _ _
theorem wc_perform (w : Int32) (u : WS) : W_wc (S0_perform w u).2 = W_wc u := by
  unfold S0_perform
  repeat' split
  all_goals first | rfl | exact wc_tell _ _ _ | exact wc_jump _ _ _ | exact wc_load _ _ | exact wc_calculateWithNumber _ _ | exact wc_store _ _ | exact wc_calculateWithRegister _ _ | exact wc_branch _ _ | exact wc_jumpToRegister _ _ | exact wc_ask _ _
theorem wc0_step (u : WS) : W_wc (S0_step u).2 = W_wc u := by
  unfold S0_step
  repeat' split
  all_goals first | rfl | exact wc_perform _ _
/-- the reference: a step keeps the number of words, and what is said of the registers -/
def K1 (a b : MS) : Prop := M_wc a = M_wc b ∧ (RG b → RG a)
theorem K1_rf (a : MS) : K1 a a := ⟨rfl, fun h => h⟩
theorem K1_tr {a b c : MS} (h : K1 a b) (g : K1 b c) : K1 a c := ⟨h.1.trans g.1, fun x => h.2 (g.2 x)⟩
theorem K1_give (r : Int32) (v : Int64) (u : MS) : K1 (S1_give r v u) u := by
  unfold S1_give
  split
  · exact K1_rf u
  · refine ⟨rfl, fun h i hi => ?_⟩
    show RP (vp_updL (M_regs u) r.toNatClampNeg (S1_plain v) i)
    unfold vp_updL
    split
    · exact rp_plain v
    · exact h i hi
theorem K1_sloop : ∀ (n : Nat) (a : Int64) (k : Int32) (y : Int64) (w : MS), K1 (S1_sloop n a k y w).2 w
  | 0, _, _, _, w => K1_rf w
  | n + 1, a, k, y, w => K1_tr (K1_sloop n a (k + 1) (y / 256) _) ⟨rfl, fun h => h⟩
theorem K1_lfin (v wo : Int64) (u : MS) : K1 (S1_lfin v wo u).2 u := by
  unfold S1_lfin
  repeat' split
  all_goals exact K1_give _ _ _
theorem K1_lloop : ∀ (n : Nat) (a : Int64) (k : Int32) (v wo : Int64) (u : MS), K1 (S1_lloop n a k v wo u).2 u
  | 0, _, _, v, wo, u => K1_lfin v wo u
  | n + 1, a, k, v, wo, u => K1_lloop n a (k + 1) _ _ u
theorem K1_load (u : MS) : K1 (S1_load u).2 u := by
  unfold S1_load
  repeat' split
  all_goals first | exact K1_rf u | exact K1_lloop _ _ _ _ _ u
theorem K1_store (u : MS) : K1 (S1_store u).2 u := by
  unfold S1_store
  repeat' split
  all_goals first | exact K1_rf u | exact K1_sloop _ _ _ _ u
theorem K1_number (o w : Int32) (u : MS) : K1 (S1_number o w u).2 u := by
  unfold S1_number
  repeat' split
  all_goals first | exact K1_rf u | exact K1_give _ _ _
theorem K1_branch_j (w h : Int32) (u : MS) : K1 (S1_branch_j w h u).2 u := by
  unfold S1_branch_j
  split
  all_goals exact ⟨rfl, fun h => h⟩
theorem K1_branch (w : Int32) (u : MS) : K1 (S1_branch w u).2 u := by
  unfold S1_branch
  repeat' split
  all_goals first | exact K1_rf u | exact K1_branch_j _ _ _
theorem K1_work (o w : Int32) (u : MS) : K1 (S1_work o w u).2 u := by
  unfold S1_work
  repeat' split
  all_goals first | exact K1_rf u | exact K1_branch _ _ | exact K1_load u | exact K1_store u | exact K1_number _ _ _ | exact K1_give _ _ _
theorem K1_step (u : MS) : K1 (S1_step u).2 u := by
  unfold S1_step
  repeat' split
  all_goals first | exact K1_rf u | exact K1_work _ _ _ | exact ⟨rfl, fun h => h⟩
theorem wc1_step (u : MS) : M_wc (S1_step u).2 = M_wc u := (K1_step u).1
theorem rg1_step {u : MS} (h : RG u) : RG (S1_step u).2 := (K1_step u).2 h
