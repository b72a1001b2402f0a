/-- the reference's load, byte by byte -/
theorem lloop_eq (A B : Nat) (v : MS) : ∀ (n k : Nat), A + k + n ≤ 4096 → k + n ≤ 4 → (∀ i : Nat, k ≤ i → i < k + n → M_mem v (A + i) &&& 255 = nI (B / 256 ^ i % 256)) → S1_lloop n (lN A) (nI k) (lN (B % 256 ^ k)) (lN (256 ^ k)) v = S1_lfin (lN (B % 256 ^ (k + n))) (lN (256 ^ (k + n))) v := by
  intro n
  induction n with
  | zero =>
    intro k _ _ _
    rfl
  | succ n ih =>
    intro k h1 h2 hb
    have e3 : ((lN A).toInt32 + nI k).toNatClampNeg = A + k := by rw [lN_i, nI_add, nI_clamp (by omega)]
    have hl : B / 256 ^ k % 256 < 256 := Nat.mod_lt _ (by decide)
    rw [S1_lloop, e3, hb k (Nat.le_refl k) (by omega), nI_l (by omega), lN_mul, lN_add, show (256 : Int64) = lN 256 from rfl, lN_mul, nI_1, ← Nat.pow_succ, show B % 256 ^ k + B / 256 ^ k % 256 * 256 ^ k = B % 256 ^ (k + 1) by rw [Nat.mod_pow_succ, Nat.mul_comm]]
    rw [ih (k + 1) (by omega) (by omega) (fun i h3 h4 => hb i (by omega) (by omega)), show k + 1 + n = k + (n + 1) by omega]
/-- the bytes of an aligned place -/
theorem by_at {u : WS} {v : MS} (h : Sim u v) {j n i : Nat} (hn : n = 1 ∨ n = 2 ∨ n = 4) (ha : j % n = 0) (hj : j + n ≤ 4096) (hi : i < n) : M_mem v (j + i) &&& 255 = nI (uw (W_mem u (j / 4)) / 2 ^ (8 * (j % 4)) / 256 ^ i % 256) := by
  have e1 : (j + i) / 4 = j / 4 := by rcases hn with rfl | rfl | rfl <;> omega
  have e2 : (j + i) % 4 = j % 4 + i := by rcases hn with rfl | rfl | rfl <;> omega
  rw [h.2.2.2.2.2.2.2 (j + i) (by omega), e1, e2, sc_k8 _ (bn_lt _ _)]
  congr 1
  show uw (W_mem u (j / 4)) / 2 ^ (8 * (j % 4 + i)) % 256 = _
  rw [Nat.div_div_eq_div_mul, show (256 : Nat) ^ i = 2 ^ (8 * i) by rw [Nat.pow_mul], ← Nat.pow_add, Nat.mul_add]
theorem rs_4 {u : WS} {v : MS} (h : Sim u v) : RS (4, u) (4, v) := ⟨rfl, h, Or.inr (Or.inr rfl)⟩
/-- what is loaded -/
theorem ld_1 (t : Int32) (b : Int32) (v : MS) (ht : M_t v = t) (h : t = 0 ∨ t = 4) : ∃ z : Int64, S1_lfin (lN (uw b % 256 ^ 1)) (lN (256 ^ 1)) v = (0, S1_give (M_d v) z v) ∧ z.toInt32 = S0_loaded t b := by
  have hb : uw b % 256 < 256 := Nat.mod_lt _ (by decide)
  unfold S1_lfin
  rw [ht, show lN (256 ^ 1) / 2 = lN 128 from by decide, Nat.pow_one]
  rcases h with rfl | rfl
  · rw [if_neg (by decide)]
    have e8 := ti8 b
    have c : lg_cmp (lN (uw b % 256)) (lN 128) < 0 ↔ uw b % 256 < 128 := by rw [lg_cmp_lt, pk_lLT (by omega) (by decide)]
    show ∃ z : Int64, _ ∧ z.toInt32 = b.toInt8.toInt32
    by_cases hc : uw b % 256 < 128
    · rw [if_pos (c.mpr hc)]
      refine ⟨_, rfl, i32_of ?_⟩
      rw [pk_lT (by omega), e8, if_pos hc]
    · rw [if_neg (fun x => hc (c.mp x))]
      refine ⟨_, rfl, i32_of ?_⟩
      rw [e8, if_neg hc, Int64.toInt_sub, pk_lT (by omega), pk_lT (by decide), Int.bmod_eq_of_le (by omega) (by omega)]
      rfl
  · rw [if_pos (by decide)]
    refine ⟨_, rfl, ?_⟩
    show (lN (uw b % 256)).toInt32 = b &&& 255
    rw [lN_i, and_mask b 255 8 (by decide)]
theorem ld_2 (t : Int32) (b : Int32) (v : MS) (ht : M_t v = t) (h : t = 1 ∨ t = 5) : ∃ z : Int64, S1_lfin (lN (uw b % 256 ^ 2)) (lN (256 ^ 2)) v = (0, S1_give (M_d v) z v) ∧ z.toInt32 = S0_loaded t b := by
  have hb : uw b % 65536 < 65536 := Nat.mod_lt _ (by decide)
  unfold S1_lfin
  rw [ht, show lN (256 ^ 2) / 2 = lN 32768 from by decide, show (256 : Nat) ^ 2 = 65536 from rfl]
  rcases h with rfl | rfl
  · rw [if_neg (by decide)]
    have e8 := ti16 b
    have c : lg_cmp (lN (uw b % 65536)) (lN 32768) < 0 ↔ uw b % 65536 < 32768 := by rw [lg_cmp_lt, pk_lLT (by omega) (by decide)]
    show ∃ z : Int64, _ ∧ z.toInt32 = b.toInt16.toInt32
    by_cases hc : uw b % 65536 < 32768
    · rw [if_pos (c.mpr hc)]
      refine ⟨_, rfl, i32_of ?_⟩
      rw [pk_lT (by omega), e8, if_pos hc]
    · rw [if_neg (fun x => hc (c.mp x))]
      refine ⟨_, rfl, i32_of ?_⟩
      rw [e8, if_neg hc, Int64.toInt_sub, pk_lT (by omega), pk_lT (by decide), Int.bmod_eq_of_le (by omega) (by omega)]
      rfl
  · rw [if_pos (by decide)]
    refine ⟨_, rfl, ?_⟩
    show (lN (uw b % 65536)).toInt32 = b &&& 65535
    rw [lN_i, and_mask b 65535 16 (by decide)]
theorem ld_4 (b : Int32) (v : MS) (ht : M_t v = 2) : ∃ z : Int64, S1_lfin (lN (uw b % 256 ^ 4)) (lN (256 ^ 4)) v = (0, S1_give (M_d v) z v) ∧ z.toInt32 = S0_loaded 2 b := by
  have hb := uw_lt b
  unfold S1_lfin
  rw [ht, if_pos (by decide)]
  refine ⟨_, rfl, ?_⟩
  show (lN (uw b % 4294967296)).toInt32 = b
  rw [lN_i, Nat.mod_eq_of_lt hb, nI_uw]
theorem load_n {w : Int32} {u : WS} {v : MS} (h : Dec w u v) {n : Nat} (hn : n = 1 ∨ n = 2 ∨ n = 4) (hW : S1_width 1 v = nI n) (hw0 : S0_widthOf (S0_fieldT w) = nI n) (h3 : ¬ S0_fieldT w = 3) (h5 : S0_fieldT w ≤ 5) (hl : ∀ b : Int32, ∃ z : Int64, S1_lfin (lN (uw b % 256 ^ n)) (lN (256 ^ n)) v = (0, S1_give (M_d v) z v) ∧ z.toInt32 = S0_loaded (S0_fieldT w) b) : RS (S0_load w u) (wk (S1_load v)) := by
  have ea : S1_plain (M_x v + (M_im v).toInt64) = S0_unsigned (S0_valueX w u + S0_numberI w) := by
    rw [h.2.2.2.2.2.1, h.2.2.2.2.1, plain_uns, Int64.toInt32_add, uns_i, Int32.toInt32_toInt64]
  have hn4 : 0 < n ∧ n ≤ 4 := by omega
  have hn0 : ¬ nI n = 0 := fun e => by have := (nI_0i (by omega)).mp e; omega
  unfold S0_load S1_load
  rw [if_neg h3, if_pos h5, hw0, hW, ea, if_neg hn0]
  generalize S0_valueX w u + S0_numberI w = a
  by_cases hc : uw a % n = 0 ∧ uw a + n ≤ 4096
  · rw [if_neg ((adr_iff a n hn).mpr hc), if_neg ((there_iff a n hn v).mpr hc), nI_clamp (by omega), uns_lN]
    have hj : uw a < 4096 := by omega
    have eb : uw (S0_bitsFrom a u) = uw (W_mem u (uw a / 4)) / 2 ^ (8 * (uw a % 4)) := by
      have e := bf_uw hj u
      rw [nI_uw] at e
      exact e
    have e := lloop_eq (uw a) (uw (S0_bitsFrom a u)) v n 0 (by omega) (by omega) (fun i _ hi => by rw [eb]; exact by_at h.1 hn hc.1 hc.2 (by omega))
    rw [Nat.zero_add, show lN (uw (S0_bitsFrom a u) % 256 ^ 0) = 0 from by rw [Nat.pow_zero, Nat.mod_one]; rfl] at e
    obtain ⟨z, ez, eq⟩ := hl (S0_bitsFrom a u)
    have e' : S1_lloop n (lN (uw a)) 0 0 1 v = (0, S1_give (M_d v) z v) := e.trans ez
    rw [e']
    exact rs_tell h eq
  · have c1 : S0_isAddress a (nI n) = 0 := Decidable.byContradiction (fun x => hc ((adr_iff a n hn).mp x))
    have c2 : S1_isThere (S0_unsigned a) (nI n) v = 0 := Decidable.byContradiction (fun x => hc ((there_iff a n hn v).mp x))
    rw [if_pos c1, if_pos c2, wk_4]
    exact rs_4 h.1
theorem load_bad {w : Int32} {u : WS} {v : MS} (h : Dec w u v) (hW : S1_width 1 v = 0) (hb : S0_fieldT w = 3 ∨ ¬ S0_fieldT w ≤ 5) : RS (S0_load w u) (wk (S1_load v)) := by
  unfold S0_load S1_load
  rw [if_pos hW, wk_3]
  rcases hb with hb | hb
  · rw [if_pos hb]
    exact rs_3 h.1
  · rw [if_neg hb, ite_self]
    exact rs_3 h.1
theorem wd1 {v : MS} {t : Int32} (h : M_t v = t) : S1_width 1 v = if t = 0 then 1 else if t = 4 then 1 else if t = 1 then 2 else if t = 5 then 2 else if t = 2 then 4 else 0 := by
  unfold S1_width
  rw [h, if_neg (show ¬ (1 : Int32) = 0 by decide), if_neg (show ¬ (1 : Int32) = 0 by decide)]
theorem wd0 {v : MS} {t : Int32} (h : M_t v = t) : S1_width 0 v = if t = 0 then 1 else if t = 1 then 2 else if t = 2 then 4 else 0 := by
  unfold S1_width
  rw [h, if_pos (show (0 : Int32) = 0 from rfl), if_pos (show (0 : Int32) = 0 from rfl)]
theorem rs_load {w : Int32} {u : WS} {v : MS} (h : Dec w u v) : RS (S0_load w u) (wk (S1_load v)) := by
  have ht := h.2.2.1
  have hd := wd1 ht
  rcases t_cases w with e | e | e | e | e | e | e | e
  · exact load_n h (n := 1) (Or.inl rfl) (by rw [hd, e]; decide) (by rw [e]; decide) (by rw [e]; decide) (by rw [e]; decide) (fun b => by rw [e]; exact ld_1 0 b v (by rw [ht, e]) (Or.inl rfl))
  · exact load_n h (n := 2) (Or.inr (Or.inl rfl)) (by rw [hd, e]; decide) (by rw [e]; decide) (by rw [e]; decide) (by rw [e]; decide) (fun b => by rw [e]; exact ld_2 1 b v (by rw [ht, e]) (Or.inl rfl))
  · exact load_n h (n := 4) (Or.inr (Or.inr rfl)) (by rw [hd, e]; decide) (by rw [e]; decide) (by rw [e]; decide) (by rw [e]; decide) (fun b => by rw [e]; exact ld_4 b v (by rw [ht, e]))
  · exact load_bad h (by rw [hd, e]; decide) (Or.inl e)
  · exact load_n h (n := 1) (Or.inl rfl) (by rw [hd, e]; decide) (by rw [e]; decide) (by rw [e]; decide) (by rw [e]; decide) (fun b => by rw [e]; exact ld_1 4 b v (by rw [ht, e]) (Or.inr rfl))
  · exact load_n h (n := 2) (Or.inr (Or.inl rfl)) (by rw [hd, e]; decide) (by rw [e]; decide) (by rw [e]; decide) (by rw [e]; decide) (fun b => by rw [e]; exact ld_2 5 b v (by rw [ht, e]) (Or.inr rfl))
  · exact load_bad h (by rw [hd, e]; decide) (Or.inr (by rw [e]; decide))
  · exact load_bad h (by rw [hd, e]; decide) (Or.inr (by rw [e]; decide))
/-- stores -/
theorem sim_rep {u : WS} {v : MS} (h : Sim u v) {j n : Nat} (hn : n = 1 ∨ n = 2 ∨ n = 4) (ha : j % n = 0) (hj : j + n ≤ 4096) (m y : Int32) (hm : uw m = 2 ^ (8 * n) - 1) (f : Nat → Int32) (hf : ∀ b : Nat, f b = if j ≤ b ∧ b < j + n then (nI (uw y / 256 ^ (b - j) % 256)).toInt8.toInt32 else M_mem v b) : Sim (S0_replaceBits (nI j) m y u) (Mp_mem f v) := by
  rw [rb_eq (by omega)]
  refine ⟨h.1, h.2.1, h.2.2.1, h.2.2.2.1, h.2.2.2.2.1, h.2.2.2.2.2.1, h.2.2.2.2.2.2.1, fun b hb => ?_⟩
  show f b = (nI (bnat (upd (W_mem u) (j / 4) _ (b / 4)) (b % 4))).toInt8.toInt32
  rw [hf b]
  unfold upd
  by_cases hq : b / 4 = j / 4
  · rw [if_pos hq, rep_bn _ _ _ n (j % 4) (b % 4) (by omega) (by omega) hm]
    by_cases hr : j ≤ b ∧ b < j + n
    · rw [if_pos hr, if_pos (by omega)]
      have e : bnat y (b % 4 - j % 4) = uw y / 256 ^ (b - j) % 256 := by
        show uw y / 2 ^ (8 * (b % 4 - j % 4)) % 256 = _
        rw [Nat.pow_mul, show b % 4 - j % 4 = b - j by omega]
      rw [e]
    · rw [if_neg hr, if_neg (by rcases hn with rfl | rfl | rfl <;> omega), h.2.2.2.2.2.2.2 b hb, hq]
  · rw [if_neg hq, if_neg (by rcases hn with rfl | rfl | rfl <;> omega)]
    exact h.2.2.2.2.2.2.2 b hb
theorem store_n {w : Int32} {u : WS} {v : MS} (h : Dec w u v) {n : Nat} (hn : n = 1 ∨ n = 2 ∨ n = 4) (hW : S1_width 0 v = nI n) (hw0 : S0_widthOf (S0_fieldT w) = nI n) (h2 : S0_fieldT w ≤ 2) (hm : uw (S0_storedBits (S0_fieldT w)) = 2 ^ (8 * n) - 1) : RS (S0_store w u) (wk (S1_store v)) := by
  have ea : S1_plain (M_x v + (S1_withSign (M_s v * 32 + M_d v) 12).toInt64) = S0_unsigned (S0_valueX w u + S0_storeDistance w) := by
    rw [h.2.2.2.2.2.1, h.2.2.2.1, h.2.1, eq_sd, plain_uns, Int64.toInt32_add, uns_i, Int32.toInt32_toInt64]
  have hn4 : 0 < n ∧ n ≤ 4 := by omega
  have hn0 : ¬ nI n = 0 := fun e => by have := (nI_0i (by omega)).mp e; omega
  unfold S0_store S1_store
  rw [if_pos h2, hw0, hW, ea, if_neg hn0, h.2.2.2.2.2.2]
  generalize S0_valueX w u + S0_storeDistance w = a
  by_cases hc : uw a % n = 0 ∧ uw a + n ≤ 4096
  · rw [if_neg ((adr_iff a n hn).mpr hc), if_neg ((there_iff a n hn v).mpr hc), nI_clamp (by omega), uns_lN, uns_lN]
    obtain ⟨f, ef, hf⟩ := sloop_eq (uw a) (uw (S0_valueY w u)) (uw_lt _) n 0 v (by omega)
    rw [Nat.pow_zero, Nat.div_one] at ef
    have ef' : S1_sloop n (lN (uw a)) 0 (lN (uw (S0_valueY w u))) v = (0, Mp_mem f v) := ef
    rw [ef', wk_0]
    have hs := sim_rep h.1 hn hc.1 hc.2 (S0_storedBits (S0_fieldT w)) (S0_valueY w u) hm f (fun b => by rw [hf b, Nat.add_zero])
    rw [nI_uw] at hs
    refine ⟨rfl, ?_, Or.inl rfl⟩
    show Sim (Wp_pc (W_pc (S0_replaceBits a (S0_storedBits (S0_fieldT w)) (S0_valueY w u) u) + 4) (S0_replaceBits a (S0_storedBits (S0_fieldT w)) (S0_valueY w u) u)) (Mp_pc (M_pc (Mp_mem f v) + 4) (Mp_mem f v))
    rw [hs.2.2.2.2.1]
    exact sim_pcs hs _
  · have c1 : S0_isAddress a (nI n) = 0 := Decidable.byContradiction (fun x => hc ((adr_iff a n hn).mp x))
    have c2 : S1_isThere (S0_unsigned a) (nI n) v = 0 := Decidable.byContradiction (fun x => hc ((there_iff a n hn v).mp x))
    rw [if_pos c1, if_pos c2, wk_4]
    exact rs_4 h.1
theorem store_bad {w : Int32} {u : WS} {v : MS} (h : Dec w u v) (hW : S1_width 0 v = 0) (hb : ¬ S0_fieldT w ≤ 2) : RS (S0_store w u) (wk (S1_store v)) := by
  unfold S0_store S1_store
  rw [if_pos hW, wk_3, if_neg hb]
  exact rs_3 h.1
theorem rs_store {w : Int32} {u : WS} {v : MS} (h : Dec w u v) : RS (S0_store w u) (wk (S1_store v)) := by
  have hd := wd0 h.2.2.1
  rcases t_cases w with e | e | e | e | e | e | e | e
  · exact store_n h (n := 1) (Or.inl rfl) (by rw [hd, e]; decide) (by rw [e]; decide) (by rw [e]; decide) (by rw [e]; decide)
  · exact store_n h (n := 2) (Or.inr (Or.inl rfl)) (by rw [hd, e]; decide) (by rw [e]; decide) (by rw [e]; decide) (by rw [e]; decide)
  · exact store_n h (n := 4) (Or.inr (Or.inr rfl)) (by rw [hd, e]; decide) (by rw [e]; decide) (by rw [e]; decide) (by rw [e]; decide)
  · exact store_bad h (by rw [hd, e]; decide) (by rw [e]; decide)
  · exact store_bad h (by rw [hd, e]; decide) (by rw [e]; decide)
  · exact store_bad h (by rw [hd, e]; decide) (by rw [e]; decide)
  · exact store_bad h (by rw [hd, e]; decide) (by rw [e]; decide)
  · exact store_bad h (by rw [hd, e]; decide) (by rw [e]; decide)
