theorem work_3 (w : Int32) (v : MS) : S1_work 3 w v = wk (S1_load v) := by
  unfold S1_work
  rw [if_neg (show ¬ (3 : Int32) = 99 by decide), if_neg (show ¬ (3 : Int32) = 111 by decide), if_neg (show ¬ (3 : Int32) = 103 by decide), if_pos (show (3 : Int32) = 3 from rfl)]
  rfl
theorem work_35 (w : Int32) (v : MS) : S1_work 35 w v = wk (S1_store v) := by
  unfold S1_work
  rw [if_neg (show ¬ (35 : Int32) = 99 by decide), if_neg (show ¬ (35 : Int32) = 111 by decide), if_neg (show ¬ (35 : Int32) = 103 by decide), if_neg (show ¬ (35 : Int32) = 3 by decide), if_pos (show (35 : Int32) = 35 from rfl)]
  rfl
theorem work_o {o : Int32} (w : Int32) (v : MS) (h1 : ¬ o = 99) (h2 : ¬ o = 111) (h3 : ¬ o = 103) (h4 : ¬ o = 3) (h5 : ¬ o = 35) : S1_work o w v = wk (S1_number o w v) := by
  unfold S1_work
  rw [if_neg h1, if_neg h2, if_neg h3, if_neg h4, if_neg h5]
  rfl
theorem rs_work {w : Int32} {u : WS} {v : MS} (h : Dec w u v) (hw : ¬ w = 115) : RS (S0_perform w u) (S1_work (S0_fieldOp w) w v) := by
  unfold S0_perform
  generalize S0_fieldOp w = o
  by_cases o3 : o = 3
  · subst o3
    rw [if_pos rfl, work_3]
    exact rs_load h
  rw [if_neg o3]
  by_cases o19 : o = 19
  · subst o19
    rw [if_pos rfl, work_o w v (by decide) (by decide) (by decide) (by decide) (by decide)]
    exact rs_19 h
  rw [if_neg o19]
  by_cases o23 : o = 23
  · subst o23
    rw [if_pos rfl, work_o w v (by decide) (by decide) (by decide) (by decide) (by decide)]
    exact rs_23 h
  rw [if_neg o23]
  by_cases o35 : o = 35
  · subst o35
    rw [if_pos rfl, work_35]
    exact rs_store h
  rw [if_neg o35]
  by_cases o51 : o = 51
  · subst o51
    rw [if_pos rfl, work_o w v (by decide) (by decide) (by decide) (by decide) (by decide)]
    exact rs_51 h
  rw [if_neg o51]
  by_cases o55 : o = 55
  · subst o55
    rw [if_pos rfl, work_o w v (by decide) (by decide) (by decide) (by decide) (by decide)]
    exact rs_55 h
  rw [if_neg o55]
  by_cases o99 : o = 99
  · subst o99
    rw [if_pos rfl]
    have e : S1_work 99 w v = S1_branch w v := by
      unfold S1_work
      rw [if_pos (show (99 : Int32) = 99 from rfl)]
    rw [e]
    exact rs_99 h
  rw [if_neg o99]
  by_cases o103 : o = 103
  · subst o103
    rw [if_pos rfl]
    exact work_103 h
  rw [if_neg o103]
  by_cases o111 : o = 111
  · subst o111
    rw [if_pos rfl]
    exact work_111 h
  rw [if_neg o111, work_o w v o99 o111 o103 o3 o35, num_3 w v o55 o23 o19 o51, wk_3]
  by_cases o115 : o = 115
  · rw [if_pos o115]
    unfold S0_ask
    rw [if_neg hw]
    exact rs_3 h.1
  rw [if_neg o115]
  exact rs_3 h.1
/-- a step -/
def decv (w : Int32) (v : MS) : MS := Mp_im (S1_withSign (S1_bits w 20 12) 12) (Mp_s (S1_bits w 25 7) (Mp_y (M_regs (Mp_x (M_regs (Mp_t (S1_bits w 12 3) (Mp_d (S1_bits w 7 5) v)) (S1_bits w 15 5).toNatClampNeg) (Mp_t (S1_bits w 12 3) (Mp_d (S1_bits w 7 5) v))) (S1_bits w 20 5).toNatClampNeg) (Mp_x (M_regs (Mp_t (S1_bits w 12 3) (Mp_d (S1_bits w 7 5) v)) (S1_bits w 15 5).toNatClampNeg) (Mp_t (S1_bits w 12 3) (Mp_d (S1_bits w 7 5) v)))))
def stp (n : Int32 × MS) : Int32 × MS := if n.1 ≤ 0 then (0, Mp_st (M_st n.2 + 1) n.2) else (n.1, n.2)
def sp0 (n : Int32 × WS) : Int32 × WS := if n.1 = 0 then (n.1, Wp_st (W_st n.2 + 1) n.2) else if n.1 = 1 then (n.1, Wp_st (W_st n.2 + 1) n.2) else (n.1, n.2)
theorem step_1 (v : MS) : S1_step v = if M_pc v < 0 then (2, v) else if M_pc v - M_pc v / 4 * 4 = 0 then if M_pc v / 4 < M_wc v then if M_code v (M_pc v / 4).toNatClampNeg = 115 then (1, Mp_pc (M_pc v + 4) (Mp_st (M_st v + 1) v)) else stp (S1_work (S1_bits (M_code v (M_pc v / 4).toNatClampNeg) 0 7) (M_code v (M_pc v / 4).toNatClampNeg) (decv (M_code v (M_pc v / 4).toNatClampNeg) v)) else (2, v) else (2, v) := rfl
theorem step_0 (u : WS) : S0_step u = if S0_isPlaceOfWord (W_pc u) u = 0 then (2, u) else sp0 (S0_perform (W_code u (W_pc u / 4).toNatClampNeg) u) := rfl
theorem idx_lt {i : Int32} {n : Nat} (h : vp_in i n) : i.toNatClampNeg < n := Nat.not_le.mp fun q => h (Or.inr q)
theorem dec_of {u : WS} {v : MS} (h : Sim u v) (w : Int32) : Dec w u (decv w v) := by
  refine ⟨⟨h.1, h.2.1, h.2.2.1, h.2.2.2.1, h.2.2.2.2.1, h.2.2.2.2.2.1, h.2.2.2.2.2.2.1, h.2.2.2.2.2.2.2⟩, eq_d w, eq_t w, eq_s w, eq_im w, ?_, ?_⟩
  · show M_regs v (S1_bits w 15 5).toNatClampNeg = _
    rw [eq_x]
    exact h.2.2.2.2.2.2.1 _ (idx_lt (in_fieldX w))
  · show M_regs v (S1_bits w 20 5).toNatClampNeg = _
    rw [eq_y]
    exact h.2.2.2.2.2.2.1 _ (idx_lt (in_fieldY w))
theorem rem4_iff (a : Int32) : a - a / 4 * 4 = 0 ↔ uw a % 4 = 0 := by
  have ha := uw_lt a
  have ht := uw_ti a
  have e4 : (4 : Int32).toInt = 4 := rfl
  have hq := tdv a.toInt (d := 4) (by decide)
  generalize hqe : a.toInt.tdiv 4 = q at hq
  have hb : -536870912 ≤ q ∧ q ≤ 536870912 ∧ -4 < a.toInt - q * 4 ∧ a.toInt - q * 4 < 4 := by
    split at hq <;> split at ht <;> omega
  have ed : (a / 4).toInt = q := by
    rw [Int32.toInt_div, e4, hqe]
    apply Int.bmod_eq_of_le <;> omega
  have em : (a / 4 * 4).toInt = q * 4 := by
    rw [Int32.toInt_mul, ed, e4]
    by_cases hz : q = 536870912
    · exfalso
      split at hq <;> split at ht <;> omega
    · apply Int.bmod_eq_of_le <;> omega
  have es : (a - a / 4 * 4).toInt = a.toInt - q * 4 := by
    rw [Int32.toInt_sub, em]
    apply Int.bmod_eq_of_le <;> omega
  constructor
  · intro h
    rw [h] at es
    have e0 : (0 : Int32).toInt = 0 := rfl
    split at ht <;> omega
  · intro h
    apply ti_eq
    rw [es]
    have e0 : (0 : Int32).toInt = 0 := rfl
    split at hq <;> split at ht <;> omega
theorem mul4_iff (a : Int32) : S0_isMultiple a 4 = 0 ↔ ¬ uw a % 4 = 0 := by
  have ha := uw_lt a
  unfold S0_isMultiple
  rw [and_mask a (4 - 1) 2 (by decide)]
  have e := nI_0i (show uw a % 2 ^ 2 < 4294967296 by omega)
  by_cases h : uw a % 4 = 0
  · rw [if_pos (e.mpr h)]
    constructor
    · intro x
      exact absurd x (by decide)
    · intro x
      exact absurd h x
  · rw [if_neg (fun x => h (e.mp x))]
    exact ⟨fun _ => h, fun _ => rfl⟩
theorem place_iff {u : WS} (a : Int32) : S0_isPlaceOfWord a u = 0 ↔ ¬ (¬ a < 0 ∧ a - a / 4 * 4 = 0 ∧ a / 4 < W_wc u) := by
  unfold S0_isPlaceOfWord
  by_cases h1 : a < 0
  · rw [if_pos h1]
    exact ⟨fun _ x => x.1 h1, fun _ => rfl⟩
  rw [if_neg h1]
  by_cases h2 : uw a % 4 = 0
  · rw [if_neg (fun x => (mul4_iff a).mp x h2)]
    by_cases h3 : W_wc u ≤ a / 4
    · rw [if_pos h3]
      refine ⟨fun _ x => ?_, fun _ => rfl⟩
      have h4 := x.2.2
      rw [Int32.lt_iff_toInt_lt] at h4
      rw [Int32.le_iff_toInt_le] at h3
      omega
    · rw [if_neg h3]
      constructor
      · intro x
        exact absurd x (by decide)
      · intro x
        refine absurd ⟨h1, (rem4_iff a).mpr h2, ?_⟩ x
        rw [Int32.lt_iff_toInt_lt]
        rw [Int32.le_iff_toInt_le] at h3
        omega
  · rw [if_pos ((mul4_iff a).mpr h2)]
    exact ⟨fun _ x => h2 ((rem4_iff a).mp x.2.1), fun _ => rfl⟩
/-- the answers of a step -/
theorem sim_step {u : WS} {v : MS} (h : Sim u v) : (S0_step u).1 = (S1_step v).1 ∧ Sim (S0_step u).2 (S1_step v).2 ∧ ((S0_step u).1 = 0 ↔ (S1_step v).1 ≤ 0) := by
  have bad : ((2 : Int32), u).1 = ((2 : Int32), v).1 ∧ Sim ((2 : Int32), u).2 ((2 : Int32), v).2 ∧ (((2 : Int32), u).1 = 0 ↔ ((2 : Int32), v).1 ≤ 0) := ⟨rfl, h, by show (2 : Int32) = 0 ↔ (2 : Int32) ≤ 0; decide⟩
  rw [step_0, step_1, h.2.2.2.2.1, h.2.1, h.1]
  have hp := place_iff (u := u) (W_pc u)
  by_cases c1 : W_pc u < 0
  · rw [if_pos c1, if_pos (hp.mpr (fun x => x.1 c1))]
    exact bad
  rw [if_neg c1]
  by_cases c2 : W_pc u - W_pc u / 4 * 4 = 0
  · rw [if_pos c2]
    by_cases c3 : W_pc u / 4 < W_wc u
    · rw [if_pos c3, if_neg (fun x => hp.mp x ⟨c1, c2, c3⟩)]
      generalize W_code u (W_pc u / 4).toNatClampNeg = w
      by_cases cw : w = 115
      · rw [if_pos cw, cw]
        have e : S0_perform 115 u = (1, Wp_pc (W_pc u + 4) u) := rfl
        rw [e]
        have e2 : sp0 (1, Wp_pc (W_pc u + 4) u) = (1, Wp_st (W_st (Wp_pc (W_pc u + 4) u) + 1) (Wp_pc (W_pc u + 4) u)) := rfl
        rw [e2]
        refine ⟨rfl, ?_, by show (1 : Int32) = 0 ↔ (1 : Int32) ≤ 0; decide⟩
        exact sim_pcs (sim_sts h) (W_pc u + 4)
      · rw [if_neg cw, eq_op]
        have hr := rs_work (dec_of h w) cw
        generalize S0_perform w u = a at hr
        generalize S1_work (S0_fieldOp w) w (decv w v) = b at hr
        obtain ⟨a1, a2⟩ := a
        obtain ⟨b1, b2⟩ := b
        obtain ⟨e1, e2, e3⟩ := hr
        have e1 : a1 = b1 := e1
        subst e1
        rcases e3 with e3 | e3 | e3
        · have e3 : a1 = 0 := e3
          subst e3
          exact ⟨rfl, sim_sts e2, by show (0 : Int32) = 0 ↔ (0 : Int32) ≤ 0; decide⟩
        · have e3 : a1 = 3 := e3
          subst e3
          exact ⟨rfl, e2, by show (3 : Int32) = 0 ↔ (3 : Int32) ≤ 0; decide⟩
        · have e3 : a1 = 4 := e3
          subst e3
          exact ⟨rfl, e2, by show (4 : Int32) = 0 ↔ (4 : Int32) ≤ 0; decide⟩
    · rw [if_neg c3, if_pos (hp.mpr (fun x => c3 x.2.2))]
      exact bad
  · rw [if_neg c2, if_pos (hp.mpr (fun x => c2 x.2.1))]
    exact bad
theorem sim_loop : ∀ (n : Nat) {u : WS} {v : MS}, Sim u v → (S0_loop n u).1 = (S1_loop n v).1 ∧ Sim (S0_loop n u).2 (S1_loop n v).2 := by
  intro n
  induction n with
  | zero =>
    intro u v h
    exact ⟨rfl, h⟩
  | succ n ih =>
    intro u v h
    obtain ⟨e1, e2, e3⟩ := sim_step h
    rw [S0_loop, S1_loop]
    by_cases hc : (S0_step u).1 = 0
    · rw [if_pos hc, if_pos (e3.mp hc)]
      exact ih e2
    · rw [if_neg hc, if_neg (fun x => hc (e3.mpr x))]
      exact ⟨e1, e2⟩
/-- the calls -/
theorem sim_0 : Sim z_W z_M := ⟨rfl, rfl, by decide, by decide, rfl, rfl, fun i hi => by show (0 : Int64) = S0_unsigned 0; decide, fun a ha => by
  show (0 : Int32) = (nI (bnat 0 (a % 4))).toInt8.toInt32
  have e : bnat 0 (a % 4) = 0 := by
    show uw 0 / 2 ^ (8 * (a % 4)) % 256 = 0
    rw [show uw 0 = 0 from by decide, Nat.zero_div]
  rw [e]
  decide⟩
theorem sim_word {u : WS} {v : MS} (h : Sim u v) (w : Int32) : (S0_word w u).1 = (S1_word w v).1 ∧ Sim (S0_word w u).2 (S1_word w v).2 := by
  have h0 := h.2.2.1
  have h1 := h.2.2.2.1
  have e0 : (0 : Int32).toInt = 0 := rfl
  have e1 : (1024 : Int32).toInt = 1024 := rfl
  unfold S0_word S1_word
  rw [h.2.1]
  by_cases hc : W_wc u = 1024
  · rw [if_pos hc, if_neg (by rw [hc]; decide)]
    exact ⟨rfl, h⟩
  · have hc2 : W_wc u < 1024 := by
      have h3 : ¬ (W_wc u).toInt = (1024 : Int32).toInt := fun e => hc (Int32.toInt_inj.mp e)
      rw [Int32.le_iff_toInt_le] at h1
      rw [Int32.lt_iff_toInt_lt]
      omega
    rw [if_neg hc, if_pos hc2]
    have es : (W_wc u + 1).toInt = (W_wc u).toInt + 1 := by
      rw [Int32.le_iff_toInt_le] at h0
      rw [Int32.lt_iff_toInt_lt] at hc2
      rw [Int32.toInt_add, show (1 : Int32).toInt = 1 from rfl]
      apply Int.bmod_eq_of_le <;> omega
    refine ⟨?_, ?_, ?_, ?_, ?_, h.2.2.2.2.1, h.2.2.2.2.2.1, h.2.2.2.2.2.2.1, h.2.2.2.2.2.2.2⟩
    · first | rfl | (show W_wc u + 1 = M_wc v + 1; rw [h.2.1])
    · show upd (M_code v) (W_wc u).toNatClampNeg w = upd (W_code u) (W_wc u).toNatClampNeg w
      rw [h.1]
    · first | rfl | (show M_wc v + 1 = W_wc u + 1; rw [h.2.1])
    · show 0 ≤ W_wc u + 1
      rw [Int32.le_iff_toInt_le] at h0 ⊢
      omega
    · show W_wc u + 1 ≤ 1024
      rw [Int32.lt_iff_toInt_lt] at hc2
      rw [Int32.le_iff_toInt_le]
      omega
theorem sim_put {u : WS} {v : MS} (h : Sim u v) (r x : Int32) : (S0_put r x u).1 = (S1_put r x v).1 ∧ Sim (S0_put r x u).2 (S1_put r x v).2 := by
  unfold S0_put S1_put S0_isRegister
  by_cases h1 : r < 0
  · rw [if_pos h1, if_pos h1, if_pos rfl]
    exact ⟨rfl, h⟩
  rw [if_neg h1, if_neg h1]
  have e31 : (31 : Int32).toInt = 31 := rfl
  have e32 : (32 : Int32).toInt = 32 := rfl
  by_cases h2 : (32 : Int32) ≤ r
  · have h3 : ¬ r ≤ 31 := by
      rw [Int32.le_iff_toInt_le] at h2 ⊢
      omega
    rw [if_pos h2, if_neg h3, if_pos rfl]
    exact ⟨rfl, h⟩
  · have h3 : r ≤ 31 := by
      rw [Int32.le_iff_toInt_le] at h2 ⊢
      omega
    rw [if_neg h2, if_pos h3, if_neg (show ¬ (1 : Int32) = 0 by decide)]
    exact ⟨rfl, sim_give h (ix_get h1 h2) (Int32.toInt32_toInt64 x)⟩
theorem sim_get {u : WS} {v : MS} (h : Sim u v) (r : Int32) : S0_get r u = S1_get r v := by
  unfold S0_get S1_get S0_isRegister
  by_cases h1 : r < 0
  · rw [if_pos h1, if_pos h1, if_pos rfl]
  rw [if_neg h1, if_neg h1]
  by_cases h2 : (32 : Int32) ≤ r
  · rw [if_pos h2, if_pos h2, if_pos rfl]
  · rw [if_neg h2, if_neg h2, if_neg (show ¬ (1 : Int32) = 0 by decide), h.2.2.2.2.2.2.1 _ (idx_lt (ix_get h1 h2)), uns_i]
theorem adr1 (a : Int32) : S0_isAddress a 1 = 0 ↔ ¬ uw a < 4096 := by
  have e := adr_iff a 1 (Or.inl rfl)
  have e1 : nI 1 = 1 := rfl
  rw [e1] at e
  constructor
  · intro h x
    exact e.mpr ⟨Nat.mod_one _, by omega⟩ h
  · intro h
    exact Decidable.byContradiction (fun x => h (by have := (e.mp x).2; omega))
theorem rng (a : Int32) : (¬ a < 0 ∧ a ≤ 4095) ↔ uw a < 4096 := by
  have ha := uw_lt a
  have ht := uw_ti a
  have e0 : (0 : Int32).toInt = 0 := rfl
  have e1 : (4095 : Int32).toInt = 4095 := rfl
  rw [Int32.lt_iff_toInt_lt, Int32.le_iff_toInt_le]
  split at ht <;> omega
theorem sim_poke {u : WS} {v : MS} (h : Sim u v) (a x : Int32) : (S0_poke a x u).1 = (S1_poke a x v).1 ∧ Sim (S0_poke a x u).2 (S1_poke a x v).2 := by
  unfold S0_poke S1_poke
  by_cases hc : uw a < 4096
  · have hr := (rng a).mpr hc
    rw [if_neg (fun y => (adr1 a).mp y hc), if_neg hr.1, if_pos hr.2]
    refine ⟨rfl, ?_⟩
    have hs := sim_rep h (j := uw a) (n := 1) (Or.inl rfl) (Nat.mod_one _) (by omega) 255 x (by decide) (upd (M_mem v) a.toNatClampNeg (vp_nar .byte x.toInt8.toInt32)) (fun b => by
      have ei : a.toNatClampNeg = uw a := by
        have e := nI_clamp (n := uw a) (by omega)
        rw [nI_uw] at e
        exact e
      rw [ei, pk_vb]
      unfold upd
      by_cases hb : b = uw a
      · rw [if_pos hb, if_pos (by omega), hb, Nat.sub_self, Nat.pow_zero, Nat.div_one]
        exact sb_of x
      · rw [if_neg hb, if_neg (by omega)])
    rw [nI_uw] at hs
    exact hs
  · rw [if_pos ((adr1 a).mpr hc)]
    by_cases h1 : a < 0
    · rw [if_pos h1]
      exact ⟨rfl, h⟩
    · rw [if_neg h1, if_neg (fun y => hc ((rng a).mp ⟨h1, y⟩))]
      exact ⟨rfl, h⟩
theorem sim_peek {u : WS} {v : MS} (h : Sim u v) (a : Int32) : S0_peek a u = S1_peek a v := by
  unfold S0_peek S1_peek
  have e0 : (4096 : Int32).toInt = 4096 := rfl
  have e1 : (4095 : Int32).toInt = 4095 := rfl
  have hle : a ≤ 4095 ↔ ¬ (4096 : Int32) ≤ a := by
    rw [Int32.le_iff_toInt_le, Int32.le_iff_toInt_le]
    omega
  by_cases hc : uw a < 4096
  · have hr := (rng a).mpr hc
    rw [if_neg (fun y => (adr1 a).mp y hc), if_neg hr.1, if_neg (hle.mp hr.2)]
    have ei : a.toNatClampNeg = uw a := by
      have e := nI_clamp (n := uw a) (by omega)
      rw [nI_uw] at e
      exact e
    have eb : uw (S0_bitsFrom a u) = uw (W_mem u (uw a / 4)) / 2 ^ (8 * (uw a % 4)) := by
      have e := bf_uw hc u
      rw [nI_uw] at e
      exact e
    rw [ei, h.2.2.2.2.2.2.2 (uw a) hc, sc_k8 _ (bn_lt _ _), and_mask _ 255 8 (by decide), eb]
    rfl
  · rw [if_pos ((adr1 a).mpr hc)]
    by_cases h1 : a < 0
    · rw [if_pos h1]
    · rw [if_neg h1, if_pos (Decidable.byContradiction (fun y => hc ((rng a).mp ⟨h1, hle.mpr y⟩)))]
theorem sim_go {u : WS} {v : MS} (h : Sim u v) (a : Int32) : (S0_go a u).1 = (S1_go a v).1 ∧ Sim (S0_go a u).2 (S1_go a v).2 := by
  unfold S0_go S1_go
  by_cases hc : uw a % 4 = 0
  · rw [if_neg (fun x => (mul4_iff a).mp x hc), if_pos ((rem4_iff a).mpr hc)]
    exact ⟨rfl, sim_pcs h a⟩
  · rw [if_pos ((mul4_iff a).mpr hc), if_neg (fun x => hc ((rem4_iff a).mp x))]
    exact ⟨rfl, h⟩
theorem sim_pc {u : WS} {v : MS} (h : Sim u v) : S0_pc u = S1_pc v := h.2.2.2.2.1.symm
theorem sim_steps {u : WS} {v : MS} (h : Sim u v) : S0_steps u = S1_steps v := h.2.2.2.2.2.1.symm
theorem sim_run {u : WS} {v : MS} (h : Sim u v) (n : Int32) : (S0_run n u).1 = (S1_run n v).1 ∧ Sim (S0_run n u).2 (S1_run n v).2 := by
  unfold S0_run S1_run
  split
  · exact ⟨rfl, h⟩
  · split
    · exact sim_loop _ h
    · exact ⟨rfl, h⟩
