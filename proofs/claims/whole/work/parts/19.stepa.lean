theorem in_fieldD (w : Int32) : vp_in (S0_fieldD w) 32 := pk_andIn (m := 31) _ 5 (by decide) (by decide)
theorem sim_pcs {u : WS} {v : MS} (h : Sim u v) (p : Int32) : Sim (Wp_pc p u) (Mp_pc p v) := ⟨h.1, h.2.1, h.2.2.1, h.2.2.2.1, rfl, h.2.2.2.2.2.1, h.2.2.2.2.2.2.1, h.2.2.2.2.2.2.2⟩
theorem sim_sts {u : WS} {v : MS} (h : Sim u v) : Sim (Wp_st (W_st u + 1) u) (Mp_st (M_st v + 1) v) := by
  have e := h.2.2.2.2.2.1
  refine ⟨h.1, h.2.1, h.2.2.1, h.2.2.2.1, h.2.2.2.2.1, ?_, h.2.2.2.2.2.2.1, h.2.2.2.2.2.2.2⟩
  show M_st v + 1 = W_st u + 1
  rw [e]
theorem sim_give {u : WS} {v : MS} (h : Sim u v) {d : Int32} (hd : vp_in d 32) {z : Int64} {r : Int32} (e : z.toInt32 = r) : Sim (S0_setRegister d r u) (S1_give d z v) := by
  unfold S0_setRegister S1_give
  have hd2 := vp_in_iff.mp hd
  by_cases h0 : d ≤ 0
  · rw [if_pos h0, if_pos h0]
    exact h
  · have h32 : ¬ (32 : Int32) ≤ d := by
      rw [Int32.le_iff_toInt_le]
      have e2 : (32 : Int32).toInt = 32 := rfl
      omega
    rw [if_neg h0, if_neg h0, if_neg h32]
    refine ⟨h.1, h.2.1, h.2.2.1, h.2.2.2.1, h.2.2.2.2.1, h.2.2.2.2.2.1, fun i hi => ?_, h.2.2.2.2.2.2.2⟩
    show vp_updL (M_regs v) d.toNatClampNeg (S1_plain z) i = S0_unsigned (upd (W_regs u) d.toNatClampNeg r i)
    unfold vp_updL upd
    split
    · rw [plain_uns, e]
    · exact h.2.2.2.2.2.2.1 i hi
/-- the reference has read the word w -/
def Dec (w : Int32) (u : WS) (v : MS) : Prop := Sim u v ∧ M_d v = S0_fieldD w ∧ M_t v = S0_fieldT w ∧ M_s v = S0_fieldS w ∧ M_im v = S0_numberI w ∧ M_x v = S0_unsigned (S0_valueX w u) ∧ M_y v = S0_unsigned (S0_valueY w u)
def RS (a : Int32 × WS) (b : Int32 × MS) : Prop := a.1 = b.1 ∧ Sim a.2 b.2 ∧ (a.1 = 0 ∨ a.1 = 3 ∨ a.1 = 4)
def wk (n : Int32 × MS) : Int32 × MS := if n.1 = 0 then (n.1, Mp_pc (M_pc n.2 + 4) n.2) else (n.1, n.2)
theorem wk_0 (x : MS) : wk (0, x) = (0, Mp_pc (M_pc x + 4) x) := if_pos rfl
theorem rs_3 {u : WS} {v : MS} (h : Sim u v) : RS (3, u) (3, v) := ⟨rfl, h, Or.inr (Or.inl rfl)⟩
theorem wk_3 (x : MS) : wk (3, x) = (3, x) := if_neg (show ¬ (3 : Int32) = 0 by decide)
theorem wk_4 (x : MS) : wk (4, x) = (4, x) := if_neg (show ¬ (4 : Int32) = 0 by decide)
theorem rs_tell {w : Int32} {u : WS} {v : MS} (h : Dec w u v) {z : Int64} {r : Int32} (e : z.toInt32 = r) : RS (S0_tell w r u) (wk (0, S1_give (M_d v) z v)) := by
  have hg := sim_give h.1 (in_fieldD w) e
  rw [wk_0, h.2.1]
  refine ⟨rfl, ?_, Or.inl rfl⟩
  show Sim (Wp_pc (W_pc (S0_setRegister (S0_fieldD w) r u) + 4) (S0_setRegister (S0_fieldD w) r u)) (Mp_pc (M_pc (S1_give (S0_fieldD w) z v) + 4) (S1_give (S0_fieldD w) z v))
  rw [hg.2.2.2.2.1]
  exact sim_pcs hg _
theorem by_eq (w : Int32) : (((l_shr (S1_plain w.toInt64) 20).toInt32) &&& 31).toInt64 = S0_unsigned (S0_fieldY w) := by
  have e : (l_shr (S1_plain w.toInt64) 20).toInt32 &&& 31 = S0_fieldY w := congrArg (fun z => z &&& (31 : Int32)) (lshr_uw w (f := 20) (by decide))
  rw [e, fl_y, nI_l (by omega), uns_lN, uw_nI (by omega)]
theorem rs_19 {w : Int32} {u : WS} {v : MS} (h : Dec w u v) : RS (S0_calculateWithNumber w u) (wk (S1_number 19 w v)) := by
  unfold S0_calculateWithNumber S1_number
  rw [if_neg (show ¬ (19 : Int32) = 55 by decide), if_neg (show ¬ (19 : Int32) = 23 by decide), if_pos rfl, by_eq, h.2.2.1, h.2.2.2.1, h.2.2.2.2.1, h.2.2.2.2.2.1]
  by_cases t1 : S0_fieldT w = 1
  · rw [t1, if_pos rfl, if_pos rfl]
    by_cases s0 : S0_fieldS w = 0
    · rw [s0, if_pos rfl, if_pos rfl]
      exact rs_tell h (made_plain _ _ _)
    · rw [if_neg s0, if_neg s0, if_neg (show ¬ (1 : Int32) = 5 by decide), if_neg (show ¬ (1 : Int32) = 5 by decide), ite_self, wk_3]
      exact rs_3 h.1
  rw [if_neg t1, if_neg t1]
  by_cases t5 : S0_fieldT w = 5
  · rw [t5, if_pos rfl, if_pos rfl]
    by_cases s0 : S0_fieldS w = 0
    · rw [s0, if_pos rfl, if_pos rfl]
      exact rs_tell h (made_plain _ _ _)
    · rw [if_neg s0, if_neg s0, if_pos rfl, if_pos rfl]
      by_cases s32 : S0_fieldS w = 32
      · rw [s32, if_pos rfl, if_pos rfl]
        exact rs_tell h (made_sar _ _)
      · rw [if_neg s32, if_neg s32, wk_3]
        exact rs_3 h.1
  rw [if_neg t5, if_neg t5]
  exact rs_tell h (made_plain _ _ _)
theorem rs_51 {w : Int32} {u : WS} {v : MS} (h : Dec w u v) : RS (S0_calculateWithRegister w u) (wk (S1_number 51 w v)) := by
  have hp := prod_eq v (S0_fieldT w) (S0_valueX w u) (S0_valueY w u) h.2.2.1 h.2.2.2.2.2.1 h.2.2.2.2.2.2
  unfold S0_calculateWithRegister S1_number
  rw [if_neg (show ¬ (51 : Int32) = 55 by decide), if_neg (show ¬ (51 : Int32) = 23 by decide), if_neg (show ¬ (51 : Int32) = 19 by decide), if_pos rfl, h.2.2.1, h.2.2.2.1, h.2.2.2.2.2.1, h.2.2.2.2.2.2]
  by_cases s0 : S0_fieldS w = 0
  · rw [s0, if_pos rfl, if_neg (show ¬ (0 : Int32) = 1 by decide), if_pos rfl]
    exact rs_tell h (made_plain _ _ _)
  by_cases s1 : S0_fieldS w = 1
  · rw [s1, if_neg (show ¬ (1 : Int32) = 0 by decide), if_pos rfl, if_pos rfl]
    exact rs_tell h hp
  rw [if_neg s0, if_neg s1, if_neg s1, if_neg s0]
  by_cases s32 : S0_fieldS w = 32
  · rw [s32, if_pos rfl, if_pos rfl]
    by_cases t0 : S0_fieldT w = 0
    · rw [t0, if_pos rfl, if_pos rfl]
      exact rs_tell h (made_sub _ _)
    rw [if_neg t0, if_neg t0]
    by_cases t5 : S0_fieldT w = 5
    · rw [t5, if_pos rfl, if_pos rfl]
      exact rs_tell h (made_sar _ _)
    rw [if_neg t5, if_neg t5, wk_3]
    exact rs_3 h.1
  rw [if_neg s32, if_neg s32, wk_3]
  exact rs_3 h.1
theorem rs_55 {w : Int32} {u : WS} {v : MS} (h : Dec w u v) : RS (S0_tell w (w &&& (-4096)) u) (wk (S1_number 55 w v)) := by
  unfold S1_number
  rw [if_pos rfl, if_neg (show ¬ (55 : Int32) = 23 by decide)]
  refine rs_tell h ?_
  rw [Int64.toInt32_add, Int64.toInt32_mul, Int32.toInt32_toInt64, Int32.toInt32_toInt64, ← eq_up]
  exact Int32.add_zero _
theorem rs_23 {w : Int32} {u : WS} {v : MS} (h : Dec w u v) : RS (S0_tell w (W_pc u + (w &&& (-4096))) u) (wk (S1_number 23 w v)) := by
  unfold S1_number
  rw [if_neg (show ¬ (23 : Int32) = 55 by decide), if_pos rfl, if_pos rfl]
  refine rs_tell h ?_
  rw [Int64.toInt32_add, Int64.toInt32_mul, Int32.toInt32_toInt64, Int32.toInt32_toInt64, ← eq_up, h.1.2.2.2.2.1, Int32.add_comm]
  rfl
theorem num_3 {o : Int32} (w : Int32) (v : MS) (h1 : ¬ o = 55) (h2 : ¬ o = 23) (h3 : ¬ o = 19) (h4 : ¬ o = 51) : S1_number o w v = (3, v) := by
  unfold S1_number
  rw [if_neg h1, if_neg h2, if_neg h3, if_neg h4]
/-- jumps and branches -/
theorem rs_jump {w : Int32} {u : WS} {v : MS} (h : Dec w u v) (p : Int32) : RS (S0_jump w p u) (0, Mp_pc p (S1_give (M_d v) ((M_pc v + 4).toInt64) v)) := by
  have hg := sim_give h.1 (in_fieldD w) (z := (M_pc v + 4).toInt64) (r := W_pc u + 4) (by rw [Int32.toInt32_toInt64, h.1.2.2.2.2.1])
  rw [h.2.1]
  exact ⟨rfl, sim_pcs hg _, Or.inl rfl⟩
theorem give_pc (d : Int32) (z : Int64) (v : MS) : M_pc (S1_give d z v) = M_pc v := by
  unfold S1_give
  split <;> rfl
theorem work_111 {w : Int32} {u : WS} {v : MS} (h : Dec w u v) : RS (S0_jump w (W_pc u + S0_jumpDistance w) u) (S1_work 111 w v) := by
  unfold S1_work
  rw [if_neg (show ¬ (111 : Int32) = 99 by decide), if_pos rfl, eq_jd, give_pc]
  have e := rs_jump h (W_pc u + S0_jumpDistance w)
  rw [← h.1.2.2.2.2.1] at e
  rw [← h.1.2.2.2.2.1]
  exact e
theorem work_103 {w : Int32} {u : WS} {v : MS} (h : Dec w u v) : RS (S0_jumpToRegister w u) (S1_work 103 w v) := by
  unfold S1_work S0_jumpToRegister
  rw [if_neg (show ¬ (103 : Int32) = 99 by decide), if_neg (show ¬ (103 : Int32) = 111 by decide), if_pos rfl, h.2.2.1]
  by_cases t0 : S0_fieldT w = 0
  · rw [if_pos t0, if_pos t0, h.2.2.2.2.2.1, h.2.2.2.2.1, Int64.toInt32_add, uns_i, Int32.toInt32_toInt64]
    exact rs_jump h _
  · rw [if_neg t0, if_neg t0, if_neg (show ¬ (103 : Int32) = 3 by decide), if_neg (show ¬ (103 : Int32) = 35 by decide), num_3 w v (by decide) (by decide) (by decide) (by decide), if_neg (show ¬ (3 : Int32) = 0 by decide)]
    exact rs_3 h.1
theorem t_cases (w : Int32) : S0_fieldT w = 0 ∨ S0_fieldT w = 1 ∨ S0_fieldT w = 2 ∨ S0_fieldT w = 3 ∨ S0_fieldT w = 4 ∨ S0_fieldT w = 5 ∨ S0_fieldT w = 6 ∨ S0_fieldT w = 7 := by
  have h : uw w / 2 ^ 12 % 2 ^ 3 < 8 := Nat.mod_lt _ (by decide)
  rw [fl_t]
  generalize uw w / 2 ^ 12 % 2 ^ 3 = k at h
  match k, h with
  | 0, _ => exact Or.inl rfl
  | 1, _ => exact Or.inr (Or.inl rfl)
  | 2, _ => exact Or.inr (Or.inr (Or.inl rfl))
  | 3, _ => exact Or.inr (Or.inr (Or.inr (Or.inl rfl)))
  | 4, _ => exact Or.inr (Or.inr (Or.inr (Or.inr (Or.inl rfl))))
  | 5, _ => exact Or.inr (Or.inr (Or.inr (Or.inr (Or.inr (Or.inl rfl)))))
  | 6, _ => exact Or.inr (Or.inr (Or.inr (Or.inr (Or.inr (Or.inr (Or.inl rfl))))))
  | 7, _ => exact Or.inr (Or.inr (Or.inr (Or.inr (Or.inr (Or.inr (Or.inr rfl))))))
  | k + 8, h => exact absurd h (by omega)
/-- the end of a branch, by what its condition gave -/
def bend (w : Int32) (u : WS) (hv : Int32) : Int32 × WS := if hv = 0 then (0, Wp_pc (W_pc u + 4) u) else (0, Wp_pc (W_pc u + S0_branchDistance w) u)
theorem rs_bend {w : Int32} {u : WS} {v : MS} (h : Dec w u v) (hv : Int32) : RS (bend w u hv) (S1_branch_j w hv v) := by
  unfold bend S1_branch_j
  rw [eq_bd, h.1.2.2.2.2.1]
  split
  · exact ⟨rfl, sim_pcs h.1 _, Or.inl rfl⟩
  · exact ⟨rfl, sim_pcs h.1 _, Or.inl rfl⟩
theorem scmp_lt (x y : Int32) : (lg_cmp (S1_signed (S0_unsigned x)) (S1_signed (S0_unsigned y)) < 0) ↔ x < y := by
  rw [signed_uns, signed_uns, lg_cmp_lt, Int32.toInt64_lt]
theorem ucmp_eq (x y : Int32) : (lg_cmp (S0_unsigned x) (S0_unsigned y) = 0) ↔ x = y := by
  rw [lg_cmp_eq, uns_eq]
theorem rs_pick {w : Int32} {u : WS} {v : MS} (h : Dec w u v) {p q : Prop} (ip : Decidable p) (iq : Decidable q) (e : q ↔ p) (a b : Int32) : RS (bend w u (@ite _ p ip a b)) (@ite _ q iq (S1_branch_j w a v) (S1_branch_j w b v)) := by
  by_cases hp : p
  · rw [if_pos hp, if_pos (e.mpr hp)]
    exact rs_bend h a
  · rw [if_neg hp, if_neg (fun hq => hp (e.mp hq))]
    exact rs_bend h b
theorem rs_99 {w : Int32} {u : WS} {v : MS} (h : Dec w u v) : RS (S0_branch w u) (S1_branch w v) := by
  have hb : S0_branch w u = if S0_fieldT w = 2 then (3, u) else if S0_fieldT w = 3 then (3, u) else bend w u (S0_holds (S0_fieldT w) (S0_valueX w u) (S0_valueY w u)) := rfl
  rw [hb]
  unfold S1_branch S0_holds
  rw [h.2.2.1, h.2.2.2.2.2.1, h.2.2.2.2.2.2]
  rcases t_cases w with e | e | e | e | e | e | e | e <;> rw [e]
  · exact rs_pick h _ _ (ucmp_eq _ _) 1 0
  · exact rs_pick h _ _ (ucmp_eq _ _) 0 1
  · exact rs_3 h.1
  · exact rs_3 h.1
  · exact rs_pick h _ _ (scmp_ge _ _) 0 1
  · exact rs_pick h _ _ (scmp_lt _ _) 0 1
  · exact rs_pick h _ _ Iff.rfl 0 1
  · exact rs_pick h _ _ Iff.rfl 0 1
