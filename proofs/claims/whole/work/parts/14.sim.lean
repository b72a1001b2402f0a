/-- byte k of a word, as a number below 256 -/
def bnat (x : Int32) (k : Nat) : Nat := x.toBitVec.toNat / 2 ^ (8 * k) % 256
/-- what the two states have in common -/
def Sim (u : WS) (v : MS) : Prop := M_code v = W_code u ∧ M_wc v = W_wc u ∧ 0 ≤ W_wc u ∧ W_wc u ≤ 1024 ∧ M_pc v = W_pc u ∧ M_st v = W_st u ∧ (∀ i : Nat, i < 32 → M_regs v i = S0_unsigned (W_regs u i)) ∧ ∀ a : Nat, a < 4096 → M_mem v a = (nI (bnat (W_mem u (a / 4)) (a % 4))).toInt8.toInt32
theorem Sim_RG {u : WS} {v : MS} (h : Sim u v) : RG v := fun i hi => by
  rw [h.2.2.2.2.2.2.1 i hi]
  exact rp_plain _
