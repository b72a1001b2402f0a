theorem sim_0 : Sim z_W z_M := sorry
theorem sim_word {u : WS} {v : MS} (h : Sim u v) (w : Int32) : (S0_word w u).1 = (S1_word w v).1 ∧ Sim (S0_word w u).2 (S1_word w v).2 := sorry
theorem sim_put {u : WS} {v : MS} (h : Sim u v) (r x : Int32) : (S0_put r x u).1 = (S1_put r x v).1 ∧ Sim (S0_put r x u).2 (S1_put r x v).2 := sorry
theorem sim_get {u : WS} {v : MS} (h : Sim u v) (r : Int32) : S0_get r u = S1_get r v := sorry
theorem sim_poke {u : WS} {v : MS} (h : Sim u v) (a x : Int32) : (S0_poke a x u).1 = (S1_poke a x v).1 ∧ Sim (S0_poke a x u).2 (S1_poke a x v).2 := sorry
theorem sim_peek {u : WS} {v : MS} (h : Sim u v) (a : Int32) : S0_peek a u = S1_peek a v := sorry
theorem sim_go {u : WS} {v : MS} (h : Sim u v) (a : Int32) : (S0_go a u).1 = (S1_go a v).1 ∧ Sim (S0_go a u).2 (S1_go a v).2 := sorry
theorem sim_pc {u : WS} {v : MS} (h : Sim u v) : S0_pc u = S1_pc v := sorry
theorem sim_steps {u : WS} {v : MS} (h : Sim u v) : S0_steps u = S1_steps v := sorry
theorem sim_run {u : WS} {v : MS} (h : Sim u v) (n : Int32) : (S0_run n u).1 = (S1_run n v).1 ∧ Sim (S0_run n u).2 (S1_run n v).2 := sorry
