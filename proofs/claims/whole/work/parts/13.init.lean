abbrev nw0 (h : Nat) : va_W := [(h, .inr (0, [.null, .null, .null, .int 0, .int 0, .int 0]))]
abbrev nw1 (h : Nat) : va_W := [(h, .inr (1, [.null, .int 0, .int 0, .int 0, .null, .null, .int 0, .int 0, .int 0, .int 0, .long 0, .long 0]))]
abbrev z_W : WS := (fun _ => 0, fun _ => 0, fun _ => 0, 0, 0, 0)
abbrev z_M : MS := (fun _ => 0, 0, 0, 0, fun _ => 0, fun _ => 0, 0, 0, 0, 0, 0, 0)
theorem na_i (N : Nat) : ∀ cA : ClassId, vp_cell cA (N, .inl (fun _ => 0)) = arrV cA N (fun _ => defaultValue .int) := fun cA => rfl
theorem na_b (N : Nat) : ∀ cA : ClassId, vp_cell cA (N, .inl (fun _ => 0)) = arrV cA N (fun _ => defaultValue .byte) := fun cA => rfl
theorem na_l (N : Nat) : ∀ cA : ClassId, vp_cell cA (N, .inr (.inl (fun _ => 0))) = arrV cA N (fun _ => defaultValue .long) := fun cA => rfl
theorem ra_int {D : va_G} {cl : List vw_C} {tys : List (ClassId × FieldType)} {U : State} {a b : ClassId} {i j : Nat} (hK : va_K D cl tys U) (hi : tys[i]? = some (a, .int)) (hj : tys[j]? = some (b, .int)) : a = b := by
  have h1 : U.vm.findClass ("[" ++ FieldType.int.toString) = some a := (hK.2 i _ hi).2
  have h2 : U.vm.findClass ("[" ++ FieldType.int.toString) = some b := (hK.2 j _ hj).2
  exact Option.some.inj (h1.symm.trans h2)
theorem iwX0_init : ∀ w ∈ wsX00, w ∈ wsX0_init := by decide +kernel
theorem flX0_init_9 : Cond.fieldLink RX0 9 "WordMachine" "code" "[I" ∈ wsX0_init := by decide +kernel
theorem flX0_init_13 : Cond.fieldLink RX0 13 "WordMachine" "registers" "[I" ∈ wsX0_init := by decide +kernel
theorem flX0_init_16 : Cond.fieldLink RX0 16 "WordMachine" "memory" "[I" ∈ wsX0_init := by decide +kernel
theorem flX0_init_19 : Cond.fieldLink RX0 19 "WordMachine" "wordCount" "I" ∈ wsX0_init := by decide +kernel
theorem flX0_init_23 : Cond.fieldLink RX0 23 "WordMachine" "pc" "I" ∈ wsX0_init := by decide +kernel
theorem flX0_init_26 : Cond.fieldLink RX0 26 "WordMachine" "stepsDone" "I" ∈ wsX0_init := by decide +kernel
set_option maxHeartbeats 4000000 in
set_option maxRecDepth 100000 in
theorem c0_init (l : Launch) (D : va_G) (h sz : Nat) : Met l yX0_init wsX0_init ({ frames := 1, cells := 3, slots := 2080, locals := 12 }) (va_Pc [.ref h] (fun U => U.heap.size = sz ∧ va_P D vwCl (nw0 h) U.heap ∧ va_K D vwCl [] U ∧ va_D (fun _ => True) (nw0 h))) (va_Qv (fun (_ : ClassId × Nat × Nat × Nat) => True) (fun u t => va_P D vwCl (ww0 u.1 h u.2.1 u.2.2.1 u.2.2.2 z_W) t.heap ∧ va_K D vwCl (ty0 u.1) t ∧ va_D (va_A (nw0 h) sz) (ww0 u.1 h u.2.1 u.2.2.1 u.2.2.2 z_W)) (va_A (nw0 h) sz)) 3 2080 (va_A (nw0 h) sz) := by
  refine Met.ofW (cc := cX0_init) (maxL := 1) (ret := none) (by decide) rfl ?_
  intro p e s m args below meth c s₁ B hml hv
  obtain ⟨rfl, hsz, hP, hK, hD0⟩ := hv
  have hx := B.exec
  have hb := B.bytes
  have hr := B.returns
  have hts := atoms_spec (ws := wsX0_init) B.pre
  have hown : s.vm.findClass RX0 = some m.cls := findClass_of_methodNamed B.named
  have hlocks := B.notSynchronized
  have hin : meth.name = "<init>" := (name_of_methodNamed B.named B.method).1
  subst hsz
  have hD := hD0.self (sz := s.heap.size)
  generalize hAe : va_A (nw0 h) s.heap.size = A at hD ⊢
  have hA : ∀ q : Nat, s.heap.size ≤ q → A q := fun q h => by rw [← hAe]; exact Or.inr h
  have hS : va_S A s.heap s.heap [] := va_S.rf
  have hl := lv_entry ([.ref h]) (n := 1) (Nat.le_of_ble_eq_true rfl)
  rw [lg_entry_eq]
  generalize (lg_sl ([.ref h]) ++ List.replicate (1 - (lg_sl ([.ref h])).length) Slot.unset).toArray = ls at hl ⊢
  have hl : lv_has ls 1 [(0, .ref h)] := hl
  refine lv_aload_n hx hb dX0_init_0 rfl (lv_at hl 0 rfl) ?_
  refine W.objInit hx hb hown (hts (.methodLink RX0 1 objectInit) (by decide +kernel)) (hts (.instanceMethod objectInit) (by decide +kernel)) (hts _ (List.mem_cons_of_mem _ (List.mem_append_left _ (List.mem_of_getElem? (i := 2) rfl)))) rfl (by rw [hml]; exact hl.1) rfl dX0_init_1 (Nat.le_of_ble_eq_true rfl) (Nat.le_of_ble_eq_true rfl) ?_
  refine W.eq (g2 := F0 m 4 ls []) rfl ?_
  refine lv_aload_n hx hb dX0_init_4 rfl (lv_at hl 0 rfl) ?_
  refine lv_sipush (v := 1024) hx hb dX0_init_5 (by decide) ?_
  have sc1 : 0 + 1 ≤ 3 := by decide
  have ss1 : 0 + 1024 ≤ 2080 := by decide
  refine va_newa (atype := .int) (D := D) (cl := vwCl) (A := A) (ty := .int) (a0 := (1024, .inl (fun _ => 0))) (N' := 1024) hx hb (hts (.arrayClass .int) (by decide +kernel)) rfl hK hP hD hS hA (na_i 1024) (by decide) (by decide) (by decide) sc1 ss1 dX0_init_8 (fun r1 k1 H hK hP hD hS => ?_)
  have hP : va_P D vwCl [(h, .inr (0, [.null, .null, .null, .int 0, .int 0, .int 0])), (r1, .inl (k1, 1024, .inl (fun _ => 0)))] H := hP
  have hD : va_D A [(h, .inr (0, [.null, .null, .null, .int 0, .int 0, .int 0])), (r1, .inl (k1, 1024, .inl (fun _ => 0)))] := hD
  have hK : va_K D vwCl [(k1, .int)] s := hK
  refine W.widen (k := 1) (n := 1024) (by omega) (by omega) ?_
  refine va_putF (D := D) (ci := 0) (v := .ref r1) (ty := .array .int) (C := RX0) (T := TX0) (N := 6) hx hb hts iwX0_init tyX0 tyX0_ok nmX0 hown hK hP hD hS 0 rfl rfl 0 (by decide) (hts (.fieldLink RX0 9 "WordMachine" "code" "[I") flX0_init_9) (fun _ h9 => h9) rfl hin rfl (by decide +kernel) rfl rfl (Nat.le_of_ble_eq_true rfl) dX0_init_10 (fun H locs hP hD hS => ?_)
  have hP : va_P D vwCl [(h, .inr (0, [.ref r1, .null, .null, .int 0, .int 0, .int 0])), (r1, .inl (k1, 1024, .inl (fun _ => 0)))] H := hP
  have hD : va_D A [(h, .inr (0, [.ref r1, .null, .null, .int 0, .int 0, .int 0])), (r1, .inl (k1, 1024, .inl (fun _ => 0)))] := hD
  refine lv_aload_n hx hb dX0_init_13 rfl (lv_at hl 0 rfl) ?_
  refine lv_bipush (v := 32) hx hb dX0_init_14 (by decide) ?_
  have sc2 : 1 + 1 ≤ 3 := by decide
  have ss2 : 1024 + 32 ≤ 2080 := by decide
  refine va_newa (atype := .int) (D := D) (cl := vwCl) (A := A) (ty := .int) (a0 := (32, .inl (fun _ => 0))) (N' := 32) hx hb (hts (.arrayClass .int) (by decide +kernel)) rfl hK hP hD hS hA (na_i 32) (by decide) (by decide) (by decide) sc2 ss2 dX0_init_16 (fun r2 k2 H hK hP hD hS => ?_)
  have hP : va_P D vwCl [(h, .inr (0, [.ref r1, .null, .null, .int 0, .int 0, .int 0])), (r1, .inl (k1, 1024, .inl (fun _ => 0))), (r2, .inl (k2, 32, .inl (fun _ => 0)))] H := hP
  have hD : va_D A [(h, .inr (0, [.ref r1, .null, .null, .int 0, .int 0, .int 0])), (r1, .inl (k1, 1024, .inl (fun _ => 0))), (r2, .inl (k2, 32, .inl (fun _ => 0)))] := hD
  have hK : va_K D vwCl [(k1, .int), (k2, .int)] s := hK
  refine W.widen (k := 2) (n := 1056) (by omega) (by omega) ?_
  refine va_putF (D := D) (ci := 0) (v := .ref r2) (ty := .array .int) (C := RX0) (T := TX0) (N := 6) hx hb hts iwX0_init tyX0 tyX0_ok nmX0 hown hK hP hD hS 0 rfl rfl 1 (by decide) (hts (.fieldLink RX0 13 "WordMachine" "registers" "[I") flX0_init_13) (fun _ h9 => h9) rfl hin rfl (by decide +kernel) rfl rfl (Nat.le_of_ble_eq_true rfl) dX0_init_18 (fun H locs hP hD hS => ?_)
  have hP : va_P D vwCl [(h, .inr (0, [.ref r1, .ref r2, .null, .int 0, .int 0, .int 0])), (r1, .inl (k1, 1024, .inl (fun _ => 0))), (r2, .inl (k2, 32, .inl (fun _ => 0)))] H := hP
  have hD : va_D A [(h, .inr (0, [.ref r1, .ref r2, .null, .int 0, .int 0, .int 0])), (r1, .inl (k1, 1024, .inl (fun _ => 0))), (r2, .inl (k2, 32, .inl (fun _ => 0)))] := hD
  refine lv_aload_n hx hb dX0_init_21 rfl (lv_at hl 0 rfl) ?_
  refine lv_sipush (v := 1024) hx hb dX0_init_22 (by decide) ?_
  have sc3 : 2 + 1 ≤ 3 := by decide
  have ss3 : 1056 + 1024 ≤ 2080 := by decide
  refine va_newa (atype := .int) (D := D) (cl := vwCl) (A := A) (ty := .int) (a0 := (1024, .inl (fun _ => 0))) (N' := 1024) hx hb (hts (.arrayClass .int) (by decide +kernel)) rfl hK hP hD hS hA (na_i 1024) (by decide) (by decide) (by decide) sc3 ss3 dX0_init_25 (fun r3 k3 H hK hP hD hS => ?_)
  have hP : va_P D vwCl [(h, .inr (0, [.ref r1, .ref r2, .null, .int 0, .int 0, .int 0])), (r1, .inl (k1, 1024, .inl (fun _ => 0))), (r2, .inl (k2, 32, .inl (fun _ => 0))), (r3, .inl (k3, 1024, .inl (fun _ => 0)))] H := hP
  have hD : va_D A [(h, .inr (0, [.ref r1, .ref r2, .null, .int 0, .int 0, .int 0])), (r1, .inl (k1, 1024, .inl (fun _ => 0))), (r2, .inl (k2, 32, .inl (fun _ => 0))), (r3, .inl (k3, 1024, .inl (fun _ => 0)))] := hD
  have hK : va_K D vwCl [(k1, .int), (k2, .int), (k3, .int)] s := hK
  refine W.widen (k := 3) (n := 2080) (by omega) (by omega) ?_
  refine va_putF (D := D) (ci := 0) (v := .ref r3) (ty := .array .int) (C := RX0) (T := TX0) (N := 6) hx hb hts iwX0_init tyX0 tyX0_ok nmX0 hown hK hP hD hS 0 rfl rfl 2 (by decide) (hts (.fieldLink RX0 16 "WordMachine" "memory" "[I") flX0_init_16) (fun _ h9 => h9) rfl hin rfl (by decide +kernel) rfl rfl (Nat.le_of_ble_eq_true rfl) dX0_init_27 (fun H locs hP hD hS => ?_)
  have hP : va_P D vwCl [(h, .inr (0, [.ref r1, .ref r2, .ref r3, .int 0, .int 0, .int 0])), (r1, .inl (k1, 1024, .inl (fun _ => 0))), (r2, .inl (k2, 32, .inl (fun _ => 0))), (r3, .inl (k3, 1024, .inl (fun _ => 0)))] H := hP
  have hD : va_D A [(h, .inr (0, [.ref r1, .ref r2, .ref r3, .int 0, .int 0, .int 0])), (r1, .inl (k1, 1024, .inl (fun _ => 0))), (r2, .inl (k2, 32, .inl (fun _ => 0))), (r3, .inl (k3, 1024, .inl (fun _ => 0)))] := hD
  refine lv_aload_n hx hb dX0_init_30 rfl (lv_at hl 0 rfl) ?_
  refine lv_iconst (v := 0) hx hb dX0_init_31 (by decide) ?_
  refine va_put (D := D) (ci := 0) (v := .int 0) (ty := .int) (C := RX0) (T := TX0) (N := 6) hx hb hts iwX0_init tyX0 tyX0_ok nmX0 hown hK hP hD hS 0 rfl rfl 3 (by decide) (hts (.fieldLink RX0 19 "WordMachine" "wordCount" "I") flX0_init_19) (fun _ h9 => h9) rfl (by decide +kernel) rfl rfl (Nat.le_of_ble_eq_true rfl) dX0_init_32 (fun H locs hP hD hS => ?_)
  have hP : va_P D vwCl [(h, .inr (0, [.ref r1, .ref r2, .ref r3, .int 0, .int 0, .int 0])), (r1, .inl (k1, 1024, .inl (fun _ => 0))), (r2, .inl (k2, 32, .inl (fun _ => 0))), (r3, .inl (k3, 1024, .inl (fun _ => 0)))] H := hP
  have hD : va_D A [(h, .inr (0, [.ref r1, .ref r2, .ref r3, .int 0, .int 0, .int 0])), (r1, .inl (k1, 1024, .inl (fun _ => 0))), (r2, .inl (k2, 32, .inl (fun _ => 0))), (r3, .inl (k3, 1024, .inl (fun _ => 0)))] := hD
  refine lv_aload_n hx hb dX0_init_35 rfl (lv_at hl 0 rfl) ?_
  refine lv_iconst (v := 0) hx hb dX0_init_36 (by decide) ?_
  refine va_put (D := D) (ci := 0) (v := .int 0) (ty := .int) (C := RX0) (T := TX0) (N := 6) hx hb hts iwX0_init tyX0 tyX0_ok nmX0 hown hK hP hD hS 0 rfl rfl 4 (by decide) (hts (.fieldLink RX0 23 "WordMachine" "pc" "I") flX0_init_23) (fun _ h9 => h9) rfl (by decide +kernel) rfl rfl (Nat.le_of_ble_eq_true rfl) dX0_init_37 (fun H locs hP hD hS => ?_)
  have hP : va_P D vwCl [(h, .inr (0, [.ref r1, .ref r2, .ref r3, .int 0, .int 0, .int 0])), (r1, .inl (k1, 1024, .inl (fun _ => 0))), (r2, .inl (k2, 32, .inl (fun _ => 0))), (r3, .inl (k3, 1024, .inl (fun _ => 0)))] H := hP
  have hD : va_D A [(h, .inr (0, [.ref r1, .ref r2, .ref r3, .int 0, .int 0, .int 0])), (r1, .inl (k1, 1024, .inl (fun _ => 0))), (r2, .inl (k2, 32, .inl (fun _ => 0))), (r3, .inl (k3, 1024, .inl (fun _ => 0)))] := hD
  refine lv_aload_n hx hb dX0_init_40 rfl (lv_at hl 0 rfl) ?_
  refine lv_iconst (v := 0) hx hb dX0_init_41 (by decide) ?_
  refine va_put (D := D) (ci := 0) (v := .int 0) (ty := .int) (C := RX0) (T := TX0) (N := 6) hx hb hts iwX0_init tyX0 tyX0_ok nmX0 hown hK hP hD hS 0 rfl rfl 5 (by decide) (hts (.fieldLink RX0 26 "WordMachine" "stepsDone" "I") flX0_init_26) (fun _ h9 => h9) rfl (by decide +kernel) rfl rfl (Nat.le_of_ble_eq_true rfl) dX0_init_42 (fun H locs hP hD hS => ?_)
  have hP : va_P D vwCl [(h, .inr (0, [.ref r1, .ref r2, .ref r3, .int 0, .int 0, .int 0])), (r1, .inl (k1, 1024, .inl (fun _ => 0))), (r2, .inl (k2, 32, .inl (fun _ => 0))), (r3, .inl (k3, 1024, .inl (fun _ => 0)))] H := hP
  have hD : va_D A [(h, .inr (0, [.ref r1, .ref r2, .ref r3, .int 0, .int 0, .int 0])), (r1, .inl (k1, 1024, .inl (fun _ => 0))), (r2, .inl (k2, 32, .inl (fun _ => 0))), (r3, .inl (k3, 1024, .inl (fun _ => 0)))] := hD
  have e2 : k2 = k1 := ra_int (i := 1) (j := 0) hK rfl rfl
  have e3 : k3 = k1 := ra_int (i := 2) (j := 0) hK rfl rfl
  subst e2
  subst e3
  exact W.vret hx hb hr (fun t ht hW => ⟨⟨(_, r1, r2, r3), rfl, trivial, by show va_P _ _ _ t.heap; rw [ht]; exact hP, va_K.moved hW.alike (hK.sub [0] rfl), hD⟩, hS.F ht⟩) hS.2.2 dX0_init_45
theorem iwX1_init : ∀ w ∈ wsX10, w ∈ wsX1_init := by decide +kernel
theorem flX1_init_7 : Cond.fieldLink RX1 7 "WordMachineModel" "code" "[I" ∈ wsX1_init := by decide +kernel
theorem flX1_init_13 : Cond.fieldLink RX1 13 "WordMachineModel" "registers" "[J" ∈ wsX1_init := by decide +kernel
theorem flX1_init_17 : Cond.fieldLink RX1 17 "WordMachineModel" "memory" "[B" ∈ wsX1_init := by decide +kernel
set_option maxHeartbeats 4000000 in
set_option maxRecDepth 100000 in
theorem c1_init (l : Launch) (D : va_G) (h sz : Nat) : Met l yX1_init wsX1_init ({ frames := 1, cells := 3, slots := 5152, locals := 12 }) (va_Pc [.ref h] (fun U => U.heap.size = sz ∧ va_P D vwCl (nw1 h) U.heap ∧ va_K D vwCl [] U ∧ va_D (fun _ => True) (nw1 h))) (va_Qv (fun (_ : ClassId × ClassId × ClassId × Nat × Nat × Nat) => True) (fun u t => va_P D vwCl (ww1 u.1 u.2.1 u.2.2.1 h u.2.2.2.1 u.2.2.2.2.1 u.2.2.2.2.2 z_M) t.heap ∧ va_K D vwCl (ty1 u.1 u.2.1 u.2.2.1) t ∧ va_D (va_A (nw1 h) sz) (ww1 u.1 u.2.1 u.2.2.1 h u.2.2.2.1 u.2.2.2.2.1 u.2.2.2.2.2 z_M)) (va_A (nw1 h) sz)) 3 5152 (va_A (nw1 h) sz) := by
  refine Met.ofW (cc := cX1_init) (maxL := 1) (ret := none) (by decide) rfl ?_
  intro p e s m args below meth c s₁ B hml hv
  obtain ⟨rfl, hsz, hP, hK, hD0⟩ := hv
  have hx := B.exec
  have hb := B.bytes
  have hr := B.returns
  have hts := atoms_spec (ws := wsX1_init) B.pre
  have hown : s.vm.findClass RX1 = some m.cls := findClass_of_methodNamed B.named
  have hlocks := B.notSynchronized
  have hin : meth.name = "<init>" := (name_of_methodNamed B.named B.method).1
  subst hsz
  have hD := hD0.self (sz := s.heap.size)
  generalize hAe : va_A (nw1 h) s.heap.size = A at hD ⊢
  have hA : ∀ q : Nat, s.heap.size ≤ q → A q := fun q h => by rw [← hAe]; exact Or.inr h
  have hS : va_S A s.heap s.heap [] := va_S.rf
  have hl := lv_entry ([.ref h]) (n := 1) (Nat.le_of_ble_eq_true rfl)
  rw [lg_entry_eq]
  generalize (lg_sl ([.ref h]) ++ List.replicate (1 - (lg_sl ([.ref h])).length) Slot.unset).toArray = ls at hl ⊢
  have hl : lv_has ls 1 [(0, .ref h)] := hl
  refine lv_aload_n hx hb dX1_init_0 rfl (lv_at hl 0 rfl) ?_
  refine W.objInit hx hb hown (hts (.methodLink RX1 1 objectInit) (by decide +kernel)) (hts (.instanceMethod objectInit) (by decide +kernel)) (hts _ (List.mem_cons_of_mem _ (List.mem_append_left _ (List.mem_of_getElem? (i := 2) rfl)))) rfl (by rw [hml]; exact hl.1) rfl dX1_init_1 (Nat.le_of_ble_eq_true rfl) (Nat.le_of_ble_eq_true rfl) ?_
  refine W.eq (g2 := F0 m 4 ls []) rfl ?_
  refine lv_aload_n hx hb dX1_init_4 rfl (lv_at hl 0 rfl) ?_
  refine lv_sipush (v := 1024) hx hb dX1_init_5 (by decide) ?_
  have sc1 : 0 + 1 ≤ 3 := by decide
  have ss1 : 0 + 1024 ≤ 5152 := by decide
  refine va_newa (atype := .int) (D := D) (cl := vwCl) (A := A) (ty := .int) (a0 := (1024, .inl (fun _ => 0))) (N' := 1024) hx hb (hts (.arrayClass .int) (by decide +kernel)) rfl hK hP hD hS hA (na_i 1024) (by decide) (by decide) (by decide) sc1 ss1 dX1_init_8 (fun r1 k1 H hK hP hD hS => ?_)
  have hP : va_P D vwCl [(h, .inr (1, [.null, .int 0, .int 0, .int 0, .null, .null, .int 0, .int 0, .int 0, .int 0, .long 0, .long 0])), (r1, .inl (k1, 1024, .inl (fun _ => 0)))] H := hP
  have hD : va_D A [(h, .inr (1, [.null, .int 0, .int 0, .int 0, .null, .null, .int 0, .int 0, .int 0, .int 0, .long 0, .long 0])), (r1, .inl (k1, 1024, .inl (fun _ => 0)))] := hD
  have hK : va_K D vwCl [(k1, .int)] s := hK
  refine W.widen (k := 1) (n := 1024) (by omega) (by omega) ?_
  refine va_putF (D := D) (ci := 1) (v := .ref r1) (ty := .array .int) (C := RX1) (T := TX1) (N := 12) hx hb hts iwX1_init tyX1 tyX1_ok nmX1 hown hK hP hD hS 0 rfl rfl 0 (by decide) (hts (.fieldLink RX1 7 "WordMachineModel" "code" "[I") flX1_init_7) (fun _ h9 => h9) rfl hin rfl (by decide +kernel) rfl rfl (Nat.le_of_ble_eq_true rfl) dX1_init_10 (fun H locs hP hD hS => ?_)
  have hP : va_P D vwCl [(h, .inr (1, [.ref r1, .int 0, .int 0, .int 0, .null, .null, .int 0, .int 0, .int 0, .int 0, .long 0, .long 0])), (r1, .inl (k1, 1024, .inl (fun _ => 0)))] H := hP
  have hD : va_D A [(h, .inr (1, [.ref r1, .int 0, .int 0, .int 0, .null, .null, .int 0, .int 0, .int 0, .int 0, .long 0, .long 0])), (r1, .inl (k1, 1024, .inl (fun _ => 0)))] := hD
  refine lv_aload_n hx hb dX1_init_13 rfl (lv_at hl 0 rfl) ?_
  refine lv_bipush (v := 32) hx hb dX1_init_14 (by decide) ?_
  have sc2 : 1 + 1 ≤ 3 := by decide
  have ss2 : 1024 + 32 ≤ 5152 := by decide
  refine va_newa (atype := .long) (D := D) (cl := vwCl) (A := A) (ty := .long) (a0 := (32, .inr (.inl (fun _ => 0)))) (N' := 32) hx hb (hts (.arrayClass .long) (by decide +kernel)) rfl hK hP hD hS hA (na_l 32) (by decide) (by decide) (by decide) sc2 ss2 dX1_init_16 (fun r2 k2 H hK hP hD hS => ?_)
  have hP : va_P D vwCl [(h, .inr (1, [.ref r1, .int 0, .int 0, .int 0, .null, .null, .int 0, .int 0, .int 0, .int 0, .long 0, .long 0])), (r1, .inl (k1, 1024, .inl (fun _ => 0))), (r2, .inl (k2, 32, .inr (.inl (fun _ => 0))))] H := hP
  have hD : va_D A [(h, .inr (1, [.ref r1, .int 0, .int 0, .int 0, .null, .null, .int 0, .int 0, .int 0, .int 0, .long 0, .long 0])), (r1, .inl (k1, 1024, .inl (fun _ => 0))), (r2, .inl (k2, 32, .inr (.inl (fun _ => 0))))] := hD
  have hK : va_K D vwCl [(k1, .int), (k2, .long)] s := hK
  refine W.widen (k := 2) (n := 1056) (by omega) (by omega) ?_
  refine va_putF (D := D) (ci := 1) (v := .ref r2) (ty := .array .long) (C := RX1) (T := TX1) (N := 12) hx hb hts iwX1_init tyX1 tyX1_ok nmX1 hown hK hP hD hS 0 rfl rfl 4 (by decide) (hts (.fieldLink RX1 13 "WordMachineModel" "registers" "[J") flX1_init_13) (fun _ h9 => h9) rfl hin rfl (by decide +kernel) rfl rfl (Nat.le_of_ble_eq_true rfl) dX1_init_18 (fun H locs hP hD hS => ?_)
  have hP : va_P D vwCl [(h, .inr (1, [.ref r1, .int 0, .int 0, .int 0, .ref r2, .null, .int 0, .int 0, .int 0, .int 0, .long 0, .long 0])), (r1, .inl (k1, 1024, .inl (fun _ => 0))), (r2, .inl (k2, 32, .inr (.inl (fun _ => 0))))] H := hP
  have hD : va_D A [(h, .inr (1, [.ref r1, .int 0, .int 0, .int 0, .ref r2, .null, .int 0, .int 0, .int 0, .int 0, .long 0, .long 0])), (r1, .inl (k1, 1024, .inl (fun _ => 0))), (r2, .inl (k2, 32, .inr (.inl (fun _ => 0))))] := hD
  refine lv_aload_n hx hb dX1_init_21 rfl (lv_at hl 0 rfl) ?_
  refine lv_sipush (v := 4096) hx hb dX1_init_22 (by decide) ?_
  have sc3 : 2 + 1 ≤ 3 := by decide
  have ss3 : 1056 + 4096 ≤ 5152 := by decide
  refine va_newa (atype := .byte) (D := D) (cl := vwCl) (A := A) (ty := .byte) (a0 := (4096, .inl (fun _ => 0))) (N' := 4096) hx hb (hts (.arrayClass .byte) (by decide +kernel)) rfl hK hP hD hS hA (na_b 4096) (by decide) (by decide) (by decide) sc3 ss3 dX1_init_25 (fun r3 k3 H hK hP hD hS => ?_)
  have hP : va_P D vwCl [(h, .inr (1, [.ref r1, .int 0, .int 0, .int 0, .ref r2, .null, .int 0, .int 0, .int 0, .int 0, .long 0, .long 0])), (r1, .inl (k1, 1024, .inl (fun _ => 0))), (r2, .inl (k2, 32, .inr (.inl (fun _ => 0)))), (r3, .inl (k3, 4096, .inl (fun _ => 0)))] H := hP
  have hD : va_D A [(h, .inr (1, [.ref r1, .int 0, .int 0, .int 0, .ref r2, .null, .int 0, .int 0, .int 0, .int 0, .long 0, .long 0])), (r1, .inl (k1, 1024, .inl (fun _ => 0))), (r2, .inl (k2, 32, .inr (.inl (fun _ => 0)))), (r3, .inl (k3, 4096, .inl (fun _ => 0)))] := hD
  have hK : va_K D vwCl [(k1, .int), (k2, .long), (k3, .byte)] s := hK
  refine W.widen (k := 3) (n := 5152) (by omega) (by omega) ?_
  refine va_putF (D := D) (ci := 1) (v := .ref r3) (ty := .array .byte) (C := RX1) (T := TX1) (N := 12) hx hb hts iwX1_init tyX1 tyX1_ok nmX1 hown hK hP hD hS 0 rfl rfl 5 (by decide) (hts (.fieldLink RX1 17 "WordMachineModel" "memory" "[B") flX1_init_17) (fun _ h9 => h9) rfl hin rfl (by decide +kernel) rfl rfl (Nat.le_of_ble_eq_true rfl) dX1_init_27 (fun H locs hP hD hS => ?_)
  have hP : va_P D vwCl [(h, .inr (1, [.ref r1, .int 0, .int 0, .int 0, .ref r2, .ref r3, .int 0, .int 0, .int 0, .int 0, .long 0, .long 0])), (r1, .inl (k1, 1024, .inl (fun _ => 0))), (r2, .inl (k2, 32, .inr (.inl (fun _ => 0)))), (r3, .inl (k3, 4096, .inl (fun _ => 0)))] H := hP
  have hD : va_D A [(h, .inr (1, [.ref r1, .int 0, .int 0, .int 0, .ref r2, .ref r3, .int 0, .int 0, .int 0, .int 0, .long 0, .long 0])), (r1, .inl (k1, 1024, .inl (fun _ => 0))), (r2, .inl (k2, 32, .inr (.inl (fun _ => 0)))), (r3, .inl (k3, 4096, .inl (fun _ => 0)))] := hD
  exact W.vret hx hb hr (fun t ht hW => ⟨⟨(_, _, _, r1, r2, r3), rfl, trivial, by show va_P _ _ _ t.heap; rw [ht]; exact hP, va_K.moved hW.alike (hK.sub [0, 1, 2] rfl), hD⟩, hS.F ht⟩) hS.2.2 dX1_init_30
