theorem hdX0_isRegister : yX0_isRegister.cls ≠ "java/lang/invoke/MethodHandle" ∧ yX0_isRegister.cls ≠ "java/lang/invoke/VarHandle" ∧ (parseMethodDescriptor yX0_isRegister.desc).map (fun d => d.parameters.length) = some 1 := by decide +kernel
set_option maxHeartbeats 4000000 in
set_option maxRecDepth 100000 in
theorem c0_isRegister (l : Launch) (ra : Int32)  : Pui l yX0_isRegister wsX0_isRegister 0 0 [.int ra] (S0_isRegister ra) := by
  refine Met.ofW (cc := cX0_isRegister) (maxL := 1) (ret := (some .boolean)) (by decide) rfl ?_
  intro p e s m args below meth c s₁ B hml hv
  obtain ⟨rfl, -⟩ := hv
  have hx := B.exec
  have hb := B.bytes
  have hr := B.returns
  have hts := atoms_spec (ws := wsX0_isRegister) B.pre
  have hown : s.vm.findClass RX0 = some m.cls := findClass_of_methodNamed B.named
  have hlocks := B.notSynchronized
  have hP : va_P ((fun _ => 0), (fun _ _ => 0)) [] [] s.heap := fun k q h => by simp at h
  have hS : va_S (fun _ => False) s.heap s.heap [] := va_S.rf
  have hl := lv_entry ([.int ra]) (n := 1) (Nat.le_of_ble_eq_true rfl)
  rw [lg_entry_eq]
  generalize (lg_sl ([.int ra]) ++ List.replicate (1 - (lg_sl ([.int ra])).length) Slot.unset).toArray = ls at hl ⊢
  have hl : lv_has ls 1 [(0, .int ra)] := hl
  refine lv_iload_n hx hb dX0_isRegister_0 rfl (lv_at hl 0 rfl) ?_
  refine lv_if_lt (tgt := 14) hx hb dX0_isRegister_1 (by decide) (fun (c1 : ra < 0) => ?_) (fun (c1 : ¬ ra < 0) => ?_)
  · refine lv_iconst (v := 0) hx hb dX0_isRegister_14 (by decide) ?_
    have e9 : S0_isRegister ra = (0 : Int32) := by rw [S0_isRegister, if_pos c1]
    exact W.zret (v := (0 : Int32)) hx hb hr rfl (fun t ht hW => ⟨⟨(0 : Int32), (), rfl, e9.symm, trivial⟩, hS.F ht⟩) hS.2.2 dX0_isRegister_15
  · refine lv_iload_n hx hb dX0_isRegister_4 rfl (lv_at hl 0 rfl) ?_
    refine lv_bipush (v := 32) hx hb dX0_isRegister_5 (by decide) ?_
    refine lv_icmp_ge (tgt := 14) hx hb dX0_isRegister_7 (by decide) (fun (c2 : 32 ≤ ra) => ?_) (fun (c2 : ¬ 32 ≤ ra) => ?_)
    · refine lv_iconst (v := 0) hx hb dX0_isRegister_14 (by decide) ?_
      have e9 : S0_isRegister ra = (0 : Int32) := by rw [S0_isRegister, if_neg c1, if_pos c2]
      exact W.zret (v := (0 : Int32)) hx hb hr rfl (fun t ht hW => ⟨⟨(0 : Int32), (), rfl, e9.symm, trivial⟩, hS.F ht⟩) hS.2.2 dX0_isRegister_15
    · refine lv_iconst (v := 1) hx hb dX0_isRegister_10 (by decide) ?_
      refine lv_goto (tgt := 15) hx hb dX0_isRegister_11 (by decide) ?_
      have e9 : S0_isRegister ra = (1 : Int32) := by rw [S0_isRegister, if_neg c1, if_neg c2]
      exact W.zret (v := (1 : Int32)) hx hb hr rfl (fun t ht hW => ⟨⟨(1 : Int32), (), rfl, e9.symm, trivial⟩, hS.F ht⟩) hS.2.2 dX0_isRegister_15
theorem hdX0_isMultiple : yX0_isMultiple.cls ≠ "java/lang/invoke/MethodHandle" ∧ yX0_isMultiple.cls ≠ "java/lang/invoke/VarHandle" ∧ (parseMethodDescriptor yX0_isMultiple.desc).map (fun d => d.parameters.length) = some 2 := by decide +kernel
set_option maxHeartbeats 4000000 in
set_option maxRecDepth 100000 in
theorem c0_isMultiple (l : Launch) (aa : Int32) (ba : Int32)  : Pui l yX0_isMultiple wsX0_isMultiple 0 0 [.int aa, .int ba] (S0_isMultiple aa ba) := by
  refine Met.ofW (cc := cX0_isMultiple) (maxL := 2) (ret := (some .boolean)) (by decide) rfl ?_
  intro p e s m args below meth c s₁ B hml hv
  obtain ⟨rfl, -⟩ := hv
  have hx := B.exec
  have hb := B.bytes
  have hr := B.returns
  have hts := atoms_spec (ws := wsX0_isMultiple) B.pre
  have hown : s.vm.findClass RX0 = some m.cls := findClass_of_methodNamed B.named
  have hlocks := B.notSynchronized
  have hP : va_P ((fun _ => 0), (fun _ _ => 0)) [] [] s.heap := fun k q h => by simp at h
  have hS : va_S (fun _ => False) s.heap s.heap [] := va_S.rf
  have hl := lv_entry ([.int aa, .int ba]) (n := 2) (Nat.le_of_ble_eq_true rfl)
  rw [lg_entry_eq]
  generalize (lg_sl ([.int aa, .int ba]) ++ List.replicate (2 - (lg_sl ([.int aa, .int ba])).length) Slot.unset).toArray = ls at hl ⊢
  have hl : lv_has ls 2 [(0, .int aa), (1, .int ba)] := hl
  refine lv_iload_n hx hb dX0_isMultiple_0 rfl (lv_at hl 0 rfl) ?_
  refine lv_iload_n hx hb dX0_isMultiple_1 rfl (lv_at hl 1 rfl) ?_
  refine lv_iconst (v := 1) hx hb dX0_isMultiple_2 (by decide) ?_
  refine lv_isub hx hb dX0_isMultiple_3 ?_
  refine lv_iand hx hb dX0_isMultiple_4 ?_
  refine lv_if_ne (tgt := 12) hx hb dX0_isMultiple_5 (by decide) (fun (c1 : ¬ (aa &&& (ba - 1)) = 0) => ?_) (fun (c1 : (aa &&& (ba - 1)) = 0) => ?_)
  · refine lv_iconst (v := 0) hx hb dX0_isMultiple_12 (by decide) ?_
    have e9 : S0_isMultiple aa ba = (0 : Int32) := by rw [S0_isMultiple, if_neg c1]
    exact W.zret (v := (0 : Int32)) hx hb hr rfl (fun t ht hW => ⟨⟨(0 : Int32), (), rfl, e9.symm, trivial⟩, hS.F ht⟩) hS.2.2 dX0_isMultiple_13
  · refine lv_iconst (v := 1) hx hb dX0_isMultiple_8 (by decide) ?_
    refine lv_goto (tgt := 13) hx hb dX0_isMultiple_9 (by decide) ?_
    have e9 : S0_isMultiple aa ba = (1 : Int32) := by rw [S0_isMultiple, if_pos c1]
    exact W.zret (v := (1 : Int32)) hx hb hr rfl (fun t ht hW => ⟨⟨(1 : Int32), (), rfl, e9.symm, trivial⟩, hS.F ht⟩) hS.2.2 dX0_isMultiple_13
theorem hdX0_isAddress : yX0_isAddress.cls ≠ "java/lang/invoke/MethodHandle" ∧ yX0_isAddress.cls ≠ "java/lang/invoke/VarHandle" ∧ (parseMethodDescriptor yX0_isAddress.desc).map (fun d => d.parameters.length) = some 2 := by decide +kernel
set_option maxHeartbeats 4000000 in
set_option maxRecDepth 100000 in
theorem c0_isAddress (l : Launch) (aa : Int32) (ba : Int32)  : Pui l yX0_isAddress wsX0_isAddress 1 21 [.int aa, .int ba] (S0_isAddress aa ba) := by
  refine Met.ofW (cc := cX0_isAddress) (maxL := 2) (ret := (some .boolean)) (by decide) rfl ?_
  intro p e s m args below meth c s₁ B hml hv
  obtain ⟨rfl, -⟩ := hv
  have hx := B.exec
  have hb := B.bytes
  have hr := B.returns
  have hts := atoms_spec (ws := wsX0_isAddress) B.pre
  have hown : s.vm.findClass RX0 = some m.cls := findClass_of_methodNamed B.named
  have hlocks := B.notSynchronized
  have hP : va_P ((fun _ => 0), (fun _ _ => 0)) [] [] s.heap := fun k q h => by simp at h
  have hS : va_S (fun _ => False) s.heap s.heap [] := va_S.rf
  have hl := lv_entry ([.int aa, .int ba]) (n := 2) (Nat.le_of_ble_eq_true rfl)
  rw [lg_entry_eq]
  generalize (lg_sl ([.int aa, .int ba]) ++ List.replicate (2 - (lg_sl ([.int aa, .int ba])).length) Slot.unset).toArray = ls at hl ⊢
  have hl : lv_has ls 2 [(0, .int aa), (1, .int ba)] := hl
  refine lv_iload_n hx hb dX0_isAddress_0 rfl (lv_at hl 0 rfl) ?_
  refine lv_if_lt (tgt := 25) hx hb dX0_isAddress_1 (by decide) (fun (c1 : aa < 0) => ?_) (fun (c1 : ¬ aa < 0) => ?_)
  · refine lv_iconst (v := 0) hx hb dX0_isAddress_25 (by decide) ?_
    have e9 : S0_isAddress aa ba = (0 : Int32) := by rw [S0_isAddress, if_pos c1]
    exact W.zret (v := (0 : Int32)) hx hb hr rfl (fun t ht hW => ⟨⟨(0 : Int32), (), rfl, e9.symm, trivial⟩, hS.F ht⟩) hS.2.2 dX0_isAddress_26
  · refine lv_iload_n hx hb dX0_isAddress_4 rfl (lv_at hl 0 rfl) ?_
    refine lv_sipush (v := 4096) hx hb dX0_isAddress_5 (by decide) ?_
    refine lv_iload_n hx hb dX0_isAddress_8 rfl (lv_at hl 1 rfl) ?_
    refine lv_isub hx hb dX0_isAddress_9 ?_
    refine lv_icmp_gt (tgt := 25) hx hb dX0_isAddress_10 (by decide) (fun (c2 : (4096 - ba) < aa) => ?_) (fun (c2 : ¬ (4096 - ba) < aa) => ?_)
    · refine lv_iconst (v := 0) hx hb dX0_isAddress_25 (by decide) ?_
      have e9 : S0_isAddress aa ba = (0 : Int32) := by rw [S0_isAddress, if_neg c1, if_pos c2]
      exact W.zret (v := (0 : Int32)) hx hb hr rfl (fun t ht hW => ⟨⟨(0 : Int32), (), rfl, e9.symm, trivial⟩, hS.F ht⟩) hS.2.2 dX0_isAddress_26
    · refine lv_iload_n hx hb dX0_isAddress_13 rfl (lv_at hl 0 rfl) ?_
      refine lv_iload_n hx hb dX0_isAddress_14 rfl (lv_at hl 1 rfl) ?_
      refine pu_i (v := S0_isMultiple aa ba) (As := [.int aa, .int ba]) (rest := []) ⟨hx, hb, hml, hown, hts⟩ (c0_isMultiple l aa ba ) gX0_isAddress_X0_isMultiple rfl hdX0_isMultiple ⟨Nat.le_of_ble_eq_true rfl, Nat.le_of_ble_eq_true rfl⟩ hl.1 rfl (Nat.le_of_ble_eq_true rfl) dX0_isAddress_15 ⟨Nat.zero_le _, Nat.zero_le _⟩ hP hS (fun H locs hP hS => ?_)
      refine lv_if_eq (tgt := 25) hx hb dX0_isAddress_18 (by decide) (fun (c3 : (S0_isMultiple aa ba) = 0) => ?_) (fun (c3 : ¬ (S0_isMultiple aa ba) = 0) => ?_)
      · refine lv_iconst (v := 0) hx hb dX0_isAddress_25 (by decide) ?_
        have e9 : S0_isAddress aa ba = (0 : Int32) := by rw [S0_isAddress, if_neg c1, if_neg c2, if_pos c3]
        exact W.zret (v := (0 : Int32)) hx hb hr rfl (fun t ht hW => ⟨⟨(0 : Int32), (), rfl, e9.symm, trivial⟩, hS.F ht⟩) hS.2.2 dX0_isAddress_26
      · refine lv_iconst (v := 1) hx hb dX0_isAddress_21 (by decide) ?_
        refine lv_goto (tgt := 26) hx hb dX0_isAddress_22 (by decide) ?_
        have e9 : S0_isAddress aa ba = (1 : Int32) := by rw [S0_isAddress, if_neg c1, if_neg c2, if_neg c3]
        exact W.zret (v := (1 : Int32)) hx hb hr rfl (fun t ht hW => ⟨⟨(1 : Int32), (), rfl, e9.symm, trivial⟩, hS.F ht⟩) hS.2.2 dX0_isAddress_26
theorem hdX0_bitOffset : yX0_bitOffset.cls ≠ "java/lang/invoke/MethodHandle" ∧ yX0_bitOffset.cls ≠ "java/lang/invoke/VarHandle" ∧ (parseMethodDescriptor yX0_bitOffset.desc).map (fun d => d.parameters.length) = some 1 := by decide +kernel
set_option maxHeartbeats 4000000 in
set_option maxRecDepth 100000 in
theorem c0_bitOffset (l : Launch) (aa : Int32)  : Pui l yX0_bitOffset wsX0_bitOffset 0 0 [.int aa] (S0_bitOffset aa) := by
  refine Met.ofW (cc := cX0_bitOffset) (maxL := 1) (ret := (some .int)) (by decide) rfl ?_
  intro p e s m args below meth c s₁ B hml hv
  obtain ⟨rfl, -⟩ := hv
  have hx := B.exec
  have hb := B.bytes
  have hr := B.returns
  have hts := atoms_spec (ws := wsX0_bitOffset) B.pre
  have hown : s.vm.findClass RX0 = some m.cls := findClass_of_methodNamed B.named
  have hlocks := B.notSynchronized
  have hP : va_P ((fun _ => 0), (fun _ _ => 0)) [] [] s.heap := fun k q h => by simp at h
  have hS : va_S (fun _ => False) s.heap s.heap [] := va_S.rf
  have hl := lv_entry ([.int aa]) (n := 1) (Nat.le_of_ble_eq_true rfl)
  rw [lg_entry_eq]
  generalize (lg_sl ([.int aa]) ++ List.replicate (1 - (lg_sl ([.int aa])).length) Slot.unset).toArray = ls at hl ⊢
  have hl : lv_has ls 1 [(0, .int aa)] := hl
  refine lv_iload_n hx hb dX0_bitOffset_0 rfl (lv_at hl 0 rfl) ?_
  refine lv_iconst (v := 4) hx hb dX0_bitOffset_1 (by decide) ?_
  refine lv_irem hx hb dX0_bitOffset_2 (by decide) ?_
  refine lv_bipush (v := 8) hx hb dX0_bitOffset_3 (by decide) ?_
  refine lv_imul hx hb dX0_bitOffset_5 ?_
  have e9 : S0_bitOffset aa = (aa - aa / 4 * 4) * 8 := by rw [S0_bitOffset]
  exact W.iret (v := (aa - aa / 4 * 4) * 8) hx hb hr (fun t ht hW => ⟨⟨(aa - aa / 4 * 4) * 8, (), rfl, e9.symm, trivial⟩, hS.F ht⟩) hS.2.2 dX0_bitOffset_6
theorem hdX0_widthOf : yX0_widthOf.cls ≠ "java/lang/invoke/MethodHandle" ∧ yX0_widthOf.cls ≠ "java/lang/invoke/VarHandle" ∧ (parseMethodDescriptor yX0_widthOf.desc).map (fun d => d.parameters.length) = some 1 := by decide +kernel
set_option maxHeartbeats 4000000 in
set_option maxRecDepth 100000 in
theorem c0_widthOf (l : Launch) (ta : Int32)  : Pui l yX0_widthOf wsX0_widthOf 0 0 [.int ta] (S0_widthOf ta) := by
  refine Met.ofW (cc := cX0_widthOf) (maxL := 1) (ret := (some .int)) (by decide) rfl ?_
  intro p e s m args below meth c s₁ B hml hv
  obtain ⟨rfl, -⟩ := hv
  have hx := B.exec
  have hb := B.bytes
  have hr := B.returns
  have hts := atoms_spec (ws := wsX0_widthOf) B.pre
  have hown : s.vm.findClass RX0 = some m.cls := findClass_of_methodNamed B.named
  have hlocks := B.notSynchronized
  have hP : va_P ((fun _ => 0), (fun _ _ => 0)) [] [] s.heap := fun k q h => by simp at h
  have hS : va_S (fun _ => False) s.heap s.heap [] := va_S.rf
  have hl := lv_entry ([.int ta]) (n := 1) (Nat.le_of_ble_eq_true rfl)
  rw [lg_entry_eq]
  generalize (lg_sl ([.int ta]) ++ List.replicate (1 - (lg_sl ([.int ta])).length) Slot.unset).toArray = ls at hl ⊢
  have hl : lv_has ls 1 [(0, .int ta)] := hl
  refine lv_iconst (v := 1) hx hb dX0_widthOf_0 (by decide) ?_
  refine lv_iload_n hx hb dX0_widthOf_1 rfl (lv_at hl 0 rfl) ?_
  refine lv_iconst (v := 3) hx hb dX0_widthOf_2 (by decide) ?_
  refine lv_iand hx hb dX0_widthOf_3 ?_
  refine lv_ishl hx hb dX0_widthOf_4 ?_
  have e9 : S0_widthOf ta = (1 : Int32) <<< ((ta &&& 3) &&& 31) := by rw [S0_widthOf]
  exact W.iret (v := (1 : Int32) <<< ((ta &&& 3) &&& 31)) hx hb hr (fun t ht hW => ⟨⟨(1 : Int32) <<< ((ta &&& 3) &&& 31), (), rfl, e9.symm, trivial⟩, hS.F ht⟩) hS.2.2 dX0_widthOf_5
theorem ctX0_loaded_168 : Cond.constant RX0 168 (65535) ∈ wsX0_loaded := by decide +kernel
theorem hdX0_loaded : yX0_loaded.cls ≠ "java/lang/invoke/MethodHandle" ∧ yX0_loaded.cls ≠ "java/lang/invoke/VarHandle" ∧ (parseMethodDescriptor yX0_loaded.desc).map (fun d => d.parameters.length) = some 2 := by decide +kernel
set_option maxHeartbeats 4000000 in
set_option maxRecDepth 100000 in
theorem c0_loaded (l : Launch) (ta : Int32) (ba : Int32)  : Pui l yX0_loaded wsX0_loaded 0 0 [.int ta, .int ba] (S0_loaded ta ba) := by
  refine Met.ofW (cc := cX0_loaded) (maxL := 2) (ret := (some .int)) (by decide) rfl ?_
  intro p e s m args below meth c s₁ B hml hv
  obtain ⟨rfl, -⟩ := hv
  have hx := B.exec
  have hb := B.bytes
  have hr := B.returns
  have hts := atoms_spec (ws := wsX0_loaded) B.pre
  have hown : s.vm.findClass RX0 = some m.cls := findClass_of_methodNamed B.named
  have hlocks := B.notSynchronized
  have hP : va_P ((fun _ => 0), (fun _ _ => 0)) [] [] s.heap := fun k q h => by simp at h
  have hS : va_S (fun _ => False) s.heap s.heap [] := va_S.rf
  have hl := lv_entry ([.int ta, .int ba]) (n := 2) (Nat.le_of_ble_eq_true rfl)
  rw [lg_entry_eq]
  generalize (lg_sl ([.int ta, .int ba]) ++ List.replicate (2 - (lg_sl ([.int ta, .int ba])).length) Slot.unset).toArray = ls at hl ⊢
  have hl : lv_has ls 2 [(0, .int ta), (1, .int ba)] := hl
  refine lv_iload_n hx hb dX0_loaded_0 rfl (lv_at hl 0 rfl) ?_
  by_cases c1 : ta = 0
  · refine lv_tableIn (tgt := 40) hx hb dX0_loaded_1 (by rw [c1]; decide) (by rw [c1]; decide) (by rw [c1]; rfl) (by decide) ?_
    refine lv_iload_n hx hb dX0_loaded_40 rfl (lv_at hl 1 rfl) ?_
    refine lv_i2b (v := ba.toInt8.toInt32) hx hb dX0_loaded_41 rfl ?_
    have e9 : S0_loaded ta ba = ba.toInt8.toInt32 := by rw [S0_loaded, if_pos c1]
    exact W.iret (v := ba.toInt8.toInt32) hx hb hr (fun t ht hW => ⟨⟨ba.toInt8.toInt32, (), rfl, e9.symm, trivial⟩, hS.F ht⟩) hS.2.2 dX0_loaded_42
  · skip
    by_cases c2 : ta = 1
    · refine lv_tableIn (tgt := 43) hx hb dX0_loaded_1 (by rw [c2]; decide) (by rw [c2]; decide) (by rw [c2]; rfl) (by decide) ?_
      refine lv_iload_n hx hb dX0_loaded_43 rfl (lv_at hl 1 rfl) ?_
      refine lv_i2s (v := ba.toInt16.toInt32) hx hb dX0_loaded_44 rfl ?_
      have e9 : S0_loaded ta ba = ba.toInt16.toInt32 := by rw [S0_loaded, if_neg c1, if_pos c2]
      exact W.iret (v := ba.toInt16.toInt32) hx hb hr (fun t ht hW => ⟨⟨ba.toInt16.toInt32, (), rfl, e9.symm, trivial⟩, hS.F ht⟩) hS.2.2 dX0_loaded_45
    · skip
      by_cases c3 : ta = 2
      · refine lv_tableIn (tgt := 57) hx hb dX0_loaded_1 (by rw [c3]; decide) (by rw [c3]; decide) (by rw [c3]; rfl) (by decide) ?_
        refine lv_iload_n hx hb dX0_loaded_57 rfl (lv_at hl 1 rfl) ?_
        have e9 : S0_loaded ta ba = ba := by rw [S0_loaded, if_neg c1, if_neg c2, if_pos c3]
        exact W.iret (v := ba) hx hb hr (fun t ht hW => ⟨⟨ba, (), rfl, e9.symm, trivial⟩, hS.F ht⟩) hS.2.2 dX0_loaded_58
      · skip
        by_cases c4 : ta = 3
        · refine lv_tableIn (tgt := 57) hx hb dX0_loaded_1 (by rw [c4]; decide) (by rw [c4]; decide) (by rw [c4]; rfl) (by decide) ?_
          refine lv_iload_n hx hb dX0_loaded_57 rfl (lv_at hl 1 rfl) ?_
          have e9 : S0_loaded ta ba = ba := by rw [S0_loaded, if_neg c1, if_neg c2, if_neg c3, if_pos c4]
          exact W.iret (v := ba) hx hb hr (fun t ht hW => ⟨⟨ba, (), rfl, e9.symm, trivial⟩, hS.F ht⟩) hS.2.2 dX0_loaded_58
        · skip
          by_cases c5 : ta = 4
          · refine lv_tableIn (tgt := 46) hx hb dX0_loaded_1 (by rw [c5]; decide) (by rw [c5]; decide) (by rw [c5]; rfl) (by decide) ?_
            refine lv_iload_n hx hb dX0_loaded_46 rfl (lv_at hl 1 rfl) ?_
            refine lv_sipush (v := 255) hx hb dX0_loaded_47 (by decide) ?_
            refine lv_iand hx hb dX0_loaded_50 ?_
            have e9 : S0_loaded ta ba = ba &&& 255 := by rw [S0_loaded, if_neg c1, if_neg c2, if_neg c3, if_neg c4, if_pos c5]
            exact W.iret (v := ba &&& 255) hx hb hr (fun t ht hW => ⟨⟨ba &&& 255, (), rfl, e9.symm, trivial⟩, hS.F ht⟩) hS.2.2 dX0_loaded_51
          · skip
            by_cases c6 : ta = 5
            · refine lv_tableIn (tgt := 52) hx hb dX0_loaded_1 (by rw [c6]; decide) (by rw [c6]; decide) (by rw [c6]; rfl) (by decide) ?_
              refine lv_iload_n hx hb dX0_loaded_52 rfl (lv_at hl 1 rfl) ?_
              refine lv_ldc hx hb hown (hts (.constant RX0 168 (65535)) ctX0_loaded_168) dX0_loaded_53 ?_
              refine lv_iand hx hb dX0_loaded_55 ?_
              have e9 : S0_loaded ta ba = ba &&& 65535 := by rw [S0_loaded, if_neg c1, if_neg c2, if_neg c3, if_neg c4, if_neg c5, if_pos c6]
              exact W.iret (v := ba &&& 65535) hx hb hr (fun t ht hW => ⟨⟨ba &&& 65535, (), rfl, e9.symm, trivial⟩, hS.F ht⟩) hS.2.2 dX0_loaded_56
            · skip
              refine lv_tableOut (tgt := 57) hx hb dX0_loaded_1 (by have nc1 := lv_neT c1 (show (0 : Int32).toInt = 0 from by decide); have nc2 := lv_neT c2 (show (1 : Int32).toInt = 1 from by decide); have nc3 := lv_neT c3 (show (2 : Int32).toInt = 2 from by decide); have nc4 := lv_neT c4 (show (3 : Int32).toInt = 3 from by decide); have nc5 := lv_neT c5 (show (4 : Int32).toInt = 4 from by decide); have nc6 := lv_neT c6 (show (5 : Int32).toInt = 5 from by decide); omega) (by decide) ?_
              refine lv_iload_n hx hb dX0_loaded_57 rfl (lv_at hl 1 rfl) ?_
              have e9 : S0_loaded ta ba = ba := by rw [S0_loaded, if_neg c1, if_neg c2, if_neg c3, if_neg c4, if_neg c5, if_neg c6]
              exact W.iret (v := ba) hx hb hr (fun t ht hW => ⟨⟨ba, (), rfl, e9.symm, trivial⟩, hS.F ht⟩) hS.2.2 dX0_loaded_58
theorem ctX0_storedBits_168 : Cond.constant RX0 168 (65535) ∈ wsX0_storedBits := by decide +kernel
theorem hdX0_storedBits : yX0_storedBits.cls ≠ "java/lang/invoke/MethodHandle" ∧ yX0_storedBits.cls ≠ "java/lang/invoke/VarHandle" ∧ (parseMethodDescriptor yX0_storedBits.desc).map (fun d => d.parameters.length) = some 1 := by decide +kernel
set_option maxHeartbeats 4000000 in
set_option maxRecDepth 100000 in
theorem c0_storedBits (l : Launch) (ta : Int32)  : Pui l yX0_storedBits wsX0_storedBits 0 0 [.int ta] (S0_storedBits ta) := by
  refine Met.ofW (cc := cX0_storedBits) (maxL := 1) (ret := (some .int)) (by decide) rfl ?_
  intro p e s m args below meth c s₁ B hml hv
  obtain ⟨rfl, -⟩ := hv
  have hx := B.exec
  have hb := B.bytes
  have hr := B.returns
  have hts := atoms_spec (ws := wsX0_storedBits) B.pre
  have hown : s.vm.findClass RX0 = some m.cls := findClass_of_methodNamed B.named
  have hlocks := B.notSynchronized
  have hP : va_P ((fun _ => 0), (fun _ _ => 0)) [] [] s.heap := fun k q h => by simp at h
  have hS : va_S (fun _ => False) s.heap s.heap [] := va_S.rf
  have hl := lv_entry ([.int ta]) (n := 1) (Nat.le_of_ble_eq_true rfl)
  rw [lg_entry_eq]
  generalize (lg_sl ([.int ta]) ++ List.replicate (1 - (lg_sl ([.int ta])).length) Slot.unset).toArray = ls at hl ⊢
  have hl : lv_has ls 1 [(0, .int ta)] := hl
  refine lv_iload_n hx hb dX0_storedBits_0 rfl (lv_at hl 0 rfl) ?_
  by_cases c1 : ta = 0
  · refine lv_lookup (off := 27) (tgt := 28) hx hb dX0_storedBits_1 (by decide) (by rw [c1] <;> rfl) (by decide) ?_
    refine lv_sipush (v := 255) hx hb dX0_storedBits_28 (by decide) ?_
    have e9 : S0_storedBits ta = (255 : Int32) := by rw [S0_storedBits, if_pos c1]
    exact W.iret (v := (255 : Int32)) hx hb hr (fun t ht hW => ⟨⟨(255 : Int32), (), rfl, e9.symm, trivial⟩, hS.F ht⟩) hS.2.2 dX0_storedBits_31
  · skip
    by_cases c2 : ta = 1
    · refine lv_lookup (off := 31) (tgt := 32) hx hb dX0_storedBits_1 (by decide) (by rw [c2] <;> rfl) (by decide) ?_
      refine lv_ldc hx hb hown (hts (.constant RX0 168 (65535)) ctX0_storedBits_168) dX0_storedBits_32 ?_
      have e9 : S0_storedBits ta = (65535 : Int32) := by rw [S0_storedBits, if_neg c1, if_pos c2]
      exact W.iret (v := (65535 : Int32)) hx hb hr (fun t ht hW => ⟨⟨(65535 : Int32), (), rfl, e9.symm, trivial⟩, hS.F ht⟩) hS.2.2 dX0_storedBits_34
    · skip
      refine lv_lookup (off := 34) (tgt := 35) hx hb dX0_storedBits_1 (by decide) (by rw [lv_osw c1 (show (0 : Int32).toInt = 0 from by decide), lv_osw c2 (show (1 : Int32).toInt = 1 from by decide)] <;> rfl) (by decide) ?_
      refine lv_iconst (v := (-1)) hx hb dX0_storedBits_35 (by decide) ?_
      have e9 : S0_storedBits ta = ((-1) : Int32) := by rw [S0_storedBits, if_neg c1, if_neg c2]
      exact W.iret (v := ((-1) : Int32)) hx hb hr (fun t ht hW => ⟨⟨((-1) : Int32), (), rfl, e9.symm, trivial⟩, hS.F ht⟩) hS.2.2 dX0_storedBits_36
theorem hdX0_fieldOp : yX0_fieldOp.cls ≠ "java/lang/invoke/MethodHandle" ∧ yX0_fieldOp.cls ≠ "java/lang/invoke/VarHandle" ∧ (parseMethodDescriptor yX0_fieldOp.desc).map (fun d => d.parameters.length) = some 1 := by decide +kernel
set_option maxHeartbeats 4000000 in
set_option maxRecDepth 100000 in
theorem c0_fieldOp (l : Launch) (wa : Int32)  : Pui l yX0_fieldOp wsX0_fieldOp 0 0 [.int wa] (S0_fieldOp wa) := by
  refine Met.ofW (cc := cX0_fieldOp) (maxL := 1) (ret := (some .int)) (by decide) rfl ?_
  intro p e s m args below meth c s₁ B hml hv
  obtain ⟨rfl, -⟩ := hv
  have hx := B.exec
  have hb := B.bytes
  have hr := B.returns
  have hts := atoms_spec (ws := wsX0_fieldOp) B.pre
  have hown : s.vm.findClass RX0 = some m.cls := findClass_of_methodNamed B.named
  have hlocks := B.notSynchronized
  have hP : va_P ((fun _ => 0), (fun _ _ => 0)) [] [] s.heap := fun k q h => by simp at h
  have hS : va_S (fun _ => False) s.heap s.heap [] := va_S.rf
  have hl := lv_entry ([.int wa]) (n := 1) (Nat.le_of_ble_eq_true rfl)
  rw [lg_entry_eq]
  generalize (lg_sl ([.int wa]) ++ List.replicate (1 - (lg_sl ([.int wa])).length) Slot.unset).toArray = ls at hl ⊢
  have hl : lv_has ls 1 [(0, .int wa)] := hl
  refine lv_iload_n hx hb dX0_fieldOp_0 rfl (lv_at hl 0 rfl) ?_
  refine lv_bipush (v := 127) hx hb dX0_fieldOp_1 (by decide) ?_
  refine lv_iand hx hb dX0_fieldOp_3 ?_
  have e9 : S0_fieldOp wa = wa &&& 127 := by rw [S0_fieldOp]
  exact W.iret (v := wa &&& 127) hx hb hr (fun t ht hW => ⟨⟨wa &&& 127, (), rfl, e9.symm, trivial⟩, hS.F ht⟩) hS.2.2 dX0_fieldOp_4
theorem hdX0_fieldD : yX0_fieldD.cls ≠ "java/lang/invoke/MethodHandle" ∧ yX0_fieldD.cls ≠ "java/lang/invoke/VarHandle" ∧ (parseMethodDescriptor yX0_fieldD.desc).map (fun d => d.parameters.length) = some 1 := by decide +kernel
set_option maxHeartbeats 4000000 in
set_option maxRecDepth 100000 in
theorem c0_fieldD (l : Launch) (wa : Int32)  : Pui l yX0_fieldD wsX0_fieldD 0 0 [.int wa] (S0_fieldD wa) := by
  refine Met.ofW (cc := cX0_fieldD) (maxL := 1) (ret := (some .int)) (by decide) rfl ?_
  intro p e s m args below meth c s₁ B hml hv
  obtain ⟨rfl, -⟩ := hv
  have hx := B.exec
  have hb := B.bytes
  have hr := B.returns
  have hts := atoms_spec (ws := wsX0_fieldD) B.pre
  have hown : s.vm.findClass RX0 = some m.cls := findClass_of_methodNamed B.named
  have hlocks := B.notSynchronized
  have hP : va_P ((fun _ => 0), (fun _ _ => 0)) [] [] s.heap := fun k q h => by simp at h
  have hS : va_S (fun _ => False) s.heap s.heap [] := va_S.rf
  have hl := lv_entry ([.int wa]) (n := 1) (Nat.le_of_ble_eq_true rfl)
  rw [lg_entry_eq]
  generalize (lg_sl ([.int wa]) ++ List.replicate (1 - (lg_sl ([.int wa])).length) Slot.unset).toArray = ls at hl ⊢
  have hl : lv_has ls 1 [(0, .int wa)] := hl
  refine lv_iload_n hx hb dX0_fieldD_0 rfl (lv_at hl 0 rfl) ?_
  refine lv_bipush (v := 7) hx hb dX0_fieldD_1 (by decide) ?_
  refine lv_iushr (v := i_ushr wa 7) hx hb dX0_fieldD_3 rfl ?_
  refine lv_bipush (v := 31) hx hb dX0_fieldD_4 (by decide) ?_
  refine lv_iand hx hb dX0_fieldD_6 ?_
  have e9 : S0_fieldD wa = (i_ushr wa 7) &&& 31 := by rw [S0_fieldD]
  exact W.iret (v := (i_ushr wa 7) &&& 31) hx hb hr (fun t ht hW => ⟨⟨(i_ushr wa 7) &&& 31, (), rfl, e9.symm, trivial⟩, hS.F ht⟩) hS.2.2 dX0_fieldD_7
theorem hdX0_fieldT : yX0_fieldT.cls ≠ "java/lang/invoke/MethodHandle" ∧ yX0_fieldT.cls ≠ "java/lang/invoke/VarHandle" ∧ (parseMethodDescriptor yX0_fieldT.desc).map (fun d => d.parameters.length) = some 1 := by decide +kernel
set_option maxHeartbeats 4000000 in
set_option maxRecDepth 100000 in
theorem c0_fieldT (l : Launch) (wa : Int32)  : Pui l yX0_fieldT wsX0_fieldT 0 0 [.int wa] (S0_fieldT wa) := by
  refine Met.ofW (cc := cX0_fieldT) (maxL := 1) (ret := (some .int)) (by decide) rfl ?_
  intro p e s m args below meth c s₁ B hml hv
  obtain ⟨rfl, -⟩ := hv
  have hx := B.exec
  have hb := B.bytes
  have hr := B.returns
  have hts := atoms_spec (ws := wsX0_fieldT) B.pre
  have hown : s.vm.findClass RX0 = some m.cls := findClass_of_methodNamed B.named
  have hlocks := B.notSynchronized
  have hP : va_P ((fun _ => 0), (fun _ _ => 0)) [] [] s.heap := fun k q h => by simp at h
  have hS : va_S (fun _ => False) s.heap s.heap [] := va_S.rf
  have hl := lv_entry ([.int wa]) (n := 1) (Nat.le_of_ble_eq_true rfl)
  rw [lg_entry_eq]
  generalize (lg_sl ([.int wa]) ++ List.replicate (1 - (lg_sl ([.int wa])).length) Slot.unset).toArray = ls at hl ⊢
  have hl : lv_has ls 1 [(0, .int wa)] := hl
  refine lv_iload_n hx hb dX0_fieldT_0 rfl (lv_at hl 0 rfl) ?_
  refine lv_bipush (v := 12) hx hb dX0_fieldT_1 (by decide) ?_
  refine lv_iushr (v := i_ushr wa 12) hx hb dX0_fieldT_3 rfl ?_
  refine lv_bipush (v := 7) hx hb dX0_fieldT_4 (by decide) ?_
  refine lv_iand hx hb dX0_fieldT_6 ?_
  have e9 : S0_fieldT wa = (i_ushr wa 12) &&& 7 := by rw [S0_fieldT]
  exact W.iret (v := (i_ushr wa 12) &&& 7) hx hb hr (fun t ht hW => ⟨⟨(i_ushr wa 12) &&& 7, (), rfl, e9.symm, trivial⟩, hS.F ht⟩) hS.2.2 dX0_fieldT_7
theorem hdX0_fieldX : yX0_fieldX.cls ≠ "java/lang/invoke/MethodHandle" ∧ yX0_fieldX.cls ≠ "java/lang/invoke/VarHandle" ∧ (parseMethodDescriptor yX0_fieldX.desc).map (fun d => d.parameters.length) = some 1 := by decide +kernel
set_option maxHeartbeats 4000000 in
set_option maxRecDepth 100000 in
theorem c0_fieldX (l : Launch) (wa : Int32)  : Pui l yX0_fieldX wsX0_fieldX 0 0 [.int wa] (S0_fieldX wa) := by
  refine Met.ofW (cc := cX0_fieldX) (maxL := 1) (ret := (some .int)) (by decide) rfl ?_
  intro p e s m args below meth c s₁ B hml hv
  obtain ⟨rfl, -⟩ := hv
  have hx := B.exec
  have hb := B.bytes
  have hr := B.returns
  have hts := atoms_spec (ws := wsX0_fieldX) B.pre
  have hown : s.vm.findClass RX0 = some m.cls := findClass_of_methodNamed B.named
  have hlocks := B.notSynchronized
  have hP : va_P ((fun _ => 0), (fun _ _ => 0)) [] [] s.heap := fun k q h => by simp at h
  have hS : va_S (fun _ => False) s.heap s.heap [] := va_S.rf
  have hl := lv_entry ([.int wa]) (n := 1) (Nat.le_of_ble_eq_true rfl)
  rw [lg_entry_eq]
  generalize (lg_sl ([.int wa]) ++ List.replicate (1 - (lg_sl ([.int wa])).length) Slot.unset).toArray = ls at hl ⊢
  have hl : lv_has ls 1 [(0, .int wa)] := hl
  refine lv_iload_n hx hb dX0_fieldX_0 rfl (lv_at hl 0 rfl) ?_
  refine lv_bipush (v := 15) hx hb dX0_fieldX_1 (by decide) ?_
  refine lv_iushr (v := i_ushr wa 15) hx hb dX0_fieldX_3 rfl ?_
  refine lv_bipush (v := 31) hx hb dX0_fieldX_4 (by decide) ?_
  refine lv_iand hx hb dX0_fieldX_6 ?_
  have e9 : S0_fieldX wa = (i_ushr wa 15) &&& 31 := by rw [S0_fieldX]
  exact W.iret (v := (i_ushr wa 15) &&& 31) hx hb hr (fun t ht hW => ⟨⟨(i_ushr wa 15) &&& 31, (), rfl, e9.symm, trivial⟩, hS.F ht⟩) hS.2.2 dX0_fieldX_7
theorem hdX0_fieldY : yX0_fieldY.cls ≠ "java/lang/invoke/MethodHandle" ∧ yX0_fieldY.cls ≠ "java/lang/invoke/VarHandle" ∧ (parseMethodDescriptor yX0_fieldY.desc).map (fun d => d.parameters.length) = some 1 := by decide +kernel
set_option maxHeartbeats 4000000 in
set_option maxRecDepth 100000 in
theorem c0_fieldY (l : Launch) (wa : Int32)  : Pui l yX0_fieldY wsX0_fieldY 0 0 [.int wa] (S0_fieldY wa) := by
  refine Met.ofW (cc := cX0_fieldY) (maxL := 1) (ret := (some .int)) (by decide) rfl ?_
  intro p e s m args below meth c s₁ B hml hv
  obtain ⟨rfl, -⟩ := hv
  have hx := B.exec
  have hb := B.bytes
  have hr := B.returns
  have hts := atoms_spec (ws := wsX0_fieldY) B.pre
  have hown : s.vm.findClass RX0 = some m.cls := findClass_of_methodNamed B.named
  have hlocks := B.notSynchronized
  have hP : va_P ((fun _ => 0), (fun _ _ => 0)) [] [] s.heap := fun k q h => by simp at h
  have hS : va_S (fun _ => False) s.heap s.heap [] := va_S.rf
  have hl := lv_entry ([.int wa]) (n := 1) (Nat.le_of_ble_eq_true rfl)
  rw [lg_entry_eq]
  generalize (lg_sl ([.int wa]) ++ List.replicate (1 - (lg_sl ([.int wa])).length) Slot.unset).toArray = ls at hl ⊢
  have hl : lv_has ls 1 [(0, .int wa)] := hl
  refine lv_iload_n hx hb dX0_fieldY_0 rfl (lv_at hl 0 rfl) ?_
  refine lv_bipush (v := 20) hx hb dX0_fieldY_1 (by decide) ?_
  refine lv_iushr (v := i_ushr wa 20) hx hb dX0_fieldY_3 rfl ?_
  refine lv_bipush (v := 31) hx hb dX0_fieldY_4 (by decide) ?_
  refine lv_iand hx hb dX0_fieldY_6 ?_
  have e9 : S0_fieldY wa = (i_ushr wa 20) &&& 31 := by rw [S0_fieldY]
  exact W.iret (v := (i_ushr wa 20) &&& 31) hx hb hr (fun t ht hW => ⟨⟨(i_ushr wa 20) &&& 31, (), rfl, e9.symm, trivial⟩, hS.F ht⟩) hS.2.2 dX0_fieldY_7
theorem hdX0_fieldS : yX0_fieldS.cls ≠ "java/lang/invoke/MethodHandle" ∧ yX0_fieldS.cls ≠ "java/lang/invoke/VarHandle" ∧ (parseMethodDescriptor yX0_fieldS.desc).map (fun d => d.parameters.length) = some 1 := by decide +kernel
set_option maxHeartbeats 4000000 in
set_option maxRecDepth 100000 in
theorem c0_fieldS (l : Launch) (wa : Int32)  : Pui l yX0_fieldS wsX0_fieldS 0 0 [.int wa] (S0_fieldS wa) := by
  refine Met.ofW (cc := cX0_fieldS) (maxL := 1) (ret := (some .int)) (by decide) rfl ?_
  intro p e s m args below meth c s₁ B hml hv
  obtain ⟨rfl, -⟩ := hv
  have hx := B.exec
  have hb := B.bytes
  have hr := B.returns
  have hts := atoms_spec (ws := wsX0_fieldS) B.pre
  have hown : s.vm.findClass RX0 = some m.cls := findClass_of_methodNamed B.named
  have hlocks := B.notSynchronized
  have hP : va_P ((fun _ => 0), (fun _ _ => 0)) [] [] s.heap := fun k q h => by simp at h
  have hS : va_S (fun _ => False) s.heap s.heap [] := va_S.rf
  have hl := lv_entry ([.int wa]) (n := 1) (Nat.le_of_ble_eq_true rfl)
  rw [lg_entry_eq]
  generalize (lg_sl ([.int wa]) ++ List.replicate (1 - (lg_sl ([.int wa])).length) Slot.unset).toArray = ls at hl ⊢
  have hl : lv_has ls 1 [(0, .int wa)] := hl
  refine lv_iload_n hx hb dX0_fieldS_0 rfl (lv_at hl 0 rfl) ?_
  refine lv_bipush (v := 25) hx hb dX0_fieldS_1 (by decide) ?_
  refine lv_iushr (v := i_ushr wa 25) hx hb dX0_fieldS_3 rfl ?_
  have e9 : S0_fieldS wa = i_ushr wa 25 := by rw [S0_fieldS]
  exact W.iret (v := i_ushr wa 25) hx hb hr (fun t ht hW => ⟨⟨i_ushr wa 25, (), rfl, e9.symm, trivial⟩, hS.F ht⟩) hS.2.2 dX0_fieldS_4
theorem hdX0_numberI : yX0_numberI.cls ≠ "java/lang/invoke/MethodHandle" ∧ yX0_numberI.cls ≠ "java/lang/invoke/VarHandle" ∧ (parseMethodDescriptor yX0_numberI.desc).map (fun d => d.parameters.length) = some 1 := by decide +kernel
set_option maxHeartbeats 4000000 in
set_option maxRecDepth 100000 in
theorem c0_numberI (l : Launch) (wa : Int32)  : Pui l yX0_numberI wsX0_numberI 0 0 [.int wa] (S0_numberI wa) := by
  refine Met.ofW (cc := cX0_numberI) (maxL := 1) (ret := (some .int)) (by decide) rfl ?_
  intro p e s m args below meth c s₁ B hml hv
  obtain ⟨rfl, -⟩ := hv
  have hx := B.exec
  have hb := B.bytes
  have hr := B.returns
  have hts := atoms_spec (ws := wsX0_numberI) B.pre
  have hown : s.vm.findClass RX0 = some m.cls := findClass_of_methodNamed B.named
  have hlocks := B.notSynchronized
  have hP : va_P ((fun _ => 0), (fun _ _ => 0)) [] [] s.heap := fun k q h => by simp at h
  have hS : va_S (fun _ => False) s.heap s.heap [] := va_S.rf
  have hl := lv_entry ([.int wa]) (n := 1) (Nat.le_of_ble_eq_true rfl)
  rw [lg_entry_eq]
  generalize (lg_sl ([.int wa]) ++ List.replicate (1 - (lg_sl ([.int wa])).length) Slot.unset).toArray = ls at hl ⊢
  have hl : lv_has ls 1 [(0, .int wa)] := hl
  refine lv_iload_n hx hb dX0_numberI_0 rfl (lv_at hl 0 rfl) ?_
  refine lv_bipush (v := 20) hx hb dX0_numberI_1 (by decide) ?_
  refine lv_ishr hx hb dX0_numberI_3 ?_
  have e9 : S0_numberI wa = wa >>> ((20 : Int32) &&& 31) := by rw [S0_numberI]
  exact W.iret (v := wa >>> ((20 : Int32) &&& 31)) hx hb hr (fun t ht hW => ⟨⟨wa >>> ((20 : Int32) &&& 31), (), rfl, e9.symm, trivial⟩, hS.F ht⟩) hS.2.2 dX0_numberI_4
theorem hdX0_storeDistance : yX0_storeDistance.cls ≠ "java/lang/invoke/MethodHandle" ∧ yX0_storeDistance.cls ≠ "java/lang/invoke/VarHandle" ∧ (parseMethodDescriptor yX0_storeDistance.desc).map (fun d => d.parameters.length) = some 1 := by decide +kernel
set_option maxHeartbeats 4000000 in
set_option maxRecDepth 100000 in
theorem c0_storeDistance (l : Launch) (wa : Int32)  : Pui l yX0_storeDistance wsX0_storeDistance 1 20 [.int wa] (S0_storeDistance wa) := by
  refine Met.ofW (cc := cX0_storeDistance) (maxL := 1) (ret := (some .int)) (by decide) rfl ?_
  intro p e s m args below meth c s₁ B hml hv
  obtain ⟨rfl, -⟩ := hv
  have hx := B.exec
  have hb := B.bytes
  have hr := B.returns
  have hts := atoms_spec (ws := wsX0_storeDistance) B.pre
  have hown : s.vm.findClass RX0 = some m.cls := findClass_of_methodNamed B.named
  have hlocks := B.notSynchronized
  have hP : va_P ((fun _ => 0), (fun _ _ => 0)) [] [] s.heap := fun k q h => by simp at h
  have hS : va_S (fun _ => False) s.heap s.heap [] := va_S.rf
  have hl := lv_entry ([.int wa]) (n := 1) (Nat.le_of_ble_eq_true rfl)
  rw [lg_entry_eq]
  generalize (lg_sl ([.int wa]) ++ List.replicate (1 - (lg_sl ([.int wa])).length) Slot.unset).toArray = ls at hl ⊢
  have hl : lv_has ls 1 [(0, .int wa)] := hl
  refine lv_iload_n hx hb dX0_storeDistance_0 rfl (lv_at hl 0 rfl) ?_
  refine lv_bipush (v := 25) hx hb dX0_storeDistance_1 (by decide) ?_
  refine lv_ishr hx hb dX0_storeDistance_3 ?_
  refine lv_iconst (v := 5) hx hb dX0_storeDistance_4 (by decide) ?_
  refine lv_ishl hx hb dX0_storeDistance_5 ?_
  refine lv_iload_n hx hb dX0_storeDistance_6 rfl (lv_at hl 0 rfl) ?_
  refine pu_i (v := S0_fieldD wa) (As := [.int wa]) (rest := [.int ((wa >>> ((25 : Int32) &&& 31)) <<< ((5 : Int32) &&& 31))]) ⟨hx, hb, hml, hown, hts⟩ (c0_fieldD l wa ) gX0_storeDistance_X0_fieldD rfl hdX0_fieldD ⟨Nat.le_of_ble_eq_true rfl, Nat.le_of_ble_eq_true rfl⟩ hl.1 rfl (Nat.le_of_ble_eq_true rfl) dX0_storeDistance_7 ⟨Nat.zero_le _, Nat.zero_le _⟩ hP hS (fun H locs hP hS => ?_)
  refine lv_ior hx hb dX0_storeDistance_10 ?_
  have e9 : S0_storeDistance wa = ((wa >>> ((25 : Int32) &&& 31)) <<< ((5 : Int32) &&& 31)) ||| (S0_fieldD wa) := by rw [S0_storeDistance]
  exact W.iret (v := ((wa >>> ((25 : Int32) &&& 31)) <<< ((5 : Int32) &&& 31)) ||| (S0_fieldD wa)) hx hb hr (fun t ht hW => ⟨⟨((wa >>> ((25 : Int32) &&& 31)) <<< ((5 : Int32) &&& 31)) ||| (S0_fieldD wa), (), rfl, e9.symm, trivial⟩, hS.F ht⟩) hS.2.2 dX0_storeDistance_11
theorem hdX0_branchDistance : yX0_branchDistance.cls ≠ "java/lang/invoke/MethodHandle" ∧ yX0_branchDistance.cls ≠ "java/lang/invoke/VarHandle" ∧ (parseMethodDescriptor yX0_branchDistance.desc).map (fun d => d.parameters.length) = some 1 := by decide +kernel
set_option maxHeartbeats 4000000 in
set_option maxRecDepth 100000 in
theorem c0_branchDistance (l : Launch) (wa : Int32)  : Pui l yX0_branchDistance wsX0_branchDistance 0 0 [.int wa] (S0_branchDistance wa) := by
  refine Met.ofW (cc := cX0_branchDistance) (maxL := 1) (ret := (some .int)) (by decide) rfl ?_
  intro p e s m args below meth c s₁ B hml hv
  obtain ⟨rfl, -⟩ := hv
  have hx := B.exec
  have hb := B.bytes
  have hr := B.returns
  have hts := atoms_spec (ws := wsX0_branchDistance) B.pre
  have hown : s.vm.findClass RX0 = some m.cls := findClass_of_methodNamed B.named
  have hlocks := B.notSynchronized
  have hP : va_P ((fun _ => 0), (fun _ _ => 0)) [] [] s.heap := fun k q h => by simp at h
  have hS : va_S (fun _ => False) s.heap s.heap [] := va_S.rf
  have hl := lv_entry ([.int wa]) (n := 1) (Nat.le_of_ble_eq_true rfl)
  rw [lg_entry_eq]
  generalize (lg_sl ([.int wa]) ++ List.replicate (1 - (lg_sl ([.int wa])).length) Slot.unset).toArray = ls at hl ⊢
  have hl : lv_has ls 1 [(0, .int wa)] := hl
  refine lv_iload_n hx hb dX0_branchDistance_0 rfl (lv_at hl 0 rfl) ?_
  refine lv_bipush (v := 31) hx hb dX0_branchDistance_1 (by decide) ?_
  refine lv_ishr hx hb dX0_branchDistance_3 ?_
  refine lv_bipush (v := 12) hx hb dX0_branchDistance_4 (by decide) ?_
  refine lv_ishl hx hb dX0_branchDistance_6 ?_
  refine lv_iload_n hx hb dX0_branchDistance_7 rfl (lv_at hl 0 rfl) ?_
  refine lv_bipush (v := 7) hx hb dX0_branchDistance_8 (by decide) ?_
  refine lv_iushr (v := i_ushr wa 7) hx hb dX0_branchDistance_10 rfl ?_
  refine lv_iconst (v := 1) hx hb dX0_branchDistance_11 (by decide) ?_
  refine lv_iand hx hb dX0_branchDistance_12 ?_
  refine lv_bipush (v := 11) hx hb dX0_branchDistance_13 (by decide) ?_
  refine lv_ishl hx hb dX0_branchDistance_15 ?_
  refine lv_ior hx hb dX0_branchDistance_16 ?_
  refine lv_iload_n hx hb dX0_branchDistance_17 rfl (lv_at hl 0 rfl) ?_
  refine lv_bipush (v := 25) hx hb dX0_branchDistance_18 (by decide) ?_
  refine lv_iushr (v := i_ushr wa 25) hx hb dX0_branchDistance_20 rfl ?_
  refine lv_bipush (v := 63) hx hb dX0_branchDistance_21 (by decide) ?_
  refine lv_iand hx hb dX0_branchDistance_23 ?_
  refine lv_iconst (v := 5) hx hb dX0_branchDistance_24 (by decide) ?_
  refine lv_ishl hx hb dX0_branchDistance_25 ?_
  refine lv_ior hx hb dX0_branchDistance_26 ?_
  refine lv_iload_n hx hb dX0_branchDistance_27 rfl (lv_at hl 0 rfl) ?_
  refine lv_bipush (v := 8) hx hb dX0_branchDistance_28 (by decide) ?_
  refine lv_iushr (v := i_ushr wa 8) hx hb dX0_branchDistance_30 rfl ?_
  refine lv_bipush (v := 15) hx hb dX0_branchDistance_31 (by decide) ?_
  refine lv_iand hx hb dX0_branchDistance_33 ?_
  refine lv_iconst (v := 1) hx hb dX0_branchDistance_34 (by decide) ?_
  refine lv_ishl hx hb dX0_branchDistance_35 ?_
  refine lv_ior hx hb dX0_branchDistance_36 ?_
  have e9 : S0_branchDistance wa = ((((wa >>> ((31 : Int32) &&& 31)) <<< ((12 : Int32) &&& 31)) ||| (((i_ushr wa 7) &&& 1) <<< ((11 : Int32) &&& 31))) ||| (((i_ushr wa 25) &&& 63) <<< ((5 : Int32) &&& 31))) ||| (((i_ushr wa 8) &&& 15) <<< ((1 : Int32) &&& 31)) := by rw [S0_branchDistance]
  exact W.iret (v := ((((wa >>> ((31 : Int32) &&& 31)) <<< ((12 : Int32) &&& 31)) ||| (((i_ushr wa 7) &&& 1) <<< ((11 : Int32) &&& 31))) ||| (((i_ushr wa 25) &&& 63) <<< ((5 : Int32) &&& 31))) ||| (((i_ushr wa 8) &&& 15) <<< ((1 : Int32) &&& 31))) hx hb hr (fun t ht hW => ⟨⟨((((wa >>> ((31 : Int32) &&& 31)) <<< ((12 : Int32) &&& 31)) ||| (((i_ushr wa 7) &&& 1) <<< ((11 : Int32) &&& 31))) ||| (((i_ushr wa 25) &&& 63) <<< ((5 : Int32) &&& 31))) ||| (((i_ushr wa 8) &&& 15) <<< ((1 : Int32) &&& 31)), (), rfl, e9.symm, trivial⟩, hS.F ht⟩) hS.2.2 dX0_branchDistance_37
theorem ctX0_jumpDistance_169 : Cond.constant RX0 169 (1044480) ∈ wsX0_jumpDistance := by decide +kernel
theorem hdX0_jumpDistance : yX0_jumpDistance.cls ≠ "java/lang/invoke/MethodHandle" ∧ yX0_jumpDistance.cls ≠ "java/lang/invoke/VarHandle" ∧ (parseMethodDescriptor yX0_jumpDistance.desc).map (fun d => d.parameters.length) = some 1 := by decide +kernel
set_option maxHeartbeats 4000000 in
set_option maxRecDepth 100000 in
theorem c0_jumpDistance (l : Launch) (wa : Int32)  : Pui l yX0_jumpDistance wsX0_jumpDistance 0 0 [.int wa] (S0_jumpDistance wa) := by
  refine Met.ofW (cc := cX0_jumpDistance) (maxL := 1) (ret := (some .int)) (by decide) rfl ?_
  intro p e s m args below meth c s₁ B hml hv
  obtain ⟨rfl, -⟩ := hv
  have hx := B.exec
  have hb := B.bytes
  have hr := B.returns
  have hts := atoms_spec (ws := wsX0_jumpDistance) B.pre
  have hown : s.vm.findClass RX0 = some m.cls := findClass_of_methodNamed B.named
  have hlocks := B.notSynchronized
  have hP : va_P ((fun _ => 0), (fun _ _ => 0)) [] [] s.heap := fun k q h => by simp at h
  have hS : va_S (fun _ => False) s.heap s.heap [] := va_S.rf
  have hl := lv_entry ([.int wa]) (n := 1) (Nat.le_of_ble_eq_true rfl)
  rw [lg_entry_eq]
  generalize (lg_sl ([.int wa]) ++ List.replicate (1 - (lg_sl ([.int wa])).length) Slot.unset).toArray = ls at hl ⊢
  have hl : lv_has ls 1 [(0, .int wa)] := hl
  refine lv_iload_n hx hb dX0_jumpDistance_0 rfl (lv_at hl 0 rfl) ?_
  refine lv_bipush (v := 31) hx hb dX0_jumpDistance_1 (by decide) ?_
  refine lv_ishr hx hb dX0_jumpDistance_3 ?_
  refine lv_bipush (v := 20) hx hb dX0_jumpDistance_4 (by decide) ?_
  refine lv_ishl hx hb dX0_jumpDistance_6 ?_
  refine lv_iload_n hx hb dX0_jumpDistance_7 rfl (lv_at hl 0 rfl) ?_
  refine lv_ldc hx hb hown (hts (.constant RX0 169 (1044480)) ctX0_jumpDistance_169) dX0_jumpDistance_8 ?_
  refine lv_iand hx hb dX0_jumpDistance_10 ?_
  refine lv_ior hx hb dX0_jumpDistance_11 ?_
  refine lv_iload_n hx hb dX0_jumpDistance_12 rfl (lv_at hl 0 rfl) ?_
  refine lv_bipush (v := 20) hx hb dX0_jumpDistance_13 (by decide) ?_
  refine lv_iushr (v := i_ushr wa 20) hx hb dX0_jumpDistance_15 rfl ?_
  refine lv_iconst (v := 1) hx hb dX0_jumpDistance_16 (by decide) ?_
  refine lv_iand hx hb dX0_jumpDistance_17 ?_
  refine lv_bipush (v := 11) hx hb dX0_jumpDistance_18 (by decide) ?_
  refine lv_ishl hx hb dX0_jumpDistance_20 ?_
  refine lv_ior hx hb dX0_jumpDistance_21 ?_
  refine lv_iload_n hx hb dX0_jumpDistance_22 rfl (lv_at hl 0 rfl) ?_
  refine lv_bipush (v := 21) hx hb dX0_jumpDistance_23 (by decide) ?_
  refine lv_iushr (v := i_ushr wa 21) hx hb dX0_jumpDistance_25 rfl ?_
  refine lv_sipush (v := 1023) hx hb dX0_jumpDistance_26 (by decide) ?_
  refine lv_iand hx hb dX0_jumpDistance_29 ?_
  refine lv_iconst (v := 1) hx hb dX0_jumpDistance_30 (by decide) ?_
  refine lv_ishl hx hb dX0_jumpDistance_31 ?_
  refine lv_ior hx hb dX0_jumpDistance_32 ?_
  have e9 : S0_jumpDistance wa = ((((wa >>> ((31 : Int32) &&& 31)) <<< ((20 : Int32) &&& 31)) ||| (wa &&& 1044480)) ||| (((i_ushr wa 20) &&& 1) <<< ((11 : Int32) &&& 31))) ||| (((i_ushr wa 21) &&& 1023) <<< ((1 : Int32) &&& 31)) := by rw [S0_jumpDistance]
  exact W.iret (v := ((((wa >>> ((31 : Int32) &&& 31)) <<< ((20 : Int32) &&& 31)) ||| (wa &&& 1044480)) ||| (((i_ushr wa 20) &&& 1) <<< ((11 : Int32) &&& 31))) ||| (((i_ushr wa 21) &&& 1023) <<< ((1 : Int32) &&& 31))) hx hb hr (fun t ht hW => ⟨⟨((((wa >>> ((31 : Int32) &&& 31)) <<< ((20 : Int32) &&& 31)) ||| (wa &&& 1044480)) ||| (((i_ushr wa 20) &&& 1) <<< ((11 : Int32) &&& 31))) ||| (((i_ushr wa 21) &&& 1023) <<< ((1 : Int32) &&& 31)), (), rfl, e9.symm, trivial⟩, hS.F ht⟩) hS.2.2 dX0_jumpDistance_33
theorem ctX0_unsigned_160 : Cond.constantLong RX0 160 (4294967295) ∈ wsX0_unsigned := by decide +kernel
theorem hdX0_unsigned : yX0_unsigned.cls ≠ "java/lang/invoke/MethodHandle" ∧ yX0_unsigned.cls ≠ "java/lang/invoke/VarHandle" ∧ (parseMethodDescriptor yX0_unsigned.desc).map (fun d => d.parameters.length) = some 1 := by decide +kernel
set_option maxHeartbeats 4000000 in
set_option maxRecDepth 100000 in
theorem c0_unsigned (l : Launch) (va : Int32)  : Pul l yX0_unsigned wsX0_unsigned 0 0 [.int va] (S0_unsigned va) := by
  refine Met.ofW (cc := cX0_unsigned) (maxL := 1) (ret := (some .long)) (by decide) rfl ?_
  intro p e s m args below meth c s₁ B hml hv
  obtain ⟨rfl, -⟩ := hv
  have hx := B.exec
  have hb := B.bytes
  have hr := B.returns
  have hts := atoms_spec (ws := wsX0_unsigned) B.pre
  have hown : s.vm.findClass RX0 = some m.cls := findClass_of_methodNamed B.named
  have hlocks := B.notSynchronized
  have hP : va_P ((fun _ => 0), (fun _ _ => 0)) [] [] s.heap := fun k q h => by simp at h
  have hS : va_S (fun _ => False) s.heap s.heap [] := va_S.rf
  have hl := lv_entry ([.int va]) (n := 1) (Nat.le_of_ble_eq_true rfl)
  rw [lg_entry_eq]
  generalize (lg_sl ([.int va]) ++ List.replicate (1 - (lg_sl ([.int va])).length) Slot.unset).toArray = ls at hl ⊢
  have hl : lv_has ls 1 [(0, .int va)] := hl
  refine lv_iload_n hx hb dX0_unsigned_0 rfl (lv_at hl 0 rfl) ?_
  refine lv_i2l (v := va.toInt64) hx hb dX0_unsigned_1 rfl ?_
  refine lv_ldc2 hx hb hown (hts (.constantLong RX0 160 (4294967295)) ctX0_unsigned_160) dX0_unsigned_2 ?_
  refine lv_land hx hb dX0_unsigned_5 ?_
  have e9 : S0_unsigned va = va.toInt64 &&& 4294967295 := by rw [S0_unsigned]
  exact W.lret (v := va.toInt64 &&& 4294967295) hx hb hr (fun t ht hW => ⟨⟨va.toInt64 &&& 4294967295, (), rfl, e9.symm, trivial⟩, hS.F ht⟩) hS.2.2 dX0_unsigned_6
theorem hdX0_plain : yX0_plain.cls ≠ "java/lang/invoke/MethodHandle" ∧ yX0_plain.cls ≠ "java/lang/invoke/VarHandle" ∧ (parseMethodDescriptor yX0_plain.desc).map (fun d => d.parameters.length) = some 3 := by decide +kernel
set_option maxHeartbeats 4000000 in
set_option maxRecDepth 100000 in
theorem c0_plain (l : Launch) (ta : Int32) (xa : Int32) (ya : Int32)  : Pui l yX0_plain wsX0_plain 1 20 [.int ta, .int xa, .int ya] (S0_plain ta xa ya) := by
  refine Met.ofW (cc := cX0_plain) (maxL := 3) (ret := (some .int)) (by decide) rfl ?_
  intro p e s m args below meth c s₁ B hml hv
  obtain ⟨rfl, -⟩ := hv
  have hx := B.exec
  have hb := B.bytes
  have hr := B.returns
  have hts := atoms_spec (ws := wsX0_plain) B.pre
  have hown : s.vm.findClass RX0 = some m.cls := findClass_of_methodNamed B.named
  have hlocks := B.notSynchronized
  have hP : va_P ((fun _ => 0), (fun _ _ => 0)) [] [] s.heap := fun k q h => by simp at h
  have hS : va_S (fun _ => False) s.heap s.heap [] := va_S.rf
  have hl := lv_entry ([.int ta, .int xa, .int ya]) (n := 3) (Nat.le_of_ble_eq_true rfl)
  rw [lg_entry_eq]
  generalize (lg_sl ([.int ta, .int xa, .int ya]) ++ List.replicate (3 - (lg_sl ([.int ta, .int xa, .int ya])).length) Slot.unset).toArray = ls at hl ⊢
  have hl : lv_has ls 3 [(0, .int ta), (1, .int xa), (2, .int ya)] := hl
  refine lv_iload_n hx hb dX0_plain_0 rfl (lv_at hl 0 rfl) ?_
  by_cases c1 : ta = 0
  · refine lv_tableIn (tgt := 44) hx hb dX0_plain_1 (by rw [c1]; decide) (by rw [c1]; decide) (by rw [c1]; rfl) (by decide) ?_
    refine lv_iload_n hx hb dX0_plain_44 rfl (lv_at hl 1 rfl) ?_
    refine lv_iload_n hx hb dX0_plain_45 rfl (lv_at hl 2 rfl) ?_
    refine lv_iadd hx hb dX0_plain_46 ?_
    have e9 : S0_plain ta xa ya = xa + ya := by rw [S0_plain, if_pos c1]
    exact W.iret (v := xa + ya) hx hb hr (fun t ht hW => ⟨⟨xa + ya, (), rfl, e9.symm, trivial⟩, hS.F ht⟩) hS.2.2 dX0_plain_47
  · skip
    by_cases c2 : ta = 1
    · refine lv_tableIn (tgt := 48) hx hb dX0_plain_1 (by rw [c2]; decide) (by rw [c2]; decide) (by rw [c2]; rfl) (by decide) ?_
      refine lv_iload_n hx hb dX0_plain_48 rfl (lv_at hl 1 rfl) ?_
      refine lv_iload_n hx hb dX0_plain_49 rfl (lv_at hl 2 rfl) ?_
      refine lv_bipush (v := 31) hx hb dX0_plain_50 (by decide) ?_
      refine lv_iand hx hb dX0_plain_52 ?_
      refine lv_ishl hx hb dX0_plain_53 ?_
      have e9 : S0_plain ta xa ya = xa <<< ((ya &&& 31) &&& 31) := by rw [S0_plain, if_neg c1, if_pos c2]
      exact W.iret (v := xa <<< ((ya &&& 31) &&& 31)) hx hb hr (fun t ht hW => ⟨⟨xa <<< ((ya &&& 31) &&& 31), (), rfl, e9.symm, trivial⟩, hS.F ht⟩) hS.2.2 dX0_plain_54
    · skip
      by_cases c3 : ta = 2
      · refine lv_tableIn (tgt := 55) hx hb dX0_plain_1 (by rw [c3]; decide) (by rw [c3]; decide) (by rw [c3]; rfl) (by decide) ?_
        refine lv_iload_n hx hb dX0_plain_55 rfl (lv_at hl 1 rfl) ?_
        refine lv_iload_n hx hb dX0_plain_56 rfl (lv_at hl 2 rfl) ?_
        refine lv_icmp_ge (tgt := 64) hx hb dX0_plain_57 (by decide) (fun (c4 : ya ≤ xa) => ?_) (fun (c4 : ¬ ya ≤ xa) => ?_)
        · refine lv_iconst (v := 0) hx hb dX0_plain_64 (by decide) ?_
          have e9 : S0_plain ta xa ya = (0 : Int32) := by rw [S0_plain, if_neg c1, if_neg c2, if_pos c3, if_pos c4]
          exact W.iret (v := (0 : Int32)) hx hb hr (fun t ht hW => ⟨⟨(0 : Int32), (), rfl, e9.symm, trivial⟩, hS.F ht⟩) hS.2.2 dX0_plain_65
        · refine lv_iconst (v := 1) hx hb dX0_plain_60 (by decide) ?_
          refine lv_goto (tgt := 65) hx hb dX0_plain_61 (by decide) ?_
          have e9 : S0_plain ta xa ya = (1 : Int32) := by rw [S0_plain, if_neg c1, if_neg c2, if_pos c3, if_neg c4]
          exact W.iret (v := (1 : Int32)) hx hb hr (fun t ht hW => ⟨⟨(1 : Int32), (), rfl, e9.symm, trivial⟩, hS.F ht⟩) hS.2.2 dX0_plain_65
      · skip
        by_cases c5 : ta = 3
        · refine lv_tableIn (tgt := 66) hx hb dX0_plain_1 (by rw [c5]; decide) (by rw [c5]; decide) (by rw [c5]; rfl) (by decide) ?_
          refine lv_iload_n hx hb dX0_plain_66 rfl (lv_at hl 1 rfl) ?_
          refine pu_l (v := S0_unsigned xa) (As := [.int xa]) (rest := []) ⟨hx, hb, hml, hown, hts⟩ (c0_unsigned l xa ) gX0_plain_X0_unsigned rfl hdX0_unsigned ⟨Nat.le_of_ble_eq_true rfl, Nat.le_of_ble_eq_true rfl⟩ hl.1 rfl (Nat.le_of_ble_eq_true rfl) dX0_plain_67 ⟨Nat.zero_le _, Nat.zero_le _⟩ hP hS (fun H locs hP hS => ?_)
          refine lv_iload_n hx hb dX0_plain_70 rfl (lv_at hl 2 rfl) ?_
          refine pu_l (v := S0_unsigned ya) (As := [.int ya]) (rest := [.long (S0_unsigned xa)]) ⟨hx, hb, hml, hown, hts⟩ (c0_unsigned l ya ) gX0_plain_X0_unsigned rfl hdX0_unsigned ⟨Nat.le_of_ble_eq_true rfl, Nat.le_of_ble_eq_true rfl⟩ hl.1 rfl (Nat.le_of_ble_eq_true rfl) dX0_plain_71 ⟨Nat.zero_le _, Nat.zero_le _⟩ hP hS (fun H locs hP hS => ?_)
          refine W.lcmp hx hb dX0_plain_74 ?_
          refine lv_if_ge (tgt := 82) hx hb dX0_plain_75 (by decide) (fun (c6 : 0 ≤ (lg_cmp (S0_unsigned xa) (S0_unsigned ya))) => ?_) (fun (c6 : ¬ 0 ≤ (lg_cmp (S0_unsigned xa) (S0_unsigned ya))) => ?_)
          · refine lv_iconst (v := 0) hx hb dX0_plain_82 (by decide) ?_
            have e9 : S0_plain ta xa ya = (0 : Int32) := by rw [S0_plain, if_neg c1, if_neg c2, if_neg c3, if_pos c5, if_pos c6]
            exact W.iret (v := (0 : Int32)) hx hb hr (fun t ht hW => ⟨⟨(0 : Int32), (), rfl, e9.symm, trivial⟩, hS.F ht⟩) hS.2.2 dX0_plain_83
          · refine lv_iconst (v := 1) hx hb dX0_plain_78 (by decide) ?_
            refine lv_goto (tgt := 83) hx hb dX0_plain_79 (by decide) ?_
            have e9 : S0_plain ta xa ya = (1 : Int32) := by rw [S0_plain, if_neg c1, if_neg c2, if_neg c3, if_pos c5, if_neg c6]
            exact W.iret (v := (1 : Int32)) hx hb hr (fun t ht hW => ⟨⟨(1 : Int32), (), rfl, e9.symm, trivial⟩, hS.F ht⟩) hS.2.2 dX0_plain_83
        · skip
          by_cases c7 : ta = 4
          · refine lv_tableIn (tgt := 84) hx hb dX0_plain_1 (by rw [c7]; decide) (by rw [c7]; decide) (by rw [c7]; rfl) (by decide) ?_
            refine lv_iload_n hx hb dX0_plain_84 rfl (lv_at hl 1 rfl) ?_
            refine lv_iload_n hx hb dX0_plain_85 rfl (lv_at hl 2 rfl) ?_
            refine lv_ixor hx hb dX0_plain_86 ?_
            have e9 : S0_plain ta xa ya = xa ^^^ ya := by rw [S0_plain, if_neg c1, if_neg c2, if_neg c3, if_neg c5, if_pos c7]
            exact W.iret (v := xa ^^^ ya) hx hb hr (fun t ht hW => ⟨⟨xa ^^^ ya, (), rfl, e9.symm, trivial⟩, hS.F ht⟩) hS.2.2 dX0_plain_87
          · skip
            by_cases c8 : ta = 5
            · refine lv_tableIn (tgt := 88) hx hb dX0_plain_1 (by rw [c8]; decide) (by rw [c8]; decide) (by rw [c8]; rfl) (by decide) ?_
              refine lv_iload_n hx hb dX0_plain_88 rfl (lv_at hl 1 rfl) ?_
              refine lv_iload_n hx hb dX0_plain_89 rfl (lv_at hl 2 rfl) ?_
              refine lv_bipush (v := 31) hx hb dX0_plain_90 (by decide) ?_
              refine lv_iand hx hb dX0_plain_92 ?_
              refine lv_iushr (v := i_ushr xa (ya &&& 31)) hx hb dX0_plain_93 rfl ?_
              have e9 : S0_plain ta xa ya = i_ushr xa (ya &&& 31) := by rw [S0_plain, if_neg c1, if_neg c2, if_neg c3, if_neg c5, if_neg c7, if_pos c8]
              exact W.iret (v := i_ushr xa (ya &&& 31)) hx hb hr (fun t ht hW => ⟨⟨i_ushr xa (ya &&& 31), (), rfl, e9.symm, trivial⟩, hS.F ht⟩) hS.2.2 dX0_plain_94
            · skip
              by_cases c9 : ta = 6
              · refine lv_tableIn (tgt := 95) hx hb dX0_plain_1 (by rw [c9]; decide) (by rw [c9]; decide) (by rw [c9]; rfl) (by decide) ?_
                refine lv_iload_n hx hb dX0_plain_95 rfl (lv_at hl 1 rfl) ?_
                refine lv_iload_n hx hb dX0_plain_96 rfl (lv_at hl 2 rfl) ?_
                refine lv_ior hx hb dX0_plain_97 ?_
                have e9 : S0_plain ta xa ya = xa ||| ya := by rw [S0_plain, if_neg c1, if_neg c2, if_neg c3, if_neg c5, if_neg c7, if_neg c8, if_pos c9]
                exact W.iret (v := xa ||| ya) hx hb hr (fun t ht hW => ⟨⟨xa ||| ya, (), rfl, e9.symm, trivial⟩, hS.F ht⟩) hS.2.2 dX0_plain_98
              · skip
                refine lv_tableOut (tgt := 99) hx hb dX0_plain_1 (by have nc1 := lv_neT c1 (show (0 : Int32).toInt = 0 from by decide); have nc2 := lv_neT c2 (show (1 : Int32).toInt = 1 from by decide); have nc3 := lv_neT c3 (show (2 : Int32).toInt = 2 from by decide); have nc5 := lv_neT c5 (show (3 : Int32).toInt = 3 from by decide); have nc7 := lv_neT c7 (show (4 : Int32).toInt = 4 from by decide); have nc8 := lv_neT c8 (show (5 : Int32).toInt = 5 from by decide); have nc9 := lv_neT c9 (show (6 : Int32).toInt = 6 from by decide); omega) (by decide) ?_
                refine lv_iload_n hx hb dX0_plain_99 rfl (lv_at hl 1 rfl) ?_
                refine lv_iload_n hx hb dX0_plain_100 rfl (lv_at hl 2 rfl) ?_
                refine lv_iand hx hb dX0_plain_101 ?_
                have e9 : S0_plain ta xa ya = xa &&& ya := by rw [S0_plain, if_neg c1, if_neg c2, if_neg c3, if_neg c5, if_neg c7, if_neg c8, if_neg c9]
                exact W.iret (v := xa &&& ya) hx hb hr (fun t ht hW => ⟨⟨xa &&& ya, (), rfl, e9.symm, trivial⟩, hS.F ht⟩) hS.2.2 dX0_plain_102
theorem hdX0_movedRightWithSign : yX0_movedRightWithSign.cls ≠ "java/lang/invoke/MethodHandle" ∧ yX0_movedRightWithSign.cls ≠ "java/lang/invoke/VarHandle" ∧ (parseMethodDescriptor yX0_movedRightWithSign.desc).map (fun d => d.parameters.length) = some 2 := by decide +kernel
set_option maxHeartbeats 4000000 in
set_option maxRecDepth 100000 in
theorem c0_movedRightWithSign (l : Launch) (xa : Int32) (ya : Int32)  : Pui l yX0_movedRightWithSign wsX0_movedRightWithSign 0 0 [.int xa, .int ya] (S0_movedRightWithSign xa ya) := by
  refine Met.ofW (cc := cX0_movedRightWithSign) (maxL := 2) (ret := (some .int)) (by decide) rfl ?_
  intro p e s m args below meth c s₁ B hml hv
  obtain ⟨rfl, -⟩ := hv
  have hx := B.exec
  have hb := B.bytes
  have hr := B.returns
  have hts := atoms_spec (ws := wsX0_movedRightWithSign) B.pre
  have hown : s.vm.findClass RX0 = some m.cls := findClass_of_methodNamed B.named
  have hlocks := B.notSynchronized
  have hP : va_P ((fun _ => 0), (fun _ _ => 0)) [] [] s.heap := fun k q h => by simp at h
  have hS : va_S (fun _ => False) s.heap s.heap [] := va_S.rf
  have hl := lv_entry ([.int xa, .int ya]) (n := 2) (Nat.le_of_ble_eq_true rfl)
  rw [lg_entry_eq]
  generalize (lg_sl ([.int xa, .int ya]) ++ List.replicate (2 - (lg_sl ([.int xa, .int ya])).length) Slot.unset).toArray = ls at hl ⊢
  have hl : lv_has ls 2 [(0, .int xa), (1, .int ya)] := hl
  refine lv_iload_n hx hb dX0_movedRightWithSign_0 rfl (lv_at hl 0 rfl) ?_
  refine lv_iload_n hx hb dX0_movedRightWithSign_1 rfl (lv_at hl 1 rfl) ?_
  refine lv_bipush (v := 31) hx hb dX0_movedRightWithSign_2 (by decide) ?_
  refine lv_iand hx hb dX0_movedRightWithSign_4 ?_
  refine lv_ishr hx hb dX0_movedRightWithSign_5 ?_
  have e9 : S0_movedRightWithSign xa ya = xa >>> ((ya &&& 31) &&& 31) := by rw [S0_movedRightWithSign]
  exact W.iret (v := xa >>> ((ya &&& 31) &&& 31)) hx hb hr (fun t ht hW => ⟨⟨xa >>> ((ya &&& 31) &&& 31), (), rfl, e9.symm, trivial⟩, hS.F ht⟩) hS.2.2 dX0_movedRightWithSign_6
theorem hdX0_upperOfProduct : yX0_upperOfProduct.cls ≠ "java/lang/invoke/MethodHandle" ∧ yX0_upperOfProduct.cls ≠ "java/lang/invoke/VarHandle" ∧ (parseMethodDescriptor yX0_upperOfProduct.desc).map (fun d => d.parameters.length) = some 2 := by decide +kernel
set_option maxHeartbeats 4000000 in
set_option maxRecDepth 100000 in
theorem c0_upperOfProduct (l : Launch) (xa : Int64) (ya : Int64)  : Pui l yX0_upperOfProduct wsX0_upperOfProduct 0 0 [.long xa, .long ya] (S0_upperOfProduct xa ya) := by
  refine Met.ofW (cc := cX0_upperOfProduct) (maxL := 4) (ret := (some .int)) (by decide) rfl ?_
  intro p e s m args below meth c s₁ B hml hv
  obtain ⟨rfl, -⟩ := hv
  have hx := B.exec
  have hb := B.bytes
  have hr := B.returns
  have hts := atoms_spec (ws := wsX0_upperOfProduct) B.pre
  have hown : s.vm.findClass RX0 = some m.cls := findClass_of_methodNamed B.named
  have hlocks := B.notSynchronized
  have hP : va_P ((fun _ => 0), (fun _ _ => 0)) [] [] s.heap := fun k q h => by simp at h
  have hS : va_S (fun _ => False) s.heap s.heap [] := va_S.rf
  have hl := lv_entry ([.long xa, .long ya]) (n := 4) (Nat.le_of_ble_eq_true rfl)
  rw [lg_entry_eq]
  generalize (lg_sl ([.long xa, .long ya]) ++ List.replicate (4 - (lg_sl ([.long xa, .long ya])).length) Slot.unset).toArray = ls at hl ⊢
  have hl : lv_has ls 4 [(0, .long xa), (2, .long ya)] := hl
  refine lv_lload_n hx hb dX0_upperOfProduct_0 rfl (lv_at hl 0 rfl) ?_
  refine lv_lload_n hx hb dX0_upperOfProduct_1 rfl (lv_at hl 1 rfl) ?_
  refine lv_lmul hx hb dX0_upperOfProduct_2 ?_
  refine lv_bipush (v := 32) hx hb dX0_upperOfProduct_3 (by decide) ?_
  refine lv_lushr (v := l_ushr (xa * ya) 32) hx hb dX0_upperOfProduct_5 rfl ?_
  refine lv_l2i (v := (l_ushr (xa * ya) 32).toInt32) hx hb dX0_upperOfProduct_6 rfl ?_
  have e9 : S0_upperOfProduct xa ya = (l_ushr (xa * ya) 32).toInt32 := by rw [S0_upperOfProduct]
  exact W.iret (v := (l_ushr (xa * ya) 32).toInt32) hx hb hr (fun t ht hW => ⟨⟨(l_ushr (xa * ya) 32).toInt32, (), rfl, e9.symm, trivial⟩, hS.F ht⟩) hS.2.2 dX0_upperOfProduct_7
theorem hdX0_quotient : yX0_quotient.cls ≠ "java/lang/invoke/MethodHandle" ∧ yX0_quotient.cls ≠ "java/lang/invoke/VarHandle" ∧ (parseMethodDescriptor yX0_quotient.desc).map (fun d => d.parameters.length) = some 2 := by decide +kernel
set_option maxHeartbeats 4000000 in
set_option maxRecDepth 100000 in
theorem c0_quotient (l : Launch) (xa : Int64) (ya : Int64)  : Pui l yX0_quotient wsX0_quotient 0 0 [.long xa, .long ya] (S0_quotient xa ya) := by
  refine Met.ofW (cc := cX0_quotient) (maxL := 4) (ret := (some .int)) (by decide) rfl ?_
  intro p e s m args below meth c s₁ B hml hv
  obtain ⟨rfl, -⟩ := hv
  have hx := B.exec
  have hb := B.bytes
  have hr := B.returns
  have hts := atoms_spec (ws := wsX0_quotient) B.pre
  have hown : s.vm.findClass RX0 = some m.cls := findClass_of_methodNamed B.named
  have hlocks := B.notSynchronized
  have hP : va_P ((fun _ => 0), (fun _ _ => 0)) [] [] s.heap := fun k q h => by simp at h
  have hS : va_S (fun _ => False) s.heap s.heap [] := va_S.rf
  have hl := lv_entry ([.long xa, .long ya]) (n := 4) (Nat.le_of_ble_eq_true rfl)
  rw [lg_entry_eq]
  generalize (lg_sl ([.long xa, .long ya]) ++ List.replicate (4 - (lg_sl ([.long xa, .long ya])).length) Slot.unset).toArray = ls at hl ⊢
  have hl : lv_has ls 4 [(0, .long xa), (2, .long ya)] := hl
  refine lv_lload_n hx hb dX0_quotient_0 rfl (lv_at hl 1 rfl) ?_
  refine lv_lconst (v := 0) hx hb dX0_quotient_1 (by decide) ?_
  refine W.lcmp hx hb dX0_quotient_2 ?_
  refine lv_if_ne (tgt := 10) hx hb dX0_quotient_3 (by decide) (fun (c1 : ¬ (lg_cmp ya 0) = 0) => ?_) (fun (c1 : (lg_cmp ya 0) = 0) => ?_)
  · refine lv_lload_n hx hb dX0_quotient_10 rfl (lv_at hl 0 rfl) ?_
    refine lv_lload_n hx hb dX0_quotient_11 rfl (lv_at hl 1 rfl) ?_
    refine lv_ldiv hx hb dX0_quotient_12 (cmp_ne c1) ?_
    refine lv_l2i (v := (xa / ya).toInt32) hx hb dX0_quotient_13 rfl ?_
    have e9 : S0_quotient xa ya = (xa / ya).toInt32 := by rw [S0_quotient, if_neg c1]
    exact W.iret (v := (xa / ya).toInt32) hx hb hr (fun t ht hW => ⟨⟨(xa / ya).toInt32, (), rfl, e9.symm, trivial⟩, hS.F ht⟩) hS.2.2 dX0_quotient_14
  · refine lv_iconst (v := (-1)) hx hb dX0_quotient_6 (by decide) ?_
    refine lv_goto (tgt := 14) hx hb dX0_quotient_7 (by decide) ?_
    have e9 : S0_quotient xa ya = ((-1) : Int32) := by rw [S0_quotient, if_pos c1]
    exact W.iret (v := ((-1) : Int32)) hx hb hr (fun t ht hW => ⟨⟨((-1) : Int32), (), rfl, e9.symm, trivial⟩, hS.F ht⟩) hS.2.2 dX0_quotient_14
theorem hdX0_rest : yX0_rest.cls ≠ "java/lang/invoke/MethodHandle" ∧ yX0_rest.cls ≠ "java/lang/invoke/VarHandle" ∧ (parseMethodDescriptor yX0_rest.desc).map (fun d => d.parameters.length) = some 2 := by decide +kernel
set_option maxHeartbeats 4000000 in
set_option maxRecDepth 100000 in
theorem c0_rest (l : Launch) (xa : Int64) (ya : Int64)  : Pui l yX0_rest wsX0_rest 0 0 [.long xa, .long ya] (S0_rest xa ya) := by
  refine Met.ofW (cc := cX0_rest) (maxL := 4) (ret := (some .int)) (by decide) rfl ?_
  intro p e s m args below meth c s₁ B hml hv
  obtain ⟨rfl, -⟩ := hv
  have hx := B.exec
  have hb := B.bytes
  have hr := B.returns
  have hts := atoms_spec (ws := wsX0_rest) B.pre
  have hown : s.vm.findClass RX0 = some m.cls := findClass_of_methodNamed B.named
  have hlocks := B.notSynchronized
  have hP : va_P ((fun _ => 0), (fun _ _ => 0)) [] [] s.heap := fun k q h => by simp at h
  have hS : va_S (fun _ => False) s.heap s.heap [] := va_S.rf
  have hl := lv_entry ([.long xa, .long ya]) (n := 4) (Nat.le_of_ble_eq_true rfl)
  rw [lg_entry_eq]
  generalize (lg_sl ([.long xa, .long ya]) ++ List.replicate (4 - (lg_sl ([.long xa, .long ya])).length) Slot.unset).toArray = ls at hl ⊢
  have hl : lv_has ls 4 [(0, .long xa), (2, .long ya)] := hl
  refine lv_lload_n hx hb dX0_rest_0 rfl (lv_at hl 1 rfl) ?_
  refine lv_lconst (v := 0) hx hb dX0_rest_1 (by decide) ?_
  refine W.lcmp hx hb dX0_rest_2 ?_
  refine lv_if_ne (tgt := 11) hx hb dX0_rest_3 (by decide) (fun (c1 : ¬ (lg_cmp ya 0) = 0) => ?_) (fun (c1 : (lg_cmp ya 0) = 0) => ?_)
  · refine lv_lload_n hx hb dX0_rest_11 rfl (lv_at hl 0 rfl) ?_
    refine lv_lload_n hx hb dX0_rest_12 rfl (lv_at hl 1 rfl) ?_
    refine lv_lrem hx hb dX0_rest_13 (cmp_ne c1) ?_
    refine lv_l2i (v := (xa - xa / ya * ya).toInt32) hx hb dX0_rest_14 rfl ?_
    have e9 : S0_rest xa ya = (xa - xa / ya * ya).toInt32 := by rw [S0_rest, if_neg c1]
    exact W.iret (v := (xa - xa / ya * ya).toInt32) hx hb hr (fun t ht hW => ⟨⟨(xa - xa / ya * ya).toInt32, (), rfl, e9.symm, trivial⟩, hS.F ht⟩) hS.2.2 dX0_rest_15
  · refine lv_lload_n hx hb dX0_rest_6 rfl (lv_at hl 0 rfl) ?_
    refine lv_l2i (v := xa.toInt32) hx hb dX0_rest_7 rfl ?_
    refine lv_goto (tgt := 15) hx hb dX0_rest_8 (by decide) ?_
    have e9 : S0_rest xa ya = xa.toInt32 := by rw [S0_rest, if_pos c1]
    exact W.iret (v := xa.toInt32) hx hb hr (fun t ht hW => ⟨⟨xa.toInt32, (), rfl, e9.symm, trivial⟩, hS.F ht⟩) hS.2.2 dX0_rest_15
theorem hdX0_productOrQuotient : yX0_productOrQuotient.cls ≠ "java/lang/invoke/MethodHandle" ∧ yX0_productOrQuotient.cls ≠ "java/lang/invoke/VarHandle" ∧ (parseMethodDescriptor yX0_productOrQuotient.desc).map (fun d => d.parameters.length) = some 3 := by decide +kernel
set_option maxHeartbeats 4000000 in
set_option maxRecDepth 100000 in
theorem c0_productOrQuotient (l : Launch) (ta : Int32) (xa : Int32) (ya : Int32)  : Pui l yX0_productOrQuotient wsX0_productOrQuotient 1 23 [.int ta, .int xa, .int ya] (S0_productOrQuotient ta xa ya) := by
  refine Met.ofW (cc := cX0_productOrQuotient) (maxL := 3) (ret := (some .int)) (by decide) rfl ?_
  intro p e s m args below meth c s₁ B hml hv
  obtain ⟨rfl, -⟩ := hv
  have hx := B.exec
  have hb := B.bytes
  have hr := B.returns
  have hts := atoms_spec (ws := wsX0_productOrQuotient) B.pre
  have hown : s.vm.findClass RX0 = some m.cls := findClass_of_methodNamed B.named
  have hlocks := B.notSynchronized
  have hP : va_P ((fun _ => 0), (fun _ _ => 0)) [] [] s.heap := fun k q h => by simp at h
  have hS : va_S (fun _ => False) s.heap s.heap [] := va_S.rf
  have hl := lv_entry ([.int ta, .int xa, .int ya]) (n := 3) (Nat.le_of_ble_eq_true rfl)
  rw [lg_entry_eq]
  generalize (lg_sl ([.int ta, .int xa, .int ya]) ++ List.replicate (3 - (lg_sl ([.int ta, .int xa, .int ya])).length) Slot.unset).toArray = ls at hl ⊢
  have hl : lv_has ls 3 [(0, .int ta), (1, .int xa), (2, .int ya)] := hl
  refine lv_iload_n hx hb dX0_productOrQuotient_0 rfl (lv_at hl 0 rfl) ?_
  by_cases c1 : ta = 0
  · refine lv_tableIn (tgt := 44) hx hb dX0_productOrQuotient_1 (by rw [c1]; decide) (by rw [c1]; decide) (by rw [c1]; rfl) (by decide) ?_
    refine lv_iload_n hx hb dX0_productOrQuotient_44 rfl (lv_at hl 1 rfl) ?_
    refine lv_iload_n hx hb dX0_productOrQuotient_45 rfl (lv_at hl 2 rfl) ?_
    refine lv_imul hx hb dX0_productOrQuotient_46 ?_
    have e9 : S0_productOrQuotient ta xa ya = xa * ya := by rw [S0_productOrQuotient, if_pos c1]
    exact W.iret (v := xa * ya) hx hb hr (fun t ht hW => ⟨⟨xa * ya, (), rfl, e9.symm, trivial⟩, hS.F ht⟩) hS.2.2 dX0_productOrQuotient_47
  · skip
    by_cases c2 : ta = 1
    · refine lv_tableIn (tgt := 48) hx hb dX0_productOrQuotient_1 (by rw [c2]; decide) (by rw [c2]; decide) (by rw [c2]; rfl) (by decide) ?_
      refine lv_iload_n hx hb dX0_productOrQuotient_48 rfl (lv_at hl 1 rfl) ?_
      refine lv_i2l (v := xa.toInt64) hx hb dX0_productOrQuotient_49 rfl ?_
      refine lv_iload_n hx hb dX0_productOrQuotient_50 rfl (lv_at hl 2 rfl) ?_
      refine lv_i2l (v := ya.toInt64) hx hb dX0_productOrQuotient_51 rfl ?_
      refine pu_i (v := S0_upperOfProduct xa.toInt64 ya.toInt64) (As := [.long xa.toInt64, .long ya.toInt64]) (rest := []) ⟨hx, hb, hml, hown, hts⟩ (c0_upperOfProduct l xa.toInt64 ya.toInt64 ) gX0_productOrQuotient_X0_upperOfProduct rfl hdX0_upperOfProduct ⟨Nat.le_of_ble_eq_true rfl, Nat.le_of_ble_eq_true rfl⟩ hl.1 rfl (Nat.le_of_ble_eq_true rfl) dX0_productOrQuotient_52 ⟨Nat.zero_le _, Nat.zero_le _⟩ hP hS (fun H locs hP hS => ?_)
      have e9 : S0_productOrQuotient ta xa ya = S0_upperOfProduct xa.toInt64 ya.toInt64 := by rw [S0_productOrQuotient, if_neg c1, if_pos c2]
      exact W.iret (v := S0_upperOfProduct xa.toInt64 ya.toInt64) hx hb hr (fun t ht hW => ⟨⟨S0_upperOfProduct xa.toInt64 ya.toInt64, (), rfl, e9.symm, trivial⟩, hS.F ht⟩) hS.2.2 dX0_productOrQuotient_55
    · skip
      by_cases c3 : ta = 2
      · refine lv_tableIn (tgt := 56) hx hb dX0_productOrQuotient_1 (by rw [c3]; decide) (by rw [c3]; decide) (by rw [c3]; rfl) (by decide) ?_
        refine lv_iload_n hx hb dX0_productOrQuotient_56 rfl (lv_at hl 1 rfl) ?_
        refine lv_i2l (v := xa.toInt64) hx hb dX0_productOrQuotient_57 rfl ?_
        refine lv_iload_n hx hb dX0_productOrQuotient_58 rfl (lv_at hl 2 rfl) ?_
        refine pu_l (v := S0_unsigned ya) (As := [.int ya]) (rest := [.long xa.toInt64]) ⟨hx, hb, hml, hown, hts⟩ (c0_unsigned l ya ) gX0_productOrQuotient_X0_unsigned rfl hdX0_unsigned ⟨Nat.le_of_ble_eq_true rfl, Nat.le_of_ble_eq_true rfl⟩ hl.1 rfl (Nat.le_of_ble_eq_true rfl) dX0_productOrQuotient_59 ⟨Nat.zero_le _, Nat.zero_le _⟩ hP hS (fun H locs hP hS => ?_)
        refine pu_i (v := S0_upperOfProduct xa.toInt64 (S0_unsigned ya)) (As := [.long xa.toInt64, .long (S0_unsigned ya)]) (rest := []) ⟨hx, hb, hml, hown, hts⟩ (c0_upperOfProduct l xa.toInt64 (S0_unsigned ya) ) gX0_productOrQuotient_X0_upperOfProduct rfl hdX0_upperOfProduct ⟨Nat.le_of_ble_eq_true rfl, Nat.le_of_ble_eq_true rfl⟩ hl.1 rfl (Nat.le_of_ble_eq_true rfl) dX0_productOrQuotient_62 ⟨Nat.zero_le _, Nat.zero_le _⟩ hP hS (fun H locs hP hS => ?_)
        have e9 : S0_productOrQuotient ta xa ya = S0_upperOfProduct xa.toInt64 (S0_unsigned ya) := by rw [S0_productOrQuotient, if_neg c1, if_neg c2, if_pos c3]
        exact W.iret (v := S0_upperOfProduct xa.toInt64 (S0_unsigned ya)) hx hb hr (fun t ht hW => ⟨⟨S0_upperOfProduct xa.toInt64 (S0_unsigned ya), (), rfl, e9.symm, trivial⟩, hS.F ht⟩) hS.2.2 dX0_productOrQuotient_65
      · skip
        by_cases c4 : ta = 3
        · refine lv_tableIn (tgt := 66) hx hb dX0_productOrQuotient_1 (by rw [c4]; decide) (by rw [c4]; decide) (by rw [c4]; rfl) (by decide) ?_
          refine lv_iload_n hx hb dX0_productOrQuotient_66 rfl (lv_at hl 1 rfl) ?_
          refine pu_l (v := S0_unsigned xa) (As := [.int xa]) (rest := []) ⟨hx, hb, hml, hown, hts⟩ (c0_unsigned l xa ) gX0_productOrQuotient_X0_unsigned rfl hdX0_unsigned ⟨Nat.le_of_ble_eq_true rfl, Nat.le_of_ble_eq_true rfl⟩ hl.1 rfl (Nat.le_of_ble_eq_true rfl) dX0_productOrQuotient_67 ⟨Nat.zero_le _, Nat.zero_le _⟩ hP hS (fun H locs hP hS => ?_)
          refine lv_iload_n hx hb dX0_productOrQuotient_70 rfl (lv_at hl 2 rfl) ?_
          refine pu_l (v := S0_unsigned ya) (As := [.int ya]) (rest := [.long (S0_unsigned xa)]) ⟨hx, hb, hml, hown, hts⟩ (c0_unsigned l ya ) gX0_productOrQuotient_X0_unsigned rfl hdX0_unsigned ⟨Nat.le_of_ble_eq_true rfl, Nat.le_of_ble_eq_true rfl⟩ hl.1 rfl (Nat.le_of_ble_eq_true rfl) dX0_productOrQuotient_71 ⟨Nat.zero_le _, Nat.zero_le _⟩ hP hS (fun H locs hP hS => ?_)
          refine pu_i (v := S0_upperOfProduct (S0_unsigned xa) (S0_unsigned ya)) (As := [.long (S0_unsigned xa), .long (S0_unsigned ya)]) (rest := []) ⟨hx, hb, hml, hown, hts⟩ (c0_upperOfProduct l (S0_unsigned xa) (S0_unsigned ya) ) gX0_productOrQuotient_X0_upperOfProduct rfl hdX0_upperOfProduct ⟨Nat.le_of_ble_eq_true rfl, Nat.le_of_ble_eq_true rfl⟩ hl.1 rfl (Nat.le_of_ble_eq_true rfl) dX0_productOrQuotient_74 ⟨Nat.zero_le _, Nat.zero_le _⟩ hP hS (fun H locs hP hS => ?_)
          have e9 : S0_productOrQuotient ta xa ya = S0_upperOfProduct (S0_unsigned xa) (S0_unsigned ya) := by rw [S0_productOrQuotient, if_neg c1, if_neg c2, if_neg c3, if_pos c4]
          exact W.iret (v := S0_upperOfProduct (S0_unsigned xa) (S0_unsigned ya)) hx hb hr (fun t ht hW => ⟨⟨S0_upperOfProduct (S0_unsigned xa) (S0_unsigned ya), (), rfl, e9.symm, trivial⟩, hS.F ht⟩) hS.2.2 dX0_productOrQuotient_77
        · skip
          by_cases c5 : ta = 4
          · refine lv_tableIn (tgt := 78) hx hb dX0_productOrQuotient_1 (by rw [c5]; decide) (by rw [c5]; decide) (by rw [c5]; rfl) (by decide) ?_
            refine lv_iload_n hx hb dX0_productOrQuotient_78 rfl (lv_at hl 1 rfl) ?_
            refine lv_i2l (v := xa.toInt64) hx hb dX0_productOrQuotient_79 rfl ?_
            refine lv_iload_n hx hb dX0_productOrQuotient_80 rfl (lv_at hl 2 rfl) ?_
            refine lv_i2l (v := ya.toInt64) hx hb dX0_productOrQuotient_81 rfl ?_
            refine pu_i (v := S0_quotient xa.toInt64 ya.toInt64) (As := [.long xa.toInt64, .long ya.toInt64]) (rest := []) ⟨hx, hb, hml, hown, hts⟩ (c0_quotient l xa.toInt64 ya.toInt64 ) gX0_productOrQuotient_X0_quotient rfl hdX0_quotient ⟨Nat.le_of_ble_eq_true rfl, Nat.le_of_ble_eq_true rfl⟩ hl.1 rfl (Nat.le_of_ble_eq_true rfl) dX0_productOrQuotient_82 ⟨Nat.zero_le _, Nat.zero_le _⟩ hP hS (fun H locs hP hS => ?_)
            have e9 : S0_productOrQuotient ta xa ya = S0_quotient xa.toInt64 ya.toInt64 := by rw [S0_productOrQuotient, if_neg c1, if_neg c2, if_neg c3, if_neg c4, if_pos c5]
            exact W.iret (v := S0_quotient xa.toInt64 ya.toInt64) hx hb hr (fun t ht hW => ⟨⟨S0_quotient xa.toInt64 ya.toInt64, (), rfl, e9.symm, trivial⟩, hS.F ht⟩) hS.2.2 dX0_productOrQuotient_85
          · skip
            by_cases c6 : ta = 5
            · refine lv_tableIn (tgt := 86) hx hb dX0_productOrQuotient_1 (by rw [c6]; decide) (by rw [c6]; decide) (by rw [c6]; rfl) (by decide) ?_
              refine lv_iload_n hx hb dX0_productOrQuotient_86 rfl (lv_at hl 1 rfl) ?_
              refine pu_l (v := S0_unsigned xa) (As := [.int xa]) (rest := []) ⟨hx, hb, hml, hown, hts⟩ (c0_unsigned l xa ) gX0_productOrQuotient_X0_unsigned rfl hdX0_unsigned ⟨Nat.le_of_ble_eq_true rfl, Nat.le_of_ble_eq_true rfl⟩ hl.1 rfl (Nat.le_of_ble_eq_true rfl) dX0_productOrQuotient_87 ⟨Nat.zero_le _, Nat.zero_le _⟩ hP hS (fun H locs hP hS => ?_)
              refine lv_iload_n hx hb dX0_productOrQuotient_90 rfl (lv_at hl 2 rfl) ?_
              refine pu_l (v := S0_unsigned ya) (As := [.int ya]) (rest := [.long (S0_unsigned xa)]) ⟨hx, hb, hml, hown, hts⟩ (c0_unsigned l ya ) gX0_productOrQuotient_X0_unsigned rfl hdX0_unsigned ⟨Nat.le_of_ble_eq_true rfl, Nat.le_of_ble_eq_true rfl⟩ hl.1 rfl (Nat.le_of_ble_eq_true rfl) dX0_productOrQuotient_91 ⟨Nat.zero_le _, Nat.zero_le _⟩ hP hS (fun H locs hP hS => ?_)
              refine pu_i (v := S0_quotient (S0_unsigned xa) (S0_unsigned ya)) (As := [.long (S0_unsigned xa), .long (S0_unsigned ya)]) (rest := []) ⟨hx, hb, hml, hown, hts⟩ (c0_quotient l (S0_unsigned xa) (S0_unsigned ya) ) gX0_productOrQuotient_X0_quotient rfl hdX0_quotient ⟨Nat.le_of_ble_eq_true rfl, Nat.le_of_ble_eq_true rfl⟩ hl.1 rfl (Nat.le_of_ble_eq_true rfl) dX0_productOrQuotient_94 ⟨Nat.zero_le _, Nat.zero_le _⟩ hP hS (fun H locs hP hS => ?_)
              have e9 : S0_productOrQuotient ta xa ya = S0_quotient (S0_unsigned xa) (S0_unsigned ya) := by rw [S0_productOrQuotient, if_neg c1, if_neg c2, if_neg c3, if_neg c4, if_neg c5, if_pos c6]
              exact W.iret (v := S0_quotient (S0_unsigned xa) (S0_unsigned ya)) hx hb hr (fun t ht hW => ⟨⟨S0_quotient (S0_unsigned xa) (S0_unsigned ya), (), rfl, e9.symm, trivial⟩, hS.F ht⟩) hS.2.2 dX0_productOrQuotient_97
            · skip
              by_cases c7 : ta = 6
              · refine lv_tableIn (tgt := 98) hx hb dX0_productOrQuotient_1 (by rw [c7]; decide) (by rw [c7]; decide) (by rw [c7]; rfl) (by decide) ?_
                refine lv_iload_n hx hb dX0_productOrQuotient_98 rfl (lv_at hl 1 rfl) ?_
                refine lv_i2l (v := xa.toInt64) hx hb dX0_productOrQuotient_99 rfl ?_
                refine lv_iload_n hx hb dX0_productOrQuotient_100 rfl (lv_at hl 2 rfl) ?_
                refine lv_i2l (v := ya.toInt64) hx hb dX0_productOrQuotient_101 rfl ?_
                refine pu_i (v := S0_rest xa.toInt64 ya.toInt64) (As := [.long xa.toInt64, .long ya.toInt64]) (rest := []) ⟨hx, hb, hml, hown, hts⟩ (c0_rest l xa.toInt64 ya.toInt64 ) gX0_productOrQuotient_X0_rest rfl hdX0_rest ⟨Nat.le_of_ble_eq_true rfl, Nat.le_of_ble_eq_true rfl⟩ hl.1 rfl (Nat.le_of_ble_eq_true rfl) dX0_productOrQuotient_102 ⟨Nat.zero_le _, Nat.zero_le _⟩ hP hS (fun H locs hP hS => ?_)
                have e9 : S0_productOrQuotient ta xa ya = S0_rest xa.toInt64 ya.toInt64 := by rw [S0_productOrQuotient, if_neg c1, if_neg c2, if_neg c3, if_neg c4, if_neg c5, if_neg c6, if_pos c7]
                exact W.iret (v := S0_rest xa.toInt64 ya.toInt64) hx hb hr (fun t ht hW => ⟨⟨S0_rest xa.toInt64 ya.toInt64, (), rfl, e9.symm, trivial⟩, hS.F ht⟩) hS.2.2 dX0_productOrQuotient_105
              · skip
                refine lv_tableOut (tgt := 106) hx hb dX0_productOrQuotient_1 (by have nc1 := lv_neT c1 (show (0 : Int32).toInt = 0 from by decide); have nc2 := lv_neT c2 (show (1 : Int32).toInt = 1 from by decide); have nc3 := lv_neT c3 (show (2 : Int32).toInt = 2 from by decide); have nc4 := lv_neT c4 (show (3 : Int32).toInt = 3 from by decide); have nc5 := lv_neT c5 (show (4 : Int32).toInt = 4 from by decide); have nc6 := lv_neT c6 (show (5 : Int32).toInt = 5 from by decide); have nc7 := lv_neT c7 (show (6 : Int32).toInt = 6 from by decide); omega) (by decide) ?_
                refine lv_iload_n hx hb dX0_productOrQuotient_106 rfl (lv_at hl 1 rfl) ?_
                refine pu_l (v := S0_unsigned xa) (As := [.int xa]) (rest := []) ⟨hx, hb, hml, hown, hts⟩ (c0_unsigned l xa ) gX0_productOrQuotient_X0_unsigned rfl hdX0_unsigned ⟨Nat.le_of_ble_eq_true rfl, Nat.le_of_ble_eq_true rfl⟩ hl.1 rfl (Nat.le_of_ble_eq_true rfl) dX0_productOrQuotient_107 ⟨Nat.zero_le _, Nat.zero_le _⟩ hP hS (fun H locs hP hS => ?_)
                refine lv_iload_n hx hb dX0_productOrQuotient_110 rfl (lv_at hl 2 rfl) ?_
                refine pu_l (v := S0_unsigned ya) (As := [.int ya]) (rest := [.long (S0_unsigned xa)]) ⟨hx, hb, hml, hown, hts⟩ (c0_unsigned l ya ) gX0_productOrQuotient_X0_unsigned rfl hdX0_unsigned ⟨Nat.le_of_ble_eq_true rfl, Nat.le_of_ble_eq_true rfl⟩ hl.1 rfl (Nat.le_of_ble_eq_true rfl) dX0_productOrQuotient_111 ⟨Nat.zero_le _, Nat.zero_le _⟩ hP hS (fun H locs hP hS => ?_)
                refine pu_i (v := S0_rest (S0_unsigned xa) (S0_unsigned ya)) (As := [.long (S0_unsigned xa), .long (S0_unsigned ya)]) (rest := []) ⟨hx, hb, hml, hown, hts⟩ (c0_rest l (S0_unsigned xa) (S0_unsigned ya) ) gX0_productOrQuotient_X0_rest rfl hdX0_rest ⟨Nat.le_of_ble_eq_true rfl, Nat.le_of_ble_eq_true rfl⟩ hl.1 rfl (Nat.le_of_ble_eq_true rfl) dX0_productOrQuotient_114 ⟨Nat.zero_le _, Nat.zero_le _⟩ hP hS (fun H locs hP hS => ?_)
                have e9 : S0_productOrQuotient ta xa ya = S0_rest (S0_unsigned xa) (S0_unsigned ya) := by rw [S0_productOrQuotient, if_neg c1, if_neg c2, if_neg c3, if_neg c4, if_neg c5, if_neg c6, if_neg c7]
                exact W.iret (v := S0_rest (S0_unsigned xa) (S0_unsigned ya)) hx hb hr (fun t ht hW => ⟨⟨S0_rest (S0_unsigned xa) (S0_unsigned ya), (), rfl, e9.symm, trivial⟩, hS.F ht⟩) hS.2.2 dX0_productOrQuotient_117
theorem hdX0_holds : yX0_holds.cls ≠ "java/lang/invoke/MethodHandle" ∧ yX0_holds.cls ≠ "java/lang/invoke/VarHandle" ∧ (parseMethodDescriptor yX0_holds.desc).map (fun d => d.parameters.length) = some 3 := by decide +kernel
set_option maxHeartbeats 4000000 in
set_option maxRecDepth 100000 in
theorem c0_holds (l : Launch) (ta : Int32) (xa : Int32) (ya : Int32)  : Pui l yX0_holds wsX0_holds 1 20 [.int ta, .int xa, .int ya] (S0_holds ta xa ya) := by
  refine Met.ofW (cc := cX0_holds) (maxL := 3) (ret := (some .boolean)) (by decide) rfl ?_
  intro p e s m args below meth c s₁ B hml hv
  obtain ⟨rfl, -⟩ := hv
  have hx := B.exec
  have hb := B.bytes
  have hr := B.returns
  have hts := atoms_spec (ws := wsX0_holds) B.pre
  have hown : s.vm.findClass RX0 = some m.cls := findClass_of_methodNamed B.named
  have hlocks := B.notSynchronized
  have hP : va_P ((fun _ => 0), (fun _ _ => 0)) [] [] s.heap := fun k q h => by simp at h
  have hS : va_S (fun _ => False) s.heap s.heap [] := va_S.rf
  have hl := lv_entry ([.int ta, .int xa, .int ya]) (n := 3) (Nat.le_of_ble_eq_true rfl)
  rw [lg_entry_eq]
  generalize (lg_sl ([.int ta, .int xa, .int ya]) ++ List.replicate (3 - (lg_sl ([.int ta, .int xa, .int ya])).length) Slot.unset).toArray = ls at hl ⊢
  have hl : lv_has ls 3 [(0, .int ta), (1, .int xa), (2, .int ya)] := hl
  refine lv_iload_n hx hb dX0_holds_0 rfl (lv_at hl 0 rfl) ?_
  by_cases c1 : ta = 0
  · refine lv_tableIn (tgt := 44) hx hb dX0_holds_1 (by rw [c1]; decide) (by rw [c1]; decide) (by rw [c1]; rfl) (by decide) ?_
    refine lv_iload_n hx hb dX0_holds_44 rfl (lv_at hl 1 rfl) ?_
    refine lv_iload_n hx hb dX0_holds_45 rfl (lv_at hl 2 rfl) ?_
    refine lv_icmp_ne (tgt := 53) hx hb dX0_holds_46 (by decide) (fun (c2 : ¬ xa = ya) => ?_) (fun (c2 : xa = ya) => ?_)
    · refine lv_iconst (v := 0) hx hb dX0_holds_53 (by decide) ?_
      have e9 : S0_holds ta xa ya = (0 : Int32) := by rw [S0_holds, if_pos c1, if_neg c2]
      exact W.zret (v := (0 : Int32)) hx hb hr rfl (fun t ht hW => ⟨⟨(0 : Int32), (), rfl, e9.symm, trivial⟩, hS.F ht⟩) hS.2.2 dX0_holds_54
    · refine lv_iconst (v := 1) hx hb dX0_holds_49 (by decide) ?_
      refine lv_goto (tgt := 54) hx hb dX0_holds_50 (by decide) ?_
      have e9 : S0_holds ta xa ya = (1 : Int32) := by rw [S0_holds, if_pos c1, if_pos c2]
      exact W.zret (v := (1 : Int32)) hx hb hr rfl (fun t ht hW => ⟨⟨(1 : Int32), (), rfl, e9.symm, trivial⟩, hS.F ht⟩) hS.2.2 dX0_holds_54
  · skip
    by_cases c3 : ta = 1
    · refine lv_tableIn (tgt := 55) hx hb dX0_holds_1 (by rw [c3]; decide) (by rw [c3]; decide) (by rw [c3]; rfl) (by decide) ?_
      refine lv_iload_n hx hb dX0_holds_55 rfl (lv_at hl 1 rfl) ?_
      refine lv_iload_n hx hb dX0_holds_56 rfl (lv_at hl 2 rfl) ?_
      refine lv_icmp_eq (tgt := 64) hx hb dX0_holds_57 (by decide) (fun (c4 : xa = ya) => ?_) (fun (c4 : ¬ xa = ya) => ?_)
      · refine lv_iconst (v := 0) hx hb dX0_holds_64 (by decide) ?_
        have e9 : S0_holds ta xa ya = (0 : Int32) := by rw [S0_holds, if_neg c1, if_pos c3, if_pos c4]
        exact W.zret (v := (0 : Int32)) hx hb hr rfl (fun t ht hW => ⟨⟨(0 : Int32), (), rfl, e9.symm, trivial⟩, hS.F ht⟩) hS.2.2 dX0_holds_65
      · refine lv_iconst (v := 1) hx hb dX0_holds_60 (by decide) ?_
        refine lv_goto (tgt := 65) hx hb dX0_holds_61 (by decide) ?_
        have e9 : S0_holds ta xa ya = (1 : Int32) := by rw [S0_holds, if_neg c1, if_pos c3, if_neg c4]
        exact W.zret (v := (1 : Int32)) hx hb hr rfl (fun t ht hW => ⟨⟨(1 : Int32), (), rfl, e9.symm, trivial⟩, hS.F ht⟩) hS.2.2 dX0_holds_65
    · skip
      by_cases c5 : ta = 2
      · refine lv_tableIn (tgt := 106) hx hb dX0_holds_1 (by rw [c5]; decide) (by rw [c5]; decide) (by rw [c5]; rfl) (by decide) ?_
        refine lv_iload_n hx hb dX0_holds_106 rfl (lv_at hl 1 rfl) ?_
        refine pu_l (v := S0_unsigned xa) (As := [.int xa]) (rest := []) ⟨hx, hb, hml, hown, hts⟩ (c0_unsigned l xa ) gX0_holds_X0_unsigned rfl hdX0_unsigned ⟨Nat.le_of_ble_eq_true rfl, Nat.le_of_ble_eq_true rfl⟩ hl.1 rfl (Nat.le_of_ble_eq_true rfl) dX0_holds_107 ⟨Nat.zero_le _, Nat.zero_le _⟩ hP hS (fun H locs hP hS => ?_)
        refine lv_iload_n hx hb dX0_holds_110 rfl (lv_at hl 2 rfl) ?_
        refine pu_l (v := S0_unsigned ya) (As := [.int ya]) (rest := [.long (S0_unsigned xa)]) ⟨hx, hb, hml, hown, hts⟩ (c0_unsigned l ya ) gX0_holds_X0_unsigned rfl hdX0_unsigned ⟨Nat.le_of_ble_eq_true rfl, Nat.le_of_ble_eq_true rfl⟩ hl.1 rfl (Nat.le_of_ble_eq_true rfl) dX0_holds_111 ⟨Nat.zero_le _, Nat.zero_le _⟩ hP hS (fun H locs hP hS => ?_)
        refine W.lcmp hx hb dX0_holds_114 ?_
        refine lv_if_lt (tgt := 122) hx hb dX0_holds_115 (by decide) (fun (c6 : (lg_cmp (S0_unsigned xa) (S0_unsigned ya)) < 0) => ?_) (fun (c6 : ¬ (lg_cmp (S0_unsigned xa) (S0_unsigned ya)) < 0) => ?_)
        · refine lv_iconst (v := 0) hx hb dX0_holds_122 (by decide) ?_
          have e9 : S0_holds ta xa ya = (0 : Int32) := by rw [S0_holds, if_neg c1, if_neg c3, if_pos c5, if_pos c6]
          exact W.zret (v := (0 : Int32)) hx hb hr rfl (fun t ht hW => ⟨⟨(0 : Int32), (), rfl, e9.symm, trivial⟩, hS.F ht⟩) hS.2.2 dX0_holds_123
        · refine lv_iconst (v := 1) hx hb dX0_holds_118 (by decide) ?_
          refine lv_goto (tgt := 123) hx hb dX0_holds_119 (by decide) ?_
          have e9 : S0_holds ta xa ya = (1 : Int32) := by rw [S0_holds, if_neg c1, if_neg c3, if_pos c5, if_neg c6]
          exact W.zret (v := (1 : Int32)) hx hb hr rfl (fun t ht hW => ⟨⟨(1 : Int32), (), rfl, e9.symm, trivial⟩, hS.F ht⟩) hS.2.2 dX0_holds_123
      · skip
        by_cases c7 : ta = 3
        · refine lv_tableIn (tgt := 106) hx hb dX0_holds_1 (by rw [c7]; decide) (by rw [c7]; decide) (by rw [c7]; rfl) (by decide) ?_
          refine lv_iload_n hx hb dX0_holds_106 rfl (lv_at hl 1 rfl) ?_
          refine pu_l (v := S0_unsigned xa) (As := [.int xa]) (rest := []) ⟨hx, hb, hml, hown, hts⟩ (c0_unsigned l xa ) gX0_holds_X0_unsigned rfl hdX0_unsigned ⟨Nat.le_of_ble_eq_true rfl, Nat.le_of_ble_eq_true rfl⟩ hl.1 rfl (Nat.le_of_ble_eq_true rfl) dX0_holds_107 ⟨Nat.zero_le _, Nat.zero_le _⟩ hP hS (fun H locs hP hS => ?_)
          refine lv_iload_n hx hb dX0_holds_110 rfl (lv_at hl 2 rfl) ?_
          refine pu_l (v := S0_unsigned ya) (As := [.int ya]) (rest := [.long (S0_unsigned xa)]) ⟨hx, hb, hml, hown, hts⟩ (c0_unsigned l ya ) gX0_holds_X0_unsigned rfl hdX0_unsigned ⟨Nat.le_of_ble_eq_true rfl, Nat.le_of_ble_eq_true rfl⟩ hl.1 rfl (Nat.le_of_ble_eq_true rfl) dX0_holds_111 ⟨Nat.zero_le _, Nat.zero_le _⟩ hP hS (fun H locs hP hS => ?_)
          refine W.lcmp hx hb dX0_holds_114 ?_
          refine lv_if_lt (tgt := 122) hx hb dX0_holds_115 (by decide) (fun (c8 : (lg_cmp (S0_unsigned xa) (S0_unsigned ya)) < 0) => ?_) (fun (c8 : ¬ (lg_cmp (S0_unsigned xa) (S0_unsigned ya)) < 0) => ?_)
          · refine lv_iconst (v := 0) hx hb dX0_holds_122 (by decide) ?_
            have e9 : S0_holds ta xa ya = (0 : Int32) := by rw [S0_holds, if_neg c1, if_neg c3, if_neg c5, if_pos c7, if_pos c8]
            exact W.zret (v := (0 : Int32)) hx hb hr rfl (fun t ht hW => ⟨⟨(0 : Int32), (), rfl, e9.symm, trivial⟩, hS.F ht⟩) hS.2.2 dX0_holds_123
          · refine lv_iconst (v := 1) hx hb dX0_holds_118 (by decide) ?_
            refine lv_goto (tgt := 123) hx hb dX0_holds_119 (by decide) ?_
            have e9 : S0_holds ta xa ya = (1 : Int32) := by rw [S0_holds, if_neg c1, if_neg c3, if_neg c5, if_pos c7, if_neg c8]
            exact W.zret (v := (1 : Int32)) hx hb hr rfl (fun t ht hW => ⟨⟨(1 : Int32), (), rfl, e9.symm, trivial⟩, hS.F ht⟩) hS.2.2 dX0_holds_123
        · skip
          by_cases c9 : ta = 4
          · refine lv_tableIn (tgt := 66) hx hb dX0_holds_1 (by rw [c9]; decide) (by rw [c9]; decide) (by rw [c9]; rfl) (by decide) ?_
            refine lv_iload_n hx hb dX0_holds_66 rfl (lv_at hl 1 rfl) ?_
            refine lv_iload_n hx hb dX0_holds_67 rfl (lv_at hl 2 rfl) ?_
            refine lv_icmp_ge (tgt := 75) hx hb dX0_holds_68 (by decide) (fun (c10 : ya ≤ xa) => ?_) (fun (c10 : ¬ ya ≤ xa) => ?_)
            · refine lv_iconst (v := 0) hx hb dX0_holds_75 (by decide) ?_
              have e9 : S0_holds ta xa ya = (0 : Int32) := by rw [S0_holds, if_neg c1, if_neg c3, if_neg c5, if_neg c7, if_pos c9, if_pos c10]
              exact W.zret (v := (0 : Int32)) hx hb hr rfl (fun t ht hW => ⟨⟨(0 : Int32), (), rfl, e9.symm, trivial⟩, hS.F ht⟩) hS.2.2 dX0_holds_76
            · refine lv_iconst (v := 1) hx hb dX0_holds_71 (by decide) ?_
              refine lv_goto (tgt := 76) hx hb dX0_holds_72 (by decide) ?_
              have e9 : S0_holds ta xa ya = (1 : Int32) := by rw [S0_holds, if_neg c1, if_neg c3, if_neg c5, if_neg c7, if_pos c9, if_neg c10]
              exact W.zret (v := (1 : Int32)) hx hb hr rfl (fun t ht hW => ⟨⟨(1 : Int32), (), rfl, e9.symm, trivial⟩, hS.F ht⟩) hS.2.2 dX0_holds_76
          · skip
            by_cases c11 : ta = 5
            · refine lv_tableIn (tgt := 77) hx hb dX0_holds_1 (by rw [c11]; decide) (by rw [c11]; decide) (by rw [c11]; rfl) (by decide) ?_
              refine lv_iload_n hx hb dX0_holds_77 rfl (lv_at hl 1 rfl) ?_
              refine lv_iload_n hx hb dX0_holds_78 rfl (lv_at hl 2 rfl) ?_
              refine lv_icmp_lt (tgt := 86) hx hb dX0_holds_79 (by decide) (fun (c12 : xa < ya) => ?_) (fun (c12 : ¬ xa < ya) => ?_)
              · refine lv_iconst (v := 0) hx hb dX0_holds_86 (by decide) ?_
                have e9 : S0_holds ta xa ya = (0 : Int32) := by rw [S0_holds, if_neg c1, if_neg c3, if_neg c5, if_neg c7, if_neg c9, if_pos c11, if_pos c12]
                exact W.zret (v := (0 : Int32)) hx hb hr rfl (fun t ht hW => ⟨⟨(0 : Int32), (), rfl, e9.symm, trivial⟩, hS.F ht⟩) hS.2.2 dX0_holds_87
              · refine lv_iconst (v := 1) hx hb dX0_holds_82 (by decide) ?_
                refine lv_goto (tgt := 87) hx hb dX0_holds_83 (by decide) ?_
                have e9 : S0_holds ta xa ya = (1 : Int32) := by rw [S0_holds, if_neg c1, if_neg c3, if_neg c5, if_neg c7, if_neg c9, if_pos c11, if_neg c12]
                exact W.zret (v := (1 : Int32)) hx hb hr rfl (fun t ht hW => ⟨⟨(1 : Int32), (), rfl, e9.symm, trivial⟩, hS.F ht⟩) hS.2.2 dX0_holds_87
            · skip
              by_cases c13 : ta = 6
              · refine lv_tableIn (tgt := 88) hx hb dX0_holds_1 (by rw [c13]; decide) (by rw [c13]; decide) (by rw [c13]; rfl) (by decide) ?_
                refine lv_iload_n hx hb dX0_holds_88 rfl (lv_at hl 1 rfl) ?_
                refine pu_l (v := S0_unsigned xa) (As := [.int xa]) (rest := []) ⟨hx, hb, hml, hown, hts⟩ (c0_unsigned l xa ) gX0_holds_X0_unsigned rfl hdX0_unsigned ⟨Nat.le_of_ble_eq_true rfl, Nat.le_of_ble_eq_true rfl⟩ hl.1 rfl (Nat.le_of_ble_eq_true rfl) dX0_holds_89 ⟨Nat.zero_le _, Nat.zero_le _⟩ hP hS (fun H locs hP hS => ?_)
                refine lv_iload_n hx hb dX0_holds_92 rfl (lv_at hl 2 rfl) ?_
                refine pu_l (v := S0_unsigned ya) (As := [.int ya]) (rest := [.long (S0_unsigned xa)]) ⟨hx, hb, hml, hown, hts⟩ (c0_unsigned l ya ) gX0_holds_X0_unsigned rfl hdX0_unsigned ⟨Nat.le_of_ble_eq_true rfl, Nat.le_of_ble_eq_true rfl⟩ hl.1 rfl (Nat.le_of_ble_eq_true rfl) dX0_holds_93 ⟨Nat.zero_le _, Nat.zero_le _⟩ hP hS (fun H locs hP hS => ?_)
                refine W.lcmp hx hb dX0_holds_96 ?_
                refine lv_if_ge (tgt := 104) hx hb dX0_holds_97 (by decide) (fun (c14 : 0 ≤ (lg_cmp (S0_unsigned xa) (S0_unsigned ya))) => ?_) (fun (c14 : ¬ 0 ≤ (lg_cmp (S0_unsigned xa) (S0_unsigned ya))) => ?_)
                · refine lv_iconst (v := 0) hx hb dX0_holds_104 (by decide) ?_
                  have e9 : S0_holds ta xa ya = (0 : Int32) := by rw [S0_holds, if_neg c1, if_neg c3, if_neg c5, if_neg c7, if_neg c9, if_neg c11, if_pos c13, if_pos c14]
                  exact W.zret (v := (0 : Int32)) hx hb hr rfl (fun t ht hW => ⟨⟨(0 : Int32), (), rfl, e9.symm, trivial⟩, hS.F ht⟩) hS.2.2 dX0_holds_105
                · refine lv_iconst (v := 1) hx hb dX0_holds_100 (by decide) ?_
                  refine lv_goto (tgt := 105) hx hb dX0_holds_101 (by decide) ?_
                  have e9 : S0_holds ta xa ya = (1 : Int32) := by rw [S0_holds, if_neg c1, if_neg c3, if_neg c5, if_neg c7, if_neg c9, if_neg c11, if_pos c13, if_neg c14]
                  exact W.zret (v := (1 : Int32)) hx hb hr rfl (fun t ht hW => ⟨⟨(1 : Int32), (), rfl, e9.symm, trivial⟩, hS.F ht⟩) hS.2.2 dX0_holds_105
              · skip
                refine lv_tableOut (tgt := 106) hx hb dX0_holds_1 (by have nc1 := lv_neT c1 (show (0 : Int32).toInt = 0 from by decide); have nc3 := lv_neT c3 (show (1 : Int32).toInt = 1 from by decide); have nc5 := lv_neT c5 (show (2 : Int32).toInt = 2 from by decide); have nc7 := lv_neT c7 (show (3 : Int32).toInt = 3 from by decide); have nc9 := lv_neT c9 (show (4 : Int32).toInt = 4 from by decide); have nc11 := lv_neT c11 (show (5 : Int32).toInt = 5 from by decide); have nc13 := lv_neT c13 (show (6 : Int32).toInt = 6 from by decide); omega) (by decide) ?_
                refine lv_iload_n hx hb dX0_holds_106 rfl (lv_at hl 1 rfl) ?_
                refine pu_l (v := S0_unsigned xa) (As := [.int xa]) (rest := []) ⟨hx, hb, hml, hown, hts⟩ (c0_unsigned l xa ) gX0_holds_X0_unsigned rfl hdX0_unsigned ⟨Nat.le_of_ble_eq_true rfl, Nat.le_of_ble_eq_true rfl⟩ hl.1 rfl (Nat.le_of_ble_eq_true rfl) dX0_holds_107 ⟨Nat.zero_le _, Nat.zero_le _⟩ hP hS (fun H locs hP hS => ?_)
                refine lv_iload_n hx hb dX0_holds_110 rfl (lv_at hl 2 rfl) ?_
                refine pu_l (v := S0_unsigned ya) (As := [.int ya]) (rest := [.long (S0_unsigned xa)]) ⟨hx, hb, hml, hown, hts⟩ (c0_unsigned l ya ) gX0_holds_X0_unsigned rfl hdX0_unsigned ⟨Nat.le_of_ble_eq_true rfl, Nat.le_of_ble_eq_true rfl⟩ hl.1 rfl (Nat.le_of_ble_eq_true rfl) dX0_holds_111 ⟨Nat.zero_le _, Nat.zero_le _⟩ hP hS (fun H locs hP hS => ?_)
                refine W.lcmp hx hb dX0_holds_114 ?_
                refine lv_if_lt (tgt := 122) hx hb dX0_holds_115 (by decide) (fun (c15 : (lg_cmp (S0_unsigned xa) (S0_unsigned ya)) < 0) => ?_) (fun (c15 : ¬ (lg_cmp (S0_unsigned xa) (S0_unsigned ya)) < 0) => ?_)
                · refine lv_iconst (v := 0) hx hb dX0_holds_122 (by decide) ?_
                  have e9 : S0_holds ta xa ya = (0 : Int32) := by rw [S0_holds, if_neg c1, if_neg c3, if_neg c5, if_neg c7, if_neg c9, if_neg c11, if_neg c13, if_pos c15]
                  exact W.zret (v := (0 : Int32)) hx hb hr rfl (fun t ht hW => ⟨⟨(0 : Int32), (), rfl, e9.symm, trivial⟩, hS.F ht⟩) hS.2.2 dX0_holds_123
                · refine lv_iconst (v := 1) hx hb dX0_holds_118 (by decide) ?_
                  refine lv_goto (tgt := 123) hx hb dX0_holds_119 (by decide) ?_
                  have e9 : S0_holds ta xa ya = (1 : Int32) := by rw [S0_holds, if_neg c1, if_neg c3, if_neg c5, if_neg c7, if_neg c9, if_neg c11, if_neg c13, if_neg c15]
                  exact W.zret (v := (1 : Int32)) hx hb hr rfl (fun t ht hW => ⟨⟨(1 : Int32), (), rfl, e9.symm, trivial⟩, hS.F ht⟩) hS.2.2 dX0_holds_123
