theorem iwX1_number : ∀ w ∈ wsX10, w ∈ wsX1_number := by decide +kernel
theorem flX1_number_39 : Cond.fieldLink RX1 39 "WordMachineModel" "pc" "I" ∈ wsX1_number := by decide +kernel
theorem flX1_number_53 : Cond.fieldLink RX1 53 "WordMachineModel" "d" "I" ∈ wsX1_number := by decide +kernel
theorem flX1_number_56 : Cond.fieldLink RX1 56 "WordMachineModel" "t" "I" ∈ wsX1_number := by decide +kernel
theorem flX1_number_59 : Cond.fieldLink RX1 59 "WordMachineModel" "x" "J" ∈ wsX1_number := by decide +kernel
theorem flX1_number_63 : Cond.fieldLink RX1 63 "WordMachineModel" "y" "J" ∈ wsX1_number := by decide +kernel
theorem flX1_number_66 : Cond.fieldLink RX1 66 "WordMachineModel" "s" "I" ∈ wsX1_number := by decide +kernel
theorem flX1_number_73 : Cond.fieldLink RX1 73 "WordMachineModel" "immediate" "I" ∈ wsX1_number := by decide +kernel
theorem ctX1_number_96 : Cond.constantLong RX1 96 (4096) ∈ wsX1_number := by decide +kernel
theorem hdX1_number : yX1_number.cls = RX1 ∧ yX1_number.cls ≠ "java/lang/invoke/MethodHandle" ∧ yX1_number.cls ≠ "java/lang/invoke/VarHandle" ∧ (parseMethodDescriptor yX1_number.desc).map (fun d => d.parameters.length) = some 2 := by decide +kernel
set_option maxHeartbeats 4000000 in
set_option maxRecDepth 100000 in
theorem c1_number (l : Launch) {D : va_G} {cI cJ cB : ClassId} {h q1 q2 q3 : Nat} (hap : ap4 h q1 q2 q3) (oa : Int32) (wa : Int32) (u : MS) (hd : M_d u < 32) (hy : ¬ M_y u = 0 → ¬ S1_signed (M_y u) = 0) : Ini l yX1_number wsX1_number 2 56 D (ty1 cI cJ cB) (wa0 h q1 q2 q3) [.ref h, .int oa, .int wa] (ww1 cI cJ cB h q1 q2 q3 u) (ww1 cI cJ cB h q1 q2 q3 (S1_number oa wa u).2) (S1_number oa wa u).1 := by
  refine Met.ofW (cc := cX1_number) (maxL := 5) (ret := (some .int)) (by decide) rfl ?_
  intro p e s m args below meth c s₁ B hml hv
  obtain ⟨rfl, hP, hK⟩ := hv
  have hx := B.exec
  have hb := B.bytes
  have hr := B.returns
  have hts := atoms_spec (ws := wsX1_number) B.pre
  have hown : s.vm.findClass RX1 = some m.cls := findClass_of_methodNamed B.named
  have hlocks := B.notSynchronized
  have hS : va_S (wa0 h q1 q2 q3) s.heap s.heap [] := va_S.rf
  have hl := lv_entry ([.ref h, .int oa, .int wa]) (n := 5) (Nat.le_of_ble_eq_true rfl)
  rw [lg_entry_eq]
  generalize (lg_sl ([.ref h, .int oa, .int wa]) ++ List.replicate (5 - (lg_sl ([.ref h, .int oa, .int wa])).length) Slot.unset).toArray = ls at hl ⊢
  have hl : lv_has ls 5 [(0, .ref h), (1, .int oa), (2, .int wa)] := hl
  refine lv_iload_n hx hb dX1_number_0 rfl (lv_at hl 1 rfl) ?_
  refine lv_bipush (v := 55) hx hb dX1_number_1 (by decide) ?_
  refine lv_icmp_eq (tgt := 12) hx hb dX1_number_3 (by decide) (fun (c1 : oa = 55) => ?_) (fun (c1 : ¬ oa = 55) => ?_)
  · refine lv_aload_n hx hb dX1_number_12 rfl (lv_at hl 0 rfl) ?_
    refine lv_aload_n hx hb dX1_number_13 rfl (lv_at hl 0 rfl) ?_
    refine va_get (D := D) (ci := 1) (v := .int (M_d u)) (C := RX1) (T := TX1) (N := 12) hx hb hts iwX1_number hown hK hP 0 rfl rfl 6 (by decide) (hts (.fieldLink RX1 53 "WordMachineModel" "d" "I") flX1_number_53) (fun _ h9 => h9) rfl dX1_number_14 ?_
    refine lv_iload_n hx hb dX1_number_17 rfl (lv_at hl 2 rfl) ?_
    refine lv_bipush (v := 12) hx hb dX1_number_18 (by decide) ?_
    refine lv_ishr hx hb dX1_number_20 ?_
    refine lv_i2l (v := (wa >>> ((12 : Int32) &&& 31)).toInt64) hx hb dX1_number_21 rfl ?_
    refine lv_ldc2 hx hb hown (hts (.constantLong RX1 96 (4096)) ctX1_number_96) dX1_number_22 ?_
    refine lv_lmul hx hb dX1_number_25 ?_
    refine lv_iload_n hx hb dX1_number_26 rfl (lv_at hl 1 rfl) ?_
    refine lv_bipush (v := 23) hx hb dX1_number_27 (by decide) ?_
    refine lv_icmp_ne (tgt := 39) hx hb dX1_number_29 (by decide) (fun (c2 : ¬ oa = 23) => ?_) (fun (c2 : oa = 23) => ?_)
    · refine lv_iconst (v := 0) hx hb dX1_number_39 (by decide) ?_
      refine lv_i2l (v := (0 : Int32).toInt64) hx hb dX1_number_40 rfl ?_
      refine lv_ladd hx hb dX1_number_41 ?_
      refine in_v (As := [.int (M_d u), .long ((((wa >>> ((12 : Int32) &&& 31)).toInt64) * 4096) + ((0 : Int32).toInt64))]) (rest := []) (w1 := ww1 cI cJ cB h q1 q2 q3 (S1_give (M_d u) ((((wa >>> ((12 : Int32) &&& 31)).toInt64) * 4096) + ((0 : Int32).toInt64)) u)) ⟨hx, hb, hml, hown, hts⟩ (c1_give l hap (M_d u) ((((wa >>> ((12 : Int32) &&& 31)).toInt64) * 4096) + ((0 : Int32).toInt64)) u hd) gX1_number_X1_give rfl hdX1_give ⟨Nat.le_of_ble_eq_true rfl, Nat.le_of_ble_eq_true rfl⟩ hK rfl rfl hl.1 rfl (Nat.le_of_ble_eq_true rfl) dX1_number_42 ⟨Nat.zero_le _, Nat.zero_le _⟩ hP hS (fun _ h => h) (fun H locs hP hS _ _ => ?_)
      refine lv_iconst (v := 0) hx hb dX1_number_45 (by decide) ?_
      have e9 : S1_number oa wa u = ((0 : Int32), S1_give (M_d u) ((((wa >>> ((12 : Int32) &&& 31)).toInt64) * 4096) + ((0 : Int32).toInt64)) u) := by rw [S1_number, if_pos c1, if_neg c2]
      exact W.iret (v := (0 : Int32)) hx hb hr (fun t ht hW => ⟨⟨(0 : Int32), (), rfl, by rw [e9], by show va_P _ _ _ t.heap; rw [e9, ht]; exact hP⟩, hS.F ht⟩) hS.2.2 dX1_number_46
    · refine lv_aload_n hx hb dX1_number_32 rfl (lv_at hl 0 rfl) ?_
      refine va_get (D := D) (ci := 1) (v := .int (M_pc u)) (C := RX1) (T := TX1) (N := 12) hx hb hts iwX1_number hown hK hP 0 rfl rfl 2 (by decide) (hts (.fieldLink RX1 39 "WordMachineModel" "pc" "I") flX1_number_39) (fun _ h9 => h9) rfl dX1_number_33 ?_
      refine lv_goto (tgt := 40) hx hb dX1_number_36 (by decide) ?_
      refine lv_i2l (v := (M_pc u).toInt64) hx hb dX1_number_40 rfl ?_
      refine lv_ladd hx hb dX1_number_41 ?_
      refine in_v (As := [.int (M_d u), .long ((((wa >>> ((12 : Int32) &&& 31)).toInt64) * 4096) + ((M_pc u).toInt64))]) (rest := []) (w1 := ww1 cI cJ cB h q1 q2 q3 (S1_give (M_d u) ((((wa >>> ((12 : Int32) &&& 31)).toInt64) * 4096) + ((M_pc u).toInt64)) u)) ⟨hx, hb, hml, hown, hts⟩ (c1_give l hap (M_d u) ((((wa >>> ((12 : Int32) &&& 31)).toInt64) * 4096) + ((M_pc u).toInt64)) u hd) gX1_number_X1_give rfl hdX1_give ⟨Nat.le_of_ble_eq_true rfl, Nat.le_of_ble_eq_true rfl⟩ hK rfl rfl hl.1 rfl (Nat.le_of_ble_eq_true rfl) dX1_number_42 ⟨Nat.zero_le _, Nat.zero_le _⟩ hP hS (fun _ h => h) (fun H locs hP hS _ _ => ?_)
      refine lv_iconst (v := 0) hx hb dX1_number_45 (by decide) ?_
      have e9 : S1_number oa wa u = ((0 : Int32), S1_give (M_d u) ((((wa >>> ((12 : Int32) &&& 31)).toInt64) * 4096) + ((M_pc u).toInt64)) u) := by rw [S1_number, if_pos c1, if_pos c2]
      exact W.iret (v := (0 : Int32)) hx hb hr (fun t ht hW => ⟨⟨(0 : Int32), (), rfl, by rw [e9], by show va_P _ _ _ t.heap; rw [e9, ht]; exact hP⟩, hS.F ht⟩) hS.2.2 dX1_number_46
  · refine lv_iload_n hx hb dX1_number_6 rfl (lv_at hl 1 rfl) ?_
    refine lv_bipush (v := 23) hx hb dX1_number_7 (by decide) ?_
    refine lv_icmp_ne (tgt := 47) hx hb dX1_number_9 (by decide) (fun (c3 : ¬ oa = 23) => ?_) (fun (c3 : oa = 23) => ?_)
    · refine lv_iload_n hx hb dX1_number_47 rfl (lv_at hl 1 rfl) ?_
      refine lv_bipush (v := 19) hx hb dX1_number_48 (by decide) ?_
      refine lv_icmp_ne (tgt := 175) hx hb dX1_number_50 (by decide) (fun (c4 : ¬ oa = 19) => ?_) (fun (c4 : oa = 19) => ?_)
      · refine lv_iload_n hx hb dX1_number_175 rfl (lv_at hl 1 rfl) ?_
        refine lv_bipush (v := 51) hx hb dX1_number_176 (by decide) ?_
        refine lv_icmp_eq (tgt := 183) hx hb dX1_number_178 (by decide) (fun (c5 : oa = 51) => ?_) (fun (c5 : ¬ oa = 51) => ?_)
        · refine lv_aload_n hx hb dX1_number_183 rfl (lv_at hl 0 rfl) ?_
          refine va_get (D := D) (ci := 1) (v := .int (M_s u)) (C := RX1) (T := TX1) (N := 12) hx hb hts iwX1_number hown hK hP 0 rfl rfl 8 (by decide) (hts (.fieldLink RX1 66 "WordMachineModel" "s" "I") flX1_number_66) (fun _ h9 => h9) rfl dX1_number_184 ?_
          refine lv_iconst (v := 1) hx hb dX1_number_187 (by decide) ?_
          refine lv_icmp_ne (tgt := 206) hx hb dX1_number_188 (by decide) (fun (c6 : ¬ (M_s u) = 1) => ?_) (fun (c6 : (M_s u) = 1) => ?_)
          · refine lv_aload_n hx hb dX1_number_206 rfl (lv_at hl 0 rfl) ?_
            refine va_get (D := D) (ci := 1) (v := .int (M_s u)) (C := RX1) (T := TX1) (N := 12) hx hb hts iwX1_number hown hK hP 0 rfl rfl 8 (by decide) (hts (.fieldLink RX1 66 "WordMachineModel" "s" "I") flX1_number_66) (fun _ h9 => h9) rfl dX1_number_207 ?_
            refine lv_if_eq (tgt := 237) hx hb dX1_number_210 (by decide) (fun (c7 : (M_s u) = 0) => ?_) (fun (c7 : ¬ (M_s u) = 0) => ?_)
            · refine lv_aload_n hx hb dX1_number_237 rfl (lv_at hl 0 rfl) ?_
              refine lv_aload_n hx hb dX1_number_238 rfl (lv_at hl 0 rfl) ?_
              refine va_get (D := D) (ci := 1) (v := .int (M_d u)) (C := RX1) (T := TX1) (N := 12) hx hb hts iwX1_number hown hK hP 0 rfl rfl 6 (by decide) (hts (.fieldLink RX1 53 "WordMachineModel" "d" "I") flX1_number_53) (fun _ h9 => h9) rfl dX1_number_239 ?_
              refine lv_aload_n hx hb dX1_number_242 rfl (lv_at hl 0 rfl) ?_
              refine va_get (D := D) (ci := 1) (v := .int (M_t u)) (C := RX1) (T := TX1) (N := 12) hx hb hts iwX1_number hown hK hP 0 rfl rfl 7 (by decide) (hts (.fieldLink RX1 56 "WordMachineModel" "t" "I") flX1_number_56) (fun _ h9 => h9) rfl dX1_number_243 ?_
              refine lv_aload_n hx hb dX1_number_246 rfl (lv_at hl 0 rfl) ?_
              refine va_get (D := D) (ci := 1) (v := .int (M_s u)) (C := RX1) (T := TX1) (N := 12) hx hb hts iwX1_number hown hK hP 0 rfl rfl 8 (by decide) (hts (.fieldLink RX1 66 "WordMachineModel" "s" "I") flX1_number_66) (fun _ h9 => h9) rfl dX1_number_247 ?_
              refine lv_aload_n hx hb dX1_number_250 rfl (lv_at hl 0 rfl) ?_
              refine va_get (D := D) (ci := 1) (v := .long (M_x u)) (C := RX1) (T := TX1) (N := 12) hx hb hts iwX1_number hown hK hP 0 rfl rfl 10 (by decide) (hts (.fieldLink RX1 59 "WordMachineModel" "x" "J") flX1_number_59) (fun _ h9 => h9) rfl dX1_number_251 ?_
              refine lv_aload_n hx hb dX1_number_254 rfl (lv_at hl 0 rfl) ?_
              refine va_get (D := D) (ci := 1) (v := .long (M_y u)) (C := RX1) (T := TX1) (N := 12) hx hb hts iwX1_number hown hK hP 0 rfl rfl 11 (by decide) (hts (.fieldLink RX1 63 "WordMachineModel" "y" "J") flX1_number_63) (fun _ h9 => h9) rfl dX1_number_255 ?_
              refine pu_l (v := S1_made (M_t u) (M_s u) (M_x u) (M_y u)) (As := [.int (M_t u), .int (M_s u), .long (M_x u), .long (M_y u)]) (rest := [.int (M_d u), .ref h]) ⟨hx, hb, hml, hown, hts⟩ (c1_made l (M_t u) (M_s u) (M_x u) (M_y u) ) gX1_number_X1_made rfl hdX1_made ⟨Nat.le_of_ble_eq_true rfl, Nat.le_of_ble_eq_true rfl⟩ hl.1 rfl (Nat.le_of_ble_eq_true rfl) dX1_number_258 ⟨Nat.zero_le _, Nat.zero_le _⟩ hP hS (fun H locs hP hS => ?_)
              refine in_v (As := [.int (M_d u), .long (S1_made (M_t u) (M_s u) (M_x u) (M_y u))]) (rest := []) (w1 := ww1 cI cJ cB h q1 q2 q3 (S1_give (M_d u) (S1_made (M_t u) (M_s u) (M_x u) (M_y u)) u)) ⟨hx, hb, hml, hown, hts⟩ (c1_give l hap (M_d u) (S1_made (M_t u) (M_s u) (M_x u) (M_y u)) u hd) gX1_number_X1_give rfl hdX1_give ⟨Nat.le_of_ble_eq_true rfl, Nat.le_of_ble_eq_true rfl⟩ hK rfl rfl hl.1 rfl (Nat.le_of_ble_eq_true rfl) dX1_number_261 ⟨Nat.zero_le _, Nat.zero_le _⟩ hP hS (fun _ h => h) (fun H locs hP hS _ _ => ?_)
              refine lv_goto (tgt := 269) hx hb dX1_number_264 (by decide) ?_
              refine lv_iconst (v := 0) hx hb dX1_number_269 (by decide) ?_
              have e9 : S1_number oa wa u = ((0 : Int32), S1_give (M_d u) (S1_made (M_t u) (M_s u) (M_x u) (M_y u)) u) := by rw [S1_number, if_neg c1, if_neg c3, if_neg c4, if_pos c5, if_neg c6, if_pos c7]
              exact W.iret (v := (0 : Int32)) hx hb hr (fun t ht hW => ⟨⟨(0 : Int32), (), rfl, by rw [e9], by show va_P _ _ _ t.heap; rw [e9, ht]; exact hP⟩, hS.F ht⟩) hS.2.2 dX1_number_270
            · refine lv_aload_n hx hb dX1_number_213 rfl (lv_at hl 0 rfl) ?_
              refine va_get (D := D) (ci := 1) (v := .int (M_s u)) (C := RX1) (T := TX1) (N := 12) hx hb hts iwX1_number hown hK hP 0 rfl rfl 8 (by decide) (hts (.fieldLink RX1 66 "WordMachineModel" "s" "I") flX1_number_66) (fun _ h9 => h9) rfl dX1_number_214 ?_
              refine lv_bipush (v := 32) hx hb dX1_number_217 (by decide) ?_
              refine lv_icmp_ne (tgt := 267) hx hb dX1_number_219 (by decide) (fun (c8 : ¬ (M_s u) = 32) => ?_) (fun (c8 : (M_s u) = 32) => ?_)
              · refine lv_iconst (v := 3) hx hb dX1_number_267 (by decide) ?_
                have e9 : S1_number oa wa u = ((3 : Int32), u) := by rw [S1_number, if_neg c1, if_neg c3, if_neg c4, if_pos c5, if_neg c6, if_neg c7, if_neg c8]
                exact W.iret (v := (3 : Int32)) hx hb hr (fun t ht hW => ⟨⟨(3 : Int32), (), rfl, by rw [e9], by show va_P _ _ _ t.heap; rw [e9, ht]; exact hP⟩, hS.F ht⟩) hS.2.2 dX1_number_268
              · refine lv_aload_n hx hb dX1_number_222 rfl (lv_at hl 0 rfl) ?_
                refine va_get (D := D) (ci := 1) (v := .int (M_t u)) (C := RX1) (T := TX1) (N := 12) hx hb hts iwX1_number hown hK hP 0 rfl rfl 7 (by decide) (hts (.fieldLink RX1 56 "WordMachineModel" "t" "I") flX1_number_56) (fun _ h9 => h9) rfl dX1_number_223 ?_
                refine lv_if_eq (tgt := 237) hx hb dX1_number_226 (by decide) (fun (c9 : (M_t u) = 0) => ?_) (fun (c9 : ¬ (M_t u) = 0) => ?_)
                · refine lv_aload_n hx hb dX1_number_237 rfl (lv_at hl 0 rfl) ?_
                  refine lv_aload_n hx hb dX1_number_238 rfl (lv_at hl 0 rfl) ?_
                  refine va_get (D := D) (ci := 1) (v := .int (M_d u)) (C := RX1) (T := TX1) (N := 12) hx hb hts iwX1_number hown hK hP 0 rfl rfl 6 (by decide) (hts (.fieldLink RX1 53 "WordMachineModel" "d" "I") flX1_number_53) (fun _ h9 => h9) rfl dX1_number_239 ?_
                  refine lv_aload_n hx hb dX1_number_242 rfl (lv_at hl 0 rfl) ?_
                  refine va_get (D := D) (ci := 1) (v := .int (M_t u)) (C := RX1) (T := TX1) (N := 12) hx hb hts iwX1_number hown hK hP 0 rfl rfl 7 (by decide) (hts (.fieldLink RX1 56 "WordMachineModel" "t" "I") flX1_number_56) (fun _ h9 => h9) rfl dX1_number_243 ?_
                  refine lv_aload_n hx hb dX1_number_246 rfl (lv_at hl 0 rfl) ?_
                  refine va_get (D := D) (ci := 1) (v := .int (M_s u)) (C := RX1) (T := TX1) (N := 12) hx hb hts iwX1_number hown hK hP 0 rfl rfl 8 (by decide) (hts (.fieldLink RX1 66 "WordMachineModel" "s" "I") flX1_number_66) (fun _ h9 => h9) rfl dX1_number_247 ?_
                  refine lv_aload_n hx hb dX1_number_250 rfl (lv_at hl 0 rfl) ?_
                  refine va_get (D := D) (ci := 1) (v := .long (M_x u)) (C := RX1) (T := TX1) (N := 12) hx hb hts iwX1_number hown hK hP 0 rfl rfl 10 (by decide) (hts (.fieldLink RX1 59 "WordMachineModel" "x" "J") flX1_number_59) (fun _ h9 => h9) rfl dX1_number_251 ?_
                  refine lv_aload_n hx hb dX1_number_254 rfl (lv_at hl 0 rfl) ?_
                  refine va_get (D := D) (ci := 1) (v := .long (M_y u)) (C := RX1) (T := TX1) (N := 12) hx hb hts iwX1_number hown hK hP 0 rfl rfl 11 (by decide) (hts (.fieldLink RX1 63 "WordMachineModel" "y" "J") flX1_number_63) (fun _ h9 => h9) rfl dX1_number_255 ?_
                  refine pu_l (v := S1_made (M_t u) (M_s u) (M_x u) (M_y u)) (As := [.int (M_t u), .int (M_s u), .long (M_x u), .long (M_y u)]) (rest := [.int (M_d u), .ref h]) ⟨hx, hb, hml, hown, hts⟩ (c1_made l (M_t u) (M_s u) (M_x u) (M_y u) ) gX1_number_X1_made rfl hdX1_made ⟨Nat.le_of_ble_eq_true rfl, Nat.le_of_ble_eq_true rfl⟩ hl.1 rfl (Nat.le_of_ble_eq_true rfl) dX1_number_258 ⟨Nat.zero_le _, Nat.zero_le _⟩ hP hS (fun H locs hP hS => ?_)
                  refine in_v (As := [.int (M_d u), .long (S1_made (M_t u) (M_s u) (M_x u) (M_y u))]) (rest := []) (w1 := ww1 cI cJ cB h q1 q2 q3 (S1_give (M_d u) (S1_made (M_t u) (M_s u) (M_x u) (M_y u)) u)) ⟨hx, hb, hml, hown, hts⟩ (c1_give l hap (M_d u) (S1_made (M_t u) (M_s u) (M_x u) (M_y u)) u hd) gX1_number_X1_give rfl hdX1_give ⟨Nat.le_of_ble_eq_true rfl, Nat.le_of_ble_eq_true rfl⟩ hK rfl rfl hl.1 rfl (Nat.le_of_ble_eq_true rfl) dX1_number_261 ⟨Nat.zero_le _, Nat.zero_le _⟩ hP hS (fun _ h => h) (fun H locs hP hS _ _ => ?_)
                  refine lv_goto (tgt := 269) hx hb dX1_number_264 (by decide) ?_
                  refine lv_iconst (v := 0) hx hb dX1_number_269 (by decide) ?_
                  have e9 : S1_number oa wa u = ((0 : Int32), S1_give (M_d u) (S1_made (M_t u) (M_s u) (M_x u) (M_y u)) u) := by rw [S1_number, if_neg c1, if_neg c3, if_neg c4, if_pos c5, if_neg c6, if_neg c7, if_pos c8, if_pos c9]
                  exact W.iret (v := (0 : Int32)) hx hb hr (fun t ht hW => ⟨⟨(0 : Int32), (), rfl, by rw [e9], by show va_P _ _ _ t.heap; rw [e9, ht]; exact hP⟩, hS.F ht⟩) hS.2.2 dX1_number_270
                · refine lv_aload_n hx hb dX1_number_229 rfl (lv_at hl 0 rfl) ?_
                  refine va_get (D := D) (ci := 1) (v := .int (M_t u)) (C := RX1) (T := TX1) (N := 12) hx hb hts iwX1_number hown hK hP 0 rfl rfl 7 (by decide) (hts (.fieldLink RX1 56 "WordMachineModel" "t" "I") flX1_number_56) (fun _ h9 => h9) rfl dX1_number_230 ?_
                  refine lv_iconst (v := 5) hx hb dX1_number_233 (by decide) ?_
                  refine lv_icmp_ne (tgt := 267) hx hb dX1_number_234 (by decide) (fun (c10 : ¬ (M_t u) = 5) => ?_) (fun (c10 : (M_t u) = 5) => ?_)
                  · refine lv_iconst (v := 3) hx hb dX1_number_267 (by decide) ?_
                    have e9 : S1_number oa wa u = ((3 : Int32), u) := by rw [S1_number, if_neg c1, if_neg c3, if_neg c4, if_pos c5, if_neg c6, if_neg c7, if_pos c8, if_neg c9, if_neg c10]
                    exact W.iret (v := (3 : Int32)) hx hb hr (fun t ht hW => ⟨⟨(3 : Int32), (), rfl, by rw [e9], by show va_P _ _ _ t.heap; rw [e9, ht]; exact hP⟩, hS.F ht⟩) hS.2.2 dX1_number_268
                  · refine lv_aload_n hx hb dX1_number_237 rfl (lv_at hl 0 rfl) ?_
                    refine lv_aload_n hx hb dX1_number_238 rfl (lv_at hl 0 rfl) ?_
                    refine va_get (D := D) (ci := 1) (v := .int (M_d u)) (C := RX1) (T := TX1) (N := 12) hx hb hts iwX1_number hown hK hP 0 rfl rfl 6 (by decide) (hts (.fieldLink RX1 53 "WordMachineModel" "d" "I") flX1_number_53) (fun _ h9 => h9) rfl dX1_number_239 ?_
                    refine lv_aload_n hx hb dX1_number_242 rfl (lv_at hl 0 rfl) ?_
                    refine va_get (D := D) (ci := 1) (v := .int (M_t u)) (C := RX1) (T := TX1) (N := 12) hx hb hts iwX1_number hown hK hP 0 rfl rfl 7 (by decide) (hts (.fieldLink RX1 56 "WordMachineModel" "t" "I") flX1_number_56) (fun _ h9 => h9) rfl dX1_number_243 ?_
                    refine lv_aload_n hx hb dX1_number_246 rfl (lv_at hl 0 rfl) ?_
                    refine va_get (D := D) (ci := 1) (v := .int (M_s u)) (C := RX1) (T := TX1) (N := 12) hx hb hts iwX1_number hown hK hP 0 rfl rfl 8 (by decide) (hts (.fieldLink RX1 66 "WordMachineModel" "s" "I") flX1_number_66) (fun _ h9 => h9) rfl dX1_number_247 ?_
                    refine lv_aload_n hx hb dX1_number_250 rfl (lv_at hl 0 rfl) ?_
                    refine va_get (D := D) (ci := 1) (v := .long (M_x u)) (C := RX1) (T := TX1) (N := 12) hx hb hts iwX1_number hown hK hP 0 rfl rfl 10 (by decide) (hts (.fieldLink RX1 59 "WordMachineModel" "x" "J") flX1_number_59) (fun _ h9 => h9) rfl dX1_number_251 ?_
                    refine lv_aload_n hx hb dX1_number_254 rfl (lv_at hl 0 rfl) ?_
                    refine va_get (D := D) (ci := 1) (v := .long (M_y u)) (C := RX1) (T := TX1) (N := 12) hx hb hts iwX1_number hown hK hP 0 rfl rfl 11 (by decide) (hts (.fieldLink RX1 63 "WordMachineModel" "y" "J") flX1_number_63) (fun _ h9 => h9) rfl dX1_number_255 ?_
                    refine pu_l (v := S1_made (M_t u) (M_s u) (M_x u) (M_y u)) (As := [.int (M_t u), .int (M_s u), .long (M_x u), .long (M_y u)]) (rest := [.int (M_d u), .ref h]) ⟨hx, hb, hml, hown, hts⟩ (c1_made l (M_t u) (M_s u) (M_x u) (M_y u) ) gX1_number_X1_made rfl hdX1_made ⟨Nat.le_of_ble_eq_true rfl, Nat.le_of_ble_eq_true rfl⟩ hl.1 rfl (Nat.le_of_ble_eq_true rfl) dX1_number_258 ⟨Nat.zero_le _, Nat.zero_le _⟩ hP hS (fun H locs hP hS => ?_)
                    refine in_v (As := [.int (M_d u), .long (S1_made (M_t u) (M_s u) (M_x u) (M_y u))]) (rest := []) (w1 := ww1 cI cJ cB h q1 q2 q3 (S1_give (M_d u) (S1_made (M_t u) (M_s u) (M_x u) (M_y u)) u)) ⟨hx, hb, hml, hown, hts⟩ (c1_give l hap (M_d u) (S1_made (M_t u) (M_s u) (M_x u) (M_y u)) u hd) gX1_number_X1_give rfl hdX1_give ⟨Nat.le_of_ble_eq_true rfl, Nat.le_of_ble_eq_true rfl⟩ hK rfl rfl hl.1 rfl (Nat.le_of_ble_eq_true rfl) dX1_number_261 ⟨Nat.zero_le _, Nat.zero_le _⟩ hP hS (fun _ h => h) (fun H locs hP hS _ _ => ?_)
                    refine lv_goto (tgt := 269) hx hb dX1_number_264 (by decide) ?_
                    refine lv_iconst (v := 0) hx hb dX1_number_269 (by decide) ?_
                    have e9 : S1_number oa wa u = ((0 : Int32), S1_give (M_d u) (S1_made (M_t u) (M_s u) (M_x u) (M_y u)) u) := by rw [S1_number, if_neg c1, if_neg c3, if_neg c4, if_pos c5, if_neg c6, if_neg c7, if_pos c8, if_neg c9, if_pos c10]
                    exact W.iret (v := (0 : Int32)) hx hb hr (fun t ht hW => ⟨⟨(0 : Int32), (), rfl, by rw [e9], by show va_P _ _ _ t.heap; rw [e9, ht]; exact hP⟩, hS.F ht⟩) hS.2.2 dX1_number_270
          · refine lv_aload_n hx hb dX1_number_191 rfl (lv_at hl 0 rfl) ?_
            refine lv_aload_n hx hb dX1_number_192 rfl (lv_at hl 0 rfl) ?_
            refine va_get (D := D) (ci := 1) (v := .int (M_d u)) (C := RX1) (T := TX1) (N := 12) hx hb hts iwX1_number hown hK hP 0 rfl rfl 6 (by decide) (hts (.fieldLink RX1 53 "WordMachineModel" "d" "I") flX1_number_53) (fun _ h9 => h9) rfl dX1_number_193 ?_
            refine lv_aload_n hx hb dX1_number_196 rfl (lv_at hl 0 rfl) ?_
            refine in_l (v := S1_product u) (As := []) (rest := [.int (M_d u), .ref h]) (w1 := ww1 cI cJ cB h q1 q2 q3 u) ⟨hx, hb, hml, hown, hts⟩ (c1_product l hap  u hy) gX1_number_X1_product rfl hdX1_product ⟨Nat.le_of_ble_eq_true rfl, Nat.le_of_ble_eq_true rfl⟩ hK rfl rfl hl.1 rfl (Nat.le_of_ble_eq_true rfl) dX1_number_197 ⟨Nat.zero_le _, Nat.zero_le _⟩ hP hS (fun _ h => h) (fun H locs hP hS _ _ => ?_)
            refine in_v (As := [.int (M_d u), .long (S1_product u)]) (rest := []) (w1 := ww1 cI cJ cB h q1 q2 q3 (S1_give (M_d u) (S1_product u) u)) ⟨hx, hb, hml, hown, hts⟩ (c1_give l hap (M_d u) (S1_product u) u hd) gX1_number_X1_give rfl hdX1_give ⟨Nat.le_of_ble_eq_true rfl, Nat.le_of_ble_eq_true rfl⟩ hK rfl rfl hl.1 rfl (Nat.le_of_ble_eq_true rfl) dX1_number_200 ⟨Nat.zero_le _, Nat.zero_le _⟩ hP hS (fun _ h => h) (fun H locs hP hS _ _ => ?_)
            refine lv_goto (tgt := 269) hx hb dX1_number_203 (by decide) ?_
            refine lv_iconst (v := 0) hx hb dX1_number_269 (by decide) ?_
            have e9 : S1_number oa wa u = ((0 : Int32), S1_give (M_d u) (S1_product u) u) := by rw [S1_number, if_neg c1, if_neg c3, if_neg c4, if_pos c5, if_pos c6]
            exact W.iret (v := (0 : Int32)) hx hb hr (fun t ht hW => ⟨⟨(0 : Int32), (), rfl, by rw [e9], by show va_P _ _ _ t.heap; rw [e9, ht]; exact hP⟩, hS.F ht⟩) hS.2.2 dX1_number_270
        · refine lv_iconst (v := 3) hx hb dX1_number_181 (by decide) ?_
          have e9 : S1_number oa wa u = ((3 : Int32), u) := by rw [S1_number, if_neg c1, if_neg c3, if_neg c4, if_neg c5]
          exact W.iret (v := (3 : Int32)) hx hb hr (fun t ht hW => ⟨⟨(3 : Int32), (), rfl, by rw [e9], by show va_P _ _ _ t.heap; rw [e9, ht]; exact hP⟩, hS.F ht⟩) hS.2.2 dX1_number_182
      · refine lv_iload_n hx hb dX1_number_53 rfl (lv_at hl 2 rfl) ?_
        refine lv_i2l (v := wa.toInt64) hx hb dX1_number_54 rfl ?_
        refine pu_l (v := S1_plain wa.toInt64) (As := [.long wa.toInt64]) (rest := []) ⟨hx, hb, hml, hown, hts⟩ (c1_plain l wa.toInt64 ) gX1_number_X1_plain rfl hdX1_plain ⟨Nat.le_of_ble_eq_true rfl, Nat.le_of_ble_eq_true rfl⟩ hl.1 rfl (Nat.le_of_ble_eq_true rfl) dX1_number_55 ⟨Nat.zero_le _, Nat.zero_le _⟩ hP hS (fun H locs hP hS => ?_)
        refine lv_bipush (v := 20) hx hb dX1_number_58 (by decide) ?_
        refine lv_lshr (v := l_shr (S1_plain wa.toInt64) 20) hx hb dX1_number_60 rfl ?_
        refine lv_l2i (v := (l_shr (S1_plain wa.toInt64) 20).toInt32) hx hb dX1_number_61 rfl ?_
        refine lv_bipush (v := 31) hx hb dX1_number_62 (by decide) ?_
        refine lv_iand hx hb dX1_number_64 ?_
        refine lv_istore_n (lv' := [(3, .int (((l_shr (S1_plain wa.toInt64) 20).toInt32) &&& 31)), (0, .ref h), (1, .int oa), (2, .int wa)]) hx hb dX1_number_65 rfl hl (by decide) rfl (fun ls hl => ?_)
        refine lv_aload_n hx hb dX1_number_66 rfl (lv_at hl 1 rfl) ?_
        refine va_get (D := D) (ci := 1) (v := .int (M_t u)) (C := RX1) (T := TX1) (N := 12) hx hb hts iwX1_number hown hK hP 0 rfl rfl 7 (by decide) (hts (.fieldLink RX1 56 "WordMachineModel" "t" "I") flX1_number_56) (fun _ h9 => h9) rfl dX1_number_67 ?_
        refine lv_iconst (v := 1) hx hb dX1_number_70 (by decide) ?_
        refine lv_icmp_eq (tgt := 82) hx hb dX1_number_71 (by decide) (fun (c11 : (M_t u) = 1) => ?_) (fun (c11 : ¬ (M_t u) = 1) => ?_)
        · refine lv_iconst (v := 1) hx hb dX1_number_82 (by decide) ?_
          refine lv_goto (tgt := 87) hx hb dX1_number_83 (by decide) ?_
          refine lv_istore (lv' := [(4, .int 1), (3, .int (((l_shr (S1_plain wa.toInt64) 20).toInt32) &&& 31)), (0, .ref h), (1, .int oa), (2, .int wa)]) hx hb dX1_number_87 hl (by decide) rfl (fun ls hl => ?_)
          refine lv_iload hx hb dX1_number_89 (lv_at hl 0 rfl) ?_
          refine lv_if_eq (tgt := 120) hx hb dX1_number_91 (by decide) (fun (c12 : (1 : Int32) = 0) => absurd c12 (by decide)) (fun _ => ?_)
          refine lv_aload_n hx hb dX1_number_94 rfl (lv_at hl 2 rfl) ?_
          refine va_get (D := D) (ci := 1) (v := .int (M_s u)) (C := RX1) (T := TX1) (N := 12) hx hb hts iwX1_number hown hK hP 0 rfl rfl 8 (by decide) (hts (.fieldLink RX1 66 "WordMachineModel" "s" "I") flX1_number_66) (fun _ h9 => h9) rfl dX1_number_95 ?_
          refine lv_if_eq (tgt := 120) hx hb dX1_number_98 (by decide) (fun (c13 : (M_s u) = 0) => ?_) (fun (c13 : ¬ (M_s u) = 0) => ?_)
          · refine lv_aload_n hx hb dX1_number_120 rfl (lv_at hl 2 rfl) ?_
            refine lv_aload_n hx hb dX1_number_121 rfl (lv_at hl 2 rfl) ?_
            refine va_get (D := D) (ci := 1) (v := .int (M_d u)) (C := RX1) (T := TX1) (N := 12) hx hb hts iwX1_number hown hK hP 0 rfl rfl 6 (by decide) (hts (.fieldLink RX1 53 "WordMachineModel" "d" "I") flX1_number_53) (fun _ h9 => h9) rfl dX1_number_122 ?_
            refine lv_iload hx hb dX1_number_125 (lv_at hl 0 rfl) ?_
            refine lv_if_eq (tgt := 150) hx hb dX1_number_127 (by decide) (fun (c14 : (1 : Int32) = 0) => absurd c14 (by decide)) (fun _ => ?_)
            refine lv_aload_n hx hb dX1_number_130 rfl (lv_at hl 2 rfl) ?_
            refine va_get (D := D) (ci := 1) (v := .int (M_t u)) (C := RX1) (T := TX1) (N := 12) hx hb hts iwX1_number hown hK hP 0 rfl rfl 7 (by decide) (hts (.fieldLink RX1 56 "WordMachineModel" "t" "I") flX1_number_56) (fun _ h9 => h9) rfl dX1_number_131 ?_
            refine lv_aload_n hx hb dX1_number_134 rfl (lv_at hl 2 rfl) ?_
            refine va_get (D := D) (ci := 1) (v := .int (M_s u)) (C := RX1) (T := TX1) (N := 12) hx hb hts iwX1_number hown hK hP 0 rfl rfl 8 (by decide) (hts (.fieldLink RX1 66 "WordMachineModel" "s" "I") flX1_number_66) (fun _ h9 => h9) rfl dX1_number_135 ?_
            refine lv_aload_n hx hb dX1_number_138 rfl (lv_at hl 2 rfl) ?_
            refine va_get (D := D) (ci := 1) (v := .long (M_x u)) (C := RX1) (T := TX1) (N := 12) hx hb hts iwX1_number hown hK hP 0 rfl rfl 10 (by decide) (hts (.fieldLink RX1 59 "WordMachineModel" "x" "J") flX1_number_59) (fun _ h9 => h9) rfl dX1_number_139 ?_
            refine lv_iload_n hx hb dX1_number_142 rfl (lv_at hl 1 rfl) ?_
            refine lv_i2l (v := (((l_shr (S1_plain wa.toInt64) 20).toInt32) &&& 31).toInt64) hx hb dX1_number_143 rfl ?_
            refine pu_l (v := S1_made (M_t u) (M_s u) (M_x u) ((((l_shr (S1_plain wa.toInt64) 20).toInt32) &&& 31).toInt64)) (As := [.int (M_t u), .int (M_s u), .long (M_x u), .long ((((l_shr (S1_plain wa.toInt64) 20).toInt32) &&& 31).toInt64)]) (rest := [.int (M_d u), .ref h]) ⟨hx, hb, hml, hown, hts⟩ (c1_made l (M_t u) (M_s u) (M_x u) ((((l_shr (S1_plain wa.toInt64) 20).toInt32) &&& 31).toInt64) ) gX1_number_X1_made rfl hdX1_made ⟨Nat.le_of_ble_eq_true rfl, Nat.le_of_ble_eq_true rfl⟩ hl.1 rfl (Nat.le_of_ble_eq_true rfl) dX1_number_144 ⟨Nat.zero_le _, Nat.zero_le _⟩ hP hS (fun H locs hP hS => ?_)
            refine lv_goto (tgt := 170) hx hb dX1_number_147 (by decide) ?_
            refine in_v (As := [.int (M_d u), .long (S1_made (M_t u) (M_s u) (M_x u) ((((l_shr (S1_plain wa.toInt64) 20).toInt32) &&& 31).toInt64))]) (rest := []) (w1 := ww1 cI cJ cB h q1 q2 q3 (S1_give (M_d u) (S1_made (M_t u) (M_s u) (M_x u) ((((l_shr (S1_plain wa.toInt64) 20).toInt32) &&& 31).toInt64)) u)) ⟨hx, hb, hml, hown, hts⟩ (c1_give l hap (M_d u) (S1_made (M_t u) (M_s u) (M_x u) ((((l_shr (S1_plain wa.toInt64) 20).toInt32) &&& 31).toInt64)) u hd) gX1_number_X1_give rfl hdX1_give ⟨Nat.le_of_ble_eq_true rfl, Nat.le_of_ble_eq_true rfl⟩ hK rfl rfl hl.1 rfl (Nat.le_of_ble_eq_true rfl) dX1_number_170 ⟨Nat.zero_le _, Nat.zero_le _⟩ hP hS (fun _ h => h) (fun H locs hP hS _ _ => ?_)
            refine lv_iconst (v := 0) hx hb dX1_number_173 (by decide) ?_
            have e9 : S1_number oa wa u = ((0 : Int32), S1_give (M_d u) (S1_made (M_t u) (M_s u) (M_x u) ((((l_shr (S1_plain wa.toInt64) 20).toInt32) &&& 31).toInt64)) u) := by rw [S1_number, if_neg c1, if_neg c3, if_pos c4, if_pos c11, if_pos c13]
            exact W.iret (v := (0 : Int32)) hx hb hr (fun t ht hW => ⟨⟨(0 : Int32), (), rfl, by rw [e9], by show va_P _ _ _ t.heap; rw [e9, ht]; exact hP⟩, hS.F ht⟩) hS.2.2 dX1_number_174
          · refine lv_aload_n hx hb dX1_number_101 rfl (lv_at hl 2 rfl) ?_
            refine va_get (D := D) (ci := 1) (v := .int (M_t u)) (C := RX1) (T := TX1) (N := 12) hx hb hts iwX1_number hown hK hP 0 rfl rfl 7 (by decide) (hts (.fieldLink RX1 56 "WordMachineModel" "t" "I") flX1_number_56) (fun _ h9 => h9) rfl dX1_number_102 ?_
            refine lv_iconst (v := 5) hx hb dX1_number_105 (by decide) ?_
            refine lv_icmp_ne (tgt := 118) hx hb dX1_number_106 (by decide) (fun (c15 : ¬ (M_t u) = 5) => ?_) (fun (c15 : (M_t u) = 5) => ?_)
            · refine lv_iconst (v := 3) hx hb dX1_number_118 (by decide) ?_
              have e9 : S1_number oa wa u = ((3 : Int32), u) := by rw [S1_number, if_neg c1, if_neg c3, if_pos c4, if_pos c11, if_neg c13, if_neg c15]
              exact W.iret (v := (3 : Int32)) hx hb hr (fun t ht hW => ⟨⟨(3 : Int32), (), rfl, by rw [e9], by show va_P _ _ _ t.heap; rw [e9, ht]; exact hP⟩, hS.F ht⟩) hS.2.2 dX1_number_119
            · refine lv_aload_n hx hb dX1_number_109 rfl (lv_at hl 2 rfl) ?_
              refine va_get (D := D) (ci := 1) (v := .int (M_s u)) (C := RX1) (T := TX1) (N := 12) hx hb hts iwX1_number hown hK hP 0 rfl rfl 8 (by decide) (hts (.fieldLink RX1 66 "WordMachineModel" "s" "I") flX1_number_66) (fun _ h9 => h9) rfl dX1_number_110 ?_
              refine lv_bipush (v := 32) hx hb dX1_number_113 (by decide) ?_
              refine lv_icmp_eq (tgt := 120) hx hb dX1_number_115 (by decide) (fun (c16 : (M_s u) = 32) => ?_) (fun (c16 : ¬ (M_s u) = 32) => ?_)
              · refine lv_aload_n hx hb dX1_number_120 rfl (lv_at hl 2 rfl) ?_
                refine lv_aload_n hx hb dX1_number_121 rfl (lv_at hl 2 rfl) ?_
                refine va_get (D := D) (ci := 1) (v := .int (M_d u)) (C := RX1) (T := TX1) (N := 12) hx hb hts iwX1_number hown hK hP 0 rfl rfl 6 (by decide) (hts (.fieldLink RX1 53 "WordMachineModel" "d" "I") flX1_number_53) (fun _ h9 => h9) rfl dX1_number_122 ?_
                refine lv_iload hx hb dX1_number_125 (lv_at hl 0 rfl) ?_
                refine lv_if_eq (tgt := 150) hx hb dX1_number_127 (by decide) (fun (c17 : (1 : Int32) = 0) => absurd c17 (by decide)) (fun _ => ?_)
                refine lv_aload_n hx hb dX1_number_130 rfl (lv_at hl 2 rfl) ?_
                refine va_get (D := D) (ci := 1) (v := .int (M_t u)) (C := RX1) (T := TX1) (N := 12) hx hb hts iwX1_number hown hK hP 0 rfl rfl 7 (by decide) (hts (.fieldLink RX1 56 "WordMachineModel" "t" "I") flX1_number_56) (fun _ h9 => h9) rfl dX1_number_131 ?_
                refine lv_aload_n hx hb dX1_number_134 rfl (lv_at hl 2 rfl) ?_
                refine va_get (D := D) (ci := 1) (v := .int (M_s u)) (C := RX1) (T := TX1) (N := 12) hx hb hts iwX1_number hown hK hP 0 rfl rfl 8 (by decide) (hts (.fieldLink RX1 66 "WordMachineModel" "s" "I") flX1_number_66) (fun _ h9 => h9) rfl dX1_number_135 ?_
                refine lv_aload_n hx hb dX1_number_138 rfl (lv_at hl 2 rfl) ?_
                refine va_get (D := D) (ci := 1) (v := .long (M_x u)) (C := RX1) (T := TX1) (N := 12) hx hb hts iwX1_number hown hK hP 0 rfl rfl 10 (by decide) (hts (.fieldLink RX1 59 "WordMachineModel" "x" "J") flX1_number_59) (fun _ h9 => h9) rfl dX1_number_139 ?_
                refine lv_iload_n hx hb dX1_number_142 rfl (lv_at hl 1 rfl) ?_
                refine lv_i2l (v := (((l_shr (S1_plain wa.toInt64) 20).toInt32) &&& 31).toInt64) hx hb dX1_number_143 rfl ?_
                refine pu_l (v := S1_made (M_t u) (M_s u) (M_x u) ((((l_shr (S1_plain wa.toInt64) 20).toInt32) &&& 31).toInt64)) (As := [.int (M_t u), .int (M_s u), .long (M_x u), .long ((((l_shr (S1_plain wa.toInt64) 20).toInt32) &&& 31).toInt64)]) (rest := [.int (M_d u), .ref h]) ⟨hx, hb, hml, hown, hts⟩ (c1_made l (M_t u) (M_s u) (M_x u) ((((l_shr (S1_plain wa.toInt64) 20).toInt32) &&& 31).toInt64) ) gX1_number_X1_made rfl hdX1_made ⟨Nat.le_of_ble_eq_true rfl, Nat.le_of_ble_eq_true rfl⟩ hl.1 rfl (Nat.le_of_ble_eq_true rfl) dX1_number_144 ⟨Nat.zero_le _, Nat.zero_le _⟩ hP hS (fun H locs hP hS => ?_)
                refine lv_goto (tgt := 170) hx hb dX1_number_147 (by decide) ?_
                refine in_v (As := [.int (M_d u), .long (S1_made (M_t u) (M_s u) (M_x u) ((((l_shr (S1_plain wa.toInt64) 20).toInt32) &&& 31).toInt64))]) (rest := []) (w1 := ww1 cI cJ cB h q1 q2 q3 (S1_give (M_d u) (S1_made (M_t u) (M_s u) (M_x u) ((((l_shr (S1_plain wa.toInt64) 20).toInt32) &&& 31).toInt64)) u)) ⟨hx, hb, hml, hown, hts⟩ (c1_give l hap (M_d u) (S1_made (M_t u) (M_s u) (M_x u) ((((l_shr (S1_plain wa.toInt64) 20).toInt32) &&& 31).toInt64)) u hd) gX1_number_X1_give rfl hdX1_give ⟨Nat.le_of_ble_eq_true rfl, Nat.le_of_ble_eq_true rfl⟩ hK rfl rfl hl.1 rfl (Nat.le_of_ble_eq_true rfl) dX1_number_170 ⟨Nat.zero_le _, Nat.zero_le _⟩ hP hS (fun _ h => h) (fun H locs hP hS _ _ => ?_)
                refine lv_iconst (v := 0) hx hb dX1_number_173 (by decide) ?_
                have e9 : S1_number oa wa u = ((0 : Int32), S1_give (M_d u) (S1_made (M_t u) (M_s u) (M_x u) ((((l_shr (S1_plain wa.toInt64) 20).toInt32) &&& 31).toInt64)) u) := by rw [S1_number, if_neg c1, if_neg c3, if_pos c4, if_pos c11, if_neg c13, if_pos c15, if_pos c16]
                exact W.iret (v := (0 : Int32)) hx hb hr (fun t ht hW => ⟨⟨(0 : Int32), (), rfl, by rw [e9], by show va_P _ _ _ t.heap; rw [e9, ht]; exact hP⟩, hS.F ht⟩) hS.2.2 dX1_number_174
              · refine lv_iconst (v := 3) hx hb dX1_number_118 (by decide) ?_
                have e9 : S1_number oa wa u = ((3 : Int32), u) := by rw [S1_number, if_neg c1, if_neg c3, if_pos c4, if_pos c11, if_neg c13, if_pos c15, if_neg c16]
                exact W.iret (v := (3 : Int32)) hx hb hr (fun t ht hW => ⟨⟨(3 : Int32), (), rfl, by rw [e9], by show va_P _ _ _ t.heap; rw [e9, ht]; exact hP⟩, hS.F ht⟩) hS.2.2 dX1_number_119
        · refine lv_aload_n hx hb dX1_number_74 rfl (lv_at hl 1 rfl) ?_
          refine va_get (D := D) (ci := 1) (v := .int (M_t u)) (C := RX1) (T := TX1) (N := 12) hx hb hts iwX1_number hown hK hP 0 rfl rfl 7 (by decide) (hts (.fieldLink RX1 56 "WordMachineModel" "t" "I") flX1_number_56) (fun _ h9 => h9) rfl dX1_number_75 ?_
          refine lv_iconst (v := 5) hx hb dX1_number_78 (by decide) ?_
          refine lv_icmp_ne (tgt := 86) hx hb dX1_number_79 (by decide) (fun (c18 : ¬ (M_t u) = 5) => ?_) (fun (c18 : (M_t u) = 5) => ?_)
          · refine lv_iconst (v := 0) hx hb dX1_number_86 (by decide) ?_
            refine lv_istore (lv' := [(4, .int 0), (3, .int (((l_shr (S1_plain wa.toInt64) 20).toInt32) &&& 31)), (0, .ref h), (1, .int oa), (2, .int wa)]) hx hb dX1_number_87 hl (by decide) rfl (fun ls hl => ?_)
            refine lv_iload hx hb dX1_number_89 (lv_at hl 0 rfl) ?_
            refine lv_if_eq (tgt := 120) hx hb dX1_number_91 (by decide) (fun _ => ?_) (fun (c19 : ¬ (0 : Int32) = 0) => absurd c19 (by decide))
            refine lv_aload_n hx hb dX1_number_120 rfl (lv_at hl 2 rfl) ?_
            refine lv_aload_n hx hb dX1_number_121 rfl (lv_at hl 2 rfl) ?_
            refine va_get (D := D) (ci := 1) (v := .int (M_d u)) (C := RX1) (T := TX1) (N := 12) hx hb hts iwX1_number hown hK hP 0 rfl rfl 6 (by decide) (hts (.fieldLink RX1 53 "WordMachineModel" "d" "I") flX1_number_53) (fun _ h9 => h9) rfl dX1_number_122 ?_
            refine lv_iload hx hb dX1_number_125 (lv_at hl 0 rfl) ?_
            refine lv_if_eq (tgt := 150) hx hb dX1_number_127 (by decide) (fun _ => ?_) (fun (c20 : ¬ (0 : Int32) = 0) => absurd c20 (by decide))
            refine lv_aload_n hx hb dX1_number_150 rfl (lv_at hl 2 rfl) ?_
            refine va_get (D := D) (ci := 1) (v := .int (M_t u)) (C := RX1) (T := TX1) (N := 12) hx hb hts iwX1_number hown hK hP 0 rfl rfl 7 (by decide) (hts (.fieldLink RX1 56 "WordMachineModel" "t" "I") flX1_number_56) (fun _ h9 => h9) rfl dX1_number_151 ?_
            refine lv_iconst (v := 0) hx hb dX1_number_154 (by decide) ?_
            refine lv_aload_n hx hb dX1_number_155 rfl (lv_at hl 2 rfl) ?_
            refine va_get (D := D) (ci := 1) (v := .long (M_x u)) (C := RX1) (T := TX1) (N := 12) hx hb hts iwX1_number hown hK hP 0 rfl rfl 10 (by decide) (hts (.fieldLink RX1 59 "WordMachineModel" "x" "J") flX1_number_59) (fun _ h9 => h9) rfl dX1_number_156 ?_
            refine lv_aload_n hx hb dX1_number_159 rfl (lv_at hl 2 rfl) ?_
            refine va_get (D := D) (ci := 1) (v := .int (M_im u)) (C := RX1) (T := TX1) (N := 12) hx hb hts iwX1_number hown hK hP 0 rfl rfl 9 (by decide) (hts (.fieldLink RX1 73 "WordMachineModel" "immediate" "I") flX1_number_73) (fun _ h9 => h9) rfl dX1_number_160 ?_
            refine lv_i2l (v := (M_im u).toInt64) hx hb dX1_number_163 rfl ?_
            refine pu_l (v := S1_plain ((M_im u).toInt64)) (As := [.long ((M_im u).toInt64)]) (rest := [.long (M_x u), .int 0, .int (M_t u), .int (M_d u), .ref h]) ⟨hx, hb, hml, hown, hts⟩ (c1_plain l ((M_im u).toInt64) ) gX1_number_X1_plain rfl hdX1_plain ⟨Nat.le_of_ble_eq_true rfl, Nat.le_of_ble_eq_true rfl⟩ hl.1 rfl (Nat.le_of_ble_eq_true rfl) dX1_number_164 ⟨Nat.zero_le _, Nat.zero_le _⟩ hP hS (fun H locs hP hS => ?_)
            refine pu_l (v := S1_made (M_t u) (0) (M_x u) (S1_plain ((M_im u).toInt64))) (As := [.int (M_t u), .int 0, .long (M_x u), .long (S1_plain ((M_im u).toInt64))]) (rest := [.int (M_d u), .ref h]) ⟨hx, hb, hml, hown, hts⟩ (c1_made l (M_t u) (0) (M_x u) (S1_plain ((M_im u).toInt64)) ) gX1_number_X1_made rfl hdX1_made ⟨Nat.le_of_ble_eq_true rfl, Nat.le_of_ble_eq_true rfl⟩ hl.1 rfl (Nat.le_of_ble_eq_true rfl) dX1_number_167 ⟨Nat.zero_le _, Nat.zero_le _⟩ hP hS (fun H locs hP hS => ?_)
            refine in_v (As := [.int (M_d u), .long (S1_made (M_t u) (0) (M_x u) (S1_plain ((M_im u).toInt64)))]) (rest := []) (w1 := ww1 cI cJ cB h q1 q2 q3 (S1_give (M_d u) (S1_made (M_t u) (0) (M_x u) (S1_plain ((M_im u).toInt64))) u)) ⟨hx, hb, hml, hown, hts⟩ (c1_give l hap (M_d u) (S1_made (M_t u) (0) (M_x u) (S1_plain ((M_im u).toInt64))) u hd) gX1_number_X1_give rfl hdX1_give ⟨Nat.le_of_ble_eq_true rfl, Nat.le_of_ble_eq_true rfl⟩ hK rfl rfl hl.1 rfl (Nat.le_of_ble_eq_true rfl) dX1_number_170 ⟨Nat.zero_le _, Nat.zero_le _⟩ hP hS (fun _ h => h) (fun H locs hP hS _ _ => ?_)
            refine lv_iconst (v := 0) hx hb dX1_number_173 (by decide) ?_
            have e9 : S1_number oa wa u = ((0 : Int32), S1_give (M_d u) (S1_made (M_t u) (0) (M_x u) (S1_plain ((M_im u).toInt64))) u) := by rw [S1_number, if_neg c1, if_neg c3, if_pos c4, if_neg c11, if_neg c18]
            exact W.iret (v := (0 : Int32)) hx hb hr (fun t ht hW => ⟨⟨(0 : Int32), (), rfl, by rw [e9], by show va_P _ _ _ t.heap; rw [e9, ht]; exact hP⟩, hS.F ht⟩) hS.2.2 dX1_number_174
          · refine lv_iconst (v := 1) hx hb dX1_number_82 (by decide) ?_
            refine lv_goto (tgt := 87) hx hb dX1_number_83 (by decide) ?_
            refine lv_istore (lv' := [(4, .int 1), (3, .int (((l_shr (S1_plain wa.toInt64) 20).toInt32) &&& 31)), (0, .ref h), (1, .int oa), (2, .int wa)]) hx hb dX1_number_87 hl (by decide) rfl (fun ls hl => ?_)
            refine lv_iload hx hb dX1_number_89 (lv_at hl 0 rfl) ?_
            refine lv_if_eq (tgt := 120) hx hb dX1_number_91 (by decide) (fun (c21 : (1 : Int32) = 0) => absurd c21 (by decide)) (fun _ => ?_)
            refine lv_aload_n hx hb dX1_number_94 rfl (lv_at hl 2 rfl) ?_
            refine va_get (D := D) (ci := 1) (v := .int (M_s u)) (C := RX1) (T := TX1) (N := 12) hx hb hts iwX1_number hown hK hP 0 rfl rfl 8 (by decide) (hts (.fieldLink RX1 66 "WordMachineModel" "s" "I") flX1_number_66) (fun _ h9 => h9) rfl dX1_number_95 ?_
            refine lv_if_eq (tgt := 120) hx hb dX1_number_98 (by decide) (fun (c22 : (M_s u) = 0) => ?_) (fun (c22 : ¬ (M_s u) = 0) => ?_)
            · refine lv_aload_n hx hb dX1_number_120 rfl (lv_at hl 2 rfl) ?_
              refine lv_aload_n hx hb dX1_number_121 rfl (lv_at hl 2 rfl) ?_
              refine va_get (D := D) (ci := 1) (v := .int (M_d u)) (C := RX1) (T := TX1) (N := 12) hx hb hts iwX1_number hown hK hP 0 rfl rfl 6 (by decide) (hts (.fieldLink RX1 53 "WordMachineModel" "d" "I") flX1_number_53) (fun _ h9 => h9) rfl dX1_number_122 ?_
              refine lv_iload hx hb dX1_number_125 (lv_at hl 0 rfl) ?_
              refine lv_if_eq (tgt := 150) hx hb dX1_number_127 (by decide) (fun (c23 : (1 : Int32) = 0) => absurd c23 (by decide)) (fun _ => ?_)
              refine lv_aload_n hx hb dX1_number_130 rfl (lv_at hl 2 rfl) ?_
              refine va_get (D := D) (ci := 1) (v := .int (M_t u)) (C := RX1) (T := TX1) (N := 12) hx hb hts iwX1_number hown hK hP 0 rfl rfl 7 (by decide) (hts (.fieldLink RX1 56 "WordMachineModel" "t" "I") flX1_number_56) (fun _ h9 => h9) rfl dX1_number_131 ?_
              refine lv_aload_n hx hb dX1_number_134 rfl (lv_at hl 2 rfl) ?_
              refine va_get (D := D) (ci := 1) (v := .int (M_s u)) (C := RX1) (T := TX1) (N := 12) hx hb hts iwX1_number hown hK hP 0 rfl rfl 8 (by decide) (hts (.fieldLink RX1 66 "WordMachineModel" "s" "I") flX1_number_66) (fun _ h9 => h9) rfl dX1_number_135 ?_
              refine lv_aload_n hx hb dX1_number_138 rfl (lv_at hl 2 rfl) ?_
              refine va_get (D := D) (ci := 1) (v := .long (M_x u)) (C := RX1) (T := TX1) (N := 12) hx hb hts iwX1_number hown hK hP 0 rfl rfl 10 (by decide) (hts (.fieldLink RX1 59 "WordMachineModel" "x" "J") flX1_number_59) (fun _ h9 => h9) rfl dX1_number_139 ?_
              refine lv_iload_n hx hb dX1_number_142 rfl (lv_at hl 1 rfl) ?_
              refine lv_i2l (v := (((l_shr (S1_plain wa.toInt64) 20).toInt32) &&& 31).toInt64) hx hb dX1_number_143 rfl ?_
              refine pu_l (v := S1_made (M_t u) (M_s u) (M_x u) ((((l_shr (S1_plain wa.toInt64) 20).toInt32) &&& 31).toInt64)) (As := [.int (M_t u), .int (M_s u), .long (M_x u), .long ((((l_shr (S1_plain wa.toInt64) 20).toInt32) &&& 31).toInt64)]) (rest := [.int (M_d u), .ref h]) ⟨hx, hb, hml, hown, hts⟩ (c1_made l (M_t u) (M_s u) (M_x u) ((((l_shr (S1_plain wa.toInt64) 20).toInt32) &&& 31).toInt64) ) gX1_number_X1_made rfl hdX1_made ⟨Nat.le_of_ble_eq_true rfl, Nat.le_of_ble_eq_true rfl⟩ hl.1 rfl (Nat.le_of_ble_eq_true rfl) dX1_number_144 ⟨Nat.zero_le _, Nat.zero_le _⟩ hP hS (fun H locs hP hS => ?_)
              refine lv_goto (tgt := 170) hx hb dX1_number_147 (by decide) ?_
              refine in_v (As := [.int (M_d u), .long (S1_made (M_t u) (M_s u) (M_x u) ((((l_shr (S1_plain wa.toInt64) 20).toInt32) &&& 31).toInt64))]) (rest := []) (w1 := ww1 cI cJ cB h q1 q2 q3 (S1_give (M_d u) (S1_made (M_t u) (M_s u) (M_x u) ((((l_shr (S1_plain wa.toInt64) 20).toInt32) &&& 31).toInt64)) u)) ⟨hx, hb, hml, hown, hts⟩ (c1_give l hap (M_d u) (S1_made (M_t u) (M_s u) (M_x u) ((((l_shr (S1_plain wa.toInt64) 20).toInt32) &&& 31).toInt64)) u hd) gX1_number_X1_give rfl hdX1_give ⟨Nat.le_of_ble_eq_true rfl, Nat.le_of_ble_eq_true rfl⟩ hK rfl rfl hl.1 rfl (Nat.le_of_ble_eq_true rfl) dX1_number_170 ⟨Nat.zero_le _, Nat.zero_le _⟩ hP hS (fun _ h => h) (fun H locs hP hS _ _ => ?_)
              refine lv_iconst (v := 0) hx hb dX1_number_173 (by decide) ?_
              have e9 : S1_number oa wa u = ((0 : Int32), S1_give (M_d u) (S1_made (M_t u) (M_s u) (M_x u) ((((l_shr (S1_plain wa.toInt64) 20).toInt32) &&& 31).toInt64)) u) := by rw [S1_number, if_neg c1, if_neg c3, if_pos c4, if_neg c11, if_pos c18, if_pos c22]
              exact W.iret (v := (0 : Int32)) hx hb hr (fun t ht hW => ⟨⟨(0 : Int32), (), rfl, by rw [e9], by show va_P _ _ _ t.heap; rw [e9, ht]; exact hP⟩, hS.F ht⟩) hS.2.2 dX1_number_174
            · refine lv_aload_n hx hb dX1_number_101 rfl (lv_at hl 2 rfl) ?_
              refine va_get (D := D) (ci := 1) (v := .int (M_t u)) (C := RX1) (T := TX1) (N := 12) hx hb hts iwX1_number hown hK hP 0 rfl rfl 7 (by decide) (hts (.fieldLink RX1 56 "WordMachineModel" "t" "I") flX1_number_56) (fun _ h9 => h9) rfl dX1_number_102 ?_
              refine lv_iconst (v := 5) hx hb dX1_number_105 (by decide) ?_
              refine lv_icmp_ne (tgt := 118) hx hb dX1_number_106 (by decide) (fun (c24 : ¬ (M_t u) = 5) => ?_) (fun (c24 : (M_t u) = 5) => ?_)
              · refine lv_iconst (v := 3) hx hb dX1_number_118 (by decide) ?_
                have e9 : S1_number oa wa u = ((3 : Int32), u) := by rw [S1_number, if_neg c1, if_neg c3, if_pos c4, if_neg c11, if_pos c18, if_neg c22, if_neg c24]
                exact W.iret (v := (3 : Int32)) hx hb hr (fun t ht hW => ⟨⟨(3 : Int32), (), rfl, by rw [e9], by show va_P _ _ _ t.heap; rw [e9, ht]; exact hP⟩, hS.F ht⟩) hS.2.2 dX1_number_119
              · refine lv_aload_n hx hb dX1_number_109 rfl (lv_at hl 2 rfl) ?_
                refine va_get (D := D) (ci := 1) (v := .int (M_s u)) (C := RX1) (T := TX1) (N := 12) hx hb hts iwX1_number hown hK hP 0 rfl rfl 8 (by decide) (hts (.fieldLink RX1 66 "WordMachineModel" "s" "I") flX1_number_66) (fun _ h9 => h9) rfl dX1_number_110 ?_
                refine lv_bipush (v := 32) hx hb dX1_number_113 (by decide) ?_
                refine lv_icmp_eq (tgt := 120) hx hb dX1_number_115 (by decide) (fun (c25 : (M_s u) = 32) => ?_) (fun (c25 : ¬ (M_s u) = 32) => ?_)
                · refine lv_aload_n hx hb dX1_number_120 rfl (lv_at hl 2 rfl) ?_
                  refine lv_aload_n hx hb dX1_number_121 rfl (lv_at hl 2 rfl) ?_
                  refine va_get (D := D) (ci := 1) (v := .int (M_d u)) (C := RX1) (T := TX1) (N := 12) hx hb hts iwX1_number hown hK hP 0 rfl rfl 6 (by decide) (hts (.fieldLink RX1 53 "WordMachineModel" "d" "I") flX1_number_53) (fun _ h9 => h9) rfl dX1_number_122 ?_
                  refine lv_iload hx hb dX1_number_125 (lv_at hl 0 rfl) ?_
                  refine lv_if_eq (tgt := 150) hx hb dX1_number_127 (by decide) (fun (c26 : (1 : Int32) = 0) => absurd c26 (by decide)) (fun _ => ?_)
                  refine lv_aload_n hx hb dX1_number_130 rfl (lv_at hl 2 rfl) ?_
                  refine va_get (D := D) (ci := 1) (v := .int (M_t u)) (C := RX1) (T := TX1) (N := 12) hx hb hts iwX1_number hown hK hP 0 rfl rfl 7 (by decide) (hts (.fieldLink RX1 56 "WordMachineModel" "t" "I") flX1_number_56) (fun _ h9 => h9) rfl dX1_number_131 ?_
                  refine lv_aload_n hx hb dX1_number_134 rfl (lv_at hl 2 rfl) ?_
                  refine va_get (D := D) (ci := 1) (v := .int (M_s u)) (C := RX1) (T := TX1) (N := 12) hx hb hts iwX1_number hown hK hP 0 rfl rfl 8 (by decide) (hts (.fieldLink RX1 66 "WordMachineModel" "s" "I") flX1_number_66) (fun _ h9 => h9) rfl dX1_number_135 ?_
                  refine lv_aload_n hx hb dX1_number_138 rfl (lv_at hl 2 rfl) ?_
                  refine va_get (D := D) (ci := 1) (v := .long (M_x u)) (C := RX1) (T := TX1) (N := 12) hx hb hts iwX1_number hown hK hP 0 rfl rfl 10 (by decide) (hts (.fieldLink RX1 59 "WordMachineModel" "x" "J") flX1_number_59) (fun _ h9 => h9) rfl dX1_number_139 ?_
                  refine lv_iload_n hx hb dX1_number_142 rfl (lv_at hl 1 rfl) ?_
                  refine lv_i2l (v := (((l_shr (S1_plain wa.toInt64) 20).toInt32) &&& 31).toInt64) hx hb dX1_number_143 rfl ?_
                  refine pu_l (v := S1_made (M_t u) (M_s u) (M_x u) ((((l_shr (S1_plain wa.toInt64) 20).toInt32) &&& 31).toInt64)) (As := [.int (M_t u), .int (M_s u), .long (M_x u), .long ((((l_shr (S1_plain wa.toInt64) 20).toInt32) &&& 31).toInt64)]) (rest := [.int (M_d u), .ref h]) ⟨hx, hb, hml, hown, hts⟩ (c1_made l (M_t u) (M_s u) (M_x u) ((((l_shr (S1_plain wa.toInt64) 20).toInt32) &&& 31).toInt64) ) gX1_number_X1_made rfl hdX1_made ⟨Nat.le_of_ble_eq_true rfl, Nat.le_of_ble_eq_true rfl⟩ hl.1 rfl (Nat.le_of_ble_eq_true rfl) dX1_number_144 ⟨Nat.zero_le _, Nat.zero_le _⟩ hP hS (fun H locs hP hS => ?_)
                  refine lv_goto (tgt := 170) hx hb dX1_number_147 (by decide) ?_
                  refine in_v (As := [.int (M_d u), .long (S1_made (M_t u) (M_s u) (M_x u) ((((l_shr (S1_plain wa.toInt64) 20).toInt32) &&& 31).toInt64))]) (rest := []) (w1 := ww1 cI cJ cB h q1 q2 q3 (S1_give (M_d u) (S1_made (M_t u) (M_s u) (M_x u) ((((l_shr (S1_plain wa.toInt64) 20).toInt32) &&& 31).toInt64)) u)) ⟨hx, hb, hml, hown, hts⟩ (c1_give l hap (M_d u) (S1_made (M_t u) (M_s u) (M_x u) ((((l_shr (S1_plain wa.toInt64) 20).toInt32) &&& 31).toInt64)) u hd) gX1_number_X1_give rfl hdX1_give ⟨Nat.le_of_ble_eq_true rfl, Nat.le_of_ble_eq_true rfl⟩ hK rfl rfl hl.1 rfl (Nat.le_of_ble_eq_true rfl) dX1_number_170 ⟨Nat.zero_le _, Nat.zero_le _⟩ hP hS (fun _ h => h) (fun H locs hP hS _ _ => ?_)
                  refine lv_iconst (v := 0) hx hb dX1_number_173 (by decide) ?_
                  have e9 : S1_number oa wa u = ((0 : Int32), S1_give (M_d u) (S1_made (M_t u) (M_s u) (M_x u) ((((l_shr (S1_plain wa.toInt64) 20).toInt32) &&& 31).toInt64)) u) := by rw [S1_number, if_neg c1, if_neg c3, if_pos c4, if_neg c11, if_pos c18, if_neg c22, if_pos c24, if_pos c25]
                  exact W.iret (v := (0 : Int32)) hx hb hr (fun t ht hW => ⟨⟨(0 : Int32), (), rfl, by rw [e9], by show va_P _ _ _ t.heap; rw [e9, ht]; exact hP⟩, hS.F ht⟩) hS.2.2 dX1_number_174
                · refine lv_iconst (v := 3) hx hb dX1_number_118 (by decide) ?_
                  have e9 : S1_number oa wa u = ((3 : Int32), u) := by rw [S1_number, if_neg c1, if_neg c3, if_pos c4, if_neg c11, if_pos c18, if_neg c22, if_pos c24, if_neg c25]
                  exact W.iret (v := (3 : Int32)) hx hb hr (fun t ht hW => ⟨⟨(3 : Int32), (), rfl, by rw [e9], by show va_P _ _ _ t.heap; rw [e9, ht]; exact hP⟩, hS.F ht⟩) hS.2.2 dX1_number_119
    · refine lv_aload_n hx hb dX1_number_12 rfl (lv_at hl 0 rfl) ?_
      refine lv_aload_n hx hb dX1_number_13 rfl (lv_at hl 0 rfl) ?_
      refine va_get (D := D) (ci := 1) (v := .int (M_d u)) (C := RX1) (T := TX1) (N := 12) hx hb hts iwX1_number hown hK hP 0 rfl rfl 6 (by decide) (hts (.fieldLink RX1 53 "WordMachineModel" "d" "I") flX1_number_53) (fun _ h9 => h9) rfl dX1_number_14 ?_
      refine lv_iload_n hx hb dX1_number_17 rfl (lv_at hl 2 rfl) ?_
      refine lv_bipush (v := 12) hx hb dX1_number_18 (by decide) ?_
      refine lv_ishr hx hb dX1_number_20 ?_
      refine lv_i2l (v := (wa >>> ((12 : Int32) &&& 31)).toInt64) hx hb dX1_number_21 rfl ?_
      refine lv_ldc2 hx hb hown (hts (.constantLong RX1 96 (4096)) ctX1_number_96) dX1_number_22 ?_
      refine lv_lmul hx hb dX1_number_25 ?_
      refine lv_iload_n hx hb dX1_number_26 rfl (lv_at hl 1 rfl) ?_
      refine lv_bipush (v := 23) hx hb dX1_number_27 (by decide) ?_
      refine lv_icmp_ne (tgt := 39) hx hb dX1_number_29 (by decide) (fun (c27 : ¬ oa = 23) => ?_) (fun (c27 : oa = 23) => ?_)
      · refine lv_iconst (v := 0) hx hb dX1_number_39 (by decide) ?_
        refine lv_i2l (v := (0 : Int32).toInt64) hx hb dX1_number_40 rfl ?_
        refine lv_ladd hx hb dX1_number_41 ?_
        refine in_v (As := [.int (M_d u), .long ((((wa >>> ((12 : Int32) &&& 31)).toInt64) * 4096) + ((0 : Int32).toInt64))]) (rest := []) (w1 := ww1 cI cJ cB h q1 q2 q3 (S1_give (M_d u) ((((wa >>> ((12 : Int32) &&& 31)).toInt64) * 4096) + ((0 : Int32).toInt64)) u)) ⟨hx, hb, hml, hown, hts⟩ (c1_give l hap (M_d u) ((((wa >>> ((12 : Int32) &&& 31)).toInt64) * 4096) + ((0 : Int32).toInt64)) u hd) gX1_number_X1_give rfl hdX1_give ⟨Nat.le_of_ble_eq_true rfl, Nat.le_of_ble_eq_true rfl⟩ hK rfl rfl hl.1 rfl (Nat.le_of_ble_eq_true rfl) dX1_number_42 ⟨Nat.zero_le _, Nat.zero_le _⟩ hP hS (fun _ h => h) (fun H locs hP hS _ _ => ?_)
        refine lv_iconst (v := 0) hx hb dX1_number_45 (by decide) ?_
        have e9 : S1_number oa wa u = ((0 : Int32), S1_give (M_d u) ((((wa >>> ((12 : Int32) &&& 31)).toInt64) * 4096) + ((0 : Int32).toInt64)) u) := by rw [S1_number, if_neg c1, if_pos c3, if_neg c27]
        exact W.iret (v := (0 : Int32)) hx hb hr (fun t ht hW => ⟨⟨(0 : Int32), (), rfl, by rw [e9], by show va_P _ _ _ t.heap; rw [e9, ht]; exact hP⟩, hS.F ht⟩) hS.2.2 dX1_number_46
      · refine lv_aload_n hx hb dX1_number_32 rfl (lv_at hl 0 rfl) ?_
        refine va_get (D := D) (ci := 1) (v := .int (M_pc u)) (C := RX1) (T := TX1) (N := 12) hx hb hts iwX1_number hown hK hP 0 rfl rfl 2 (by decide) (hts (.fieldLink RX1 39 "WordMachineModel" "pc" "I") flX1_number_39) (fun _ h9 => h9) rfl dX1_number_33 ?_
        refine lv_goto (tgt := 40) hx hb dX1_number_36 (by decide) ?_
        refine lv_i2l (v := (M_pc u).toInt64) hx hb dX1_number_40 rfl ?_
        refine lv_ladd hx hb dX1_number_41 ?_
        refine in_v (As := [.int (M_d u), .long ((((wa >>> ((12 : Int32) &&& 31)).toInt64) * 4096) + ((M_pc u).toInt64))]) (rest := []) (w1 := ww1 cI cJ cB h q1 q2 q3 (S1_give (M_d u) ((((wa >>> ((12 : Int32) &&& 31)).toInt64) * 4096) + ((M_pc u).toInt64)) u)) ⟨hx, hb, hml, hown, hts⟩ (c1_give l hap (M_d u) ((((wa >>> ((12 : Int32) &&& 31)).toInt64) * 4096) + ((M_pc u).toInt64)) u hd) gX1_number_X1_give rfl hdX1_give ⟨Nat.le_of_ble_eq_true rfl, Nat.le_of_ble_eq_true rfl⟩ hK rfl rfl hl.1 rfl (Nat.le_of_ble_eq_true rfl) dX1_number_42 ⟨Nat.zero_le _, Nat.zero_le _⟩ hP hS (fun _ h => h) (fun H locs hP hS _ _ => ?_)
        refine lv_iconst (v := 0) hx hb dX1_number_45 (by decide) ?_
        have e9 : S1_number oa wa u = ((0 : Int32), S1_give (M_d u) ((((wa >>> ((12 : Int32) &&& 31)).toInt64) * 4096) + ((M_pc u).toInt64)) u) := by rw [S1_number, if_neg c1, if_pos c3, if_pos c27]
        exact W.iret (v := (0 : Int32)) hx hb hr (fun t ht hW => ⟨⟨(0 : Int32), (), rfl, by rw [e9], by show va_P _ _ _ t.heap; rw [e9, ht]; exact hP⟩, hS.F ht⟩) hS.2.2 dX1_number_46
theorem iwX1_load : ∀ w ∈ wsX10, w ∈ wsX1_load := by decide +kernel
theorem flX1_load_17 : Cond.fieldLink RX1 17 "WordMachineModel" "memory" "[B" ∈ wsX1_load := by decide +kernel
theorem flX1_load_53 : Cond.fieldLink RX1 53 "WordMachineModel" "d" "I" ∈ wsX1_load := by decide +kernel
theorem flX1_load_56 : Cond.fieldLink RX1 56 "WordMachineModel" "t" "I" ∈ wsX1_load := by decide +kernel
theorem flX1_load_59 : Cond.fieldLink RX1 59 "WordMachineModel" "x" "J" ∈ wsX1_load := by decide +kernel
theorem flX1_load_73 : Cond.fieldLink RX1 73 "WordMachineModel" "immediate" "I" ∈ wsX1_load := by decide +kernel
theorem ctX1_load_106 : Cond.constantLong RX1 106 (256) ∈ wsX1_load := by decide +kernel
theorem ctX1_load_108 : Cond.constantLong RX1 108 (2) ∈ wsX1_load := by decide +kernel
theorem hdX1_load : yX1_load.cls = RX1 ∧ yX1_load.cls ≠ "java/lang/invoke/MethodHandle" ∧ yX1_load.cls ≠ "java/lang/invoke/VarHandle" ∧ (parseMethodDescriptor yX1_load.desc).map (fun d => d.parameters.length) = some 0 := by decide +kernel
set_option maxHeartbeats 4000000 in
set_option maxRecDepth 100000 in
theorem c1_load (l : Launch) {D : va_G} {cI cJ cB : ClassId} {h q1 q2 q3 : Nat} (hap : ap4 h q1 q2 q3)  (u : MS) (hd : M_d u < 32) : Ini l yX1_load wsX1_load 2 44 D (ty1 cI cJ cB) (wa0 h q1 q2 q3) [.ref h] (ww1 cI cJ cB h q1 q2 q3 u) (ww1 cI cJ cB h q1 q2 q3 (S1_load u).2) (S1_load u).1 := by
  refine Met.ofW (cc := cX1_load) (maxL := 9) (ret := (some .int)) (by decide) rfl ?_
  intro p e s m args below meth c s₁ B hml hv
  obtain ⟨rfl, hP, hK⟩ := hv
  have hx := B.exec
  have hb := B.bytes
  have hr := B.returns
  have hts := atoms_spec (ws := wsX1_load) B.pre
  have hown : s.vm.findClass RX1 = some m.cls := findClass_of_methodNamed B.named
  have hlocks := B.notSynchronized
  have hS : va_S (wa0 h q1 q2 q3) s.heap s.heap [] := va_S.rf
  have hl := lv_entry ([.ref h]) (n := 9) (Nat.le_of_ble_eq_true rfl)
  rw [lg_entry_eq]
  generalize (lg_sl ([.ref h]) ++ List.replicate (9 - (lg_sl ([.ref h])).length) Slot.unset).toArray = ls at hl ⊢
  have hl : lv_has ls 9 [(0, .ref h)] := hl
  have J : ∀ (n9 j : Nat) (vv wo : Int64) (H : Heap) (locs : List Loc), va_P D vwCl (ww1 cI cJ cB h q1 q2 q3 u) H → va_S (wa0 h q1 q2 q3) s.heap H locs → ∀ ls : Array Slot, lv_has ls 9 [(8, .int (nI j)), (6, .long wo), (4, .long vv), (2, .long (S1_plain ((M_x u) + (M_im u).toInt64))), (1, .int (S1_width (1) u)), (0, .ref h)] → j + n9 = (S1_width (1) u).toNatClampNeg → ¬ (S1_isThere (S1_plain ((M_x u) + (M_im u).toInt64)) (S1_width (1) u) u) = 0 → S1_load u = S1_lloop n9 (S1_plain ((M_x u) + (M_im u).toInt64)) (nI j) vv wo u → W p l e (headSpec wsX1_load ({ frames := 2, cells := 0, slots := 0, locals := 44 })).room s m ([.ref h] : List Value).toArray below meth c H locs 0 0 (MQ below (va_Qi (fun (r : Int32) (_ : Unit) => r = (S1_load u).1) (fun _ t => va_P D vwCl (ww1 cI cJ cB h q1 q2 q3 (S1_load u).2) t.heap) (wa0 h q1 q2 q3)) ([.ref h] : List Value).toArray s 0 0 (wa0 h q1 q2 q3)) (F0 m 46 ls []) := by
    intro n9
    induction n9 with
    | zero =>
      intro j vv wo H locs hP hS ls hl hj hth hs
      refine lv_iload hx hb dX1_load_46 (lv_at hl 0 rfl) ?_
      refine lv_iload_n hx hb dX1_load_48 rfl (lv_at hl 4 rfl) ?_
      refine lv_icmp_ge (tgt := 89) hx hb dX1_load_49 (by decide) (fun (c1 : (S1_width (1) u) ≤ (nI j)) => ?_) (fun (c1 : ¬ (S1_width (1) u) ≤ (nI j)) => ?_)
      · refine lv_aload_n hx hb dX1_load_89 rfl (lv_at hl 5 rfl) ?_
        refine va_get (D := D) (ci := 1) (v := .int (M_t u)) (C := RX1) (T := TX1) (N := 12) hx hb hts iwX1_load hown hK hP 0 rfl rfl 7 (by decide) (hts (.fieldLink RX1 56 "WordMachineModel" "t" "I") flX1_load_56) (fun _ h9 => h9) rfl dX1_load_90 ?_
        refine lv_iconst (v := 2) hx hb dX1_load_93 (by decide) ?_
        refine lv_icmp_ge (tgt := 116) hx hb dX1_load_94 (by decide) (fun (c2 : 2 ≤ (M_t u)) => ?_) (fun (c2 : ¬ 2 ≤ (M_t u)) => ?_)
        · refine lv_aload_n hx hb dX1_load_116 rfl (lv_at hl 5 rfl) ?_
          refine lv_aload_n hx hb dX1_load_117 rfl (lv_at hl 5 rfl) ?_
          refine va_get (D := D) (ci := 1) (v := .int (M_d u)) (C := RX1) (T := TX1) (N := 12) hx hb hts iwX1_load hown hK hP 0 rfl rfl 6 (by decide) (hts (.fieldLink RX1 53 "WordMachineModel" "d" "I") flX1_load_53) (fun _ h9 => h9) rfl dX1_load_118 ?_
          refine lv_lload hx hb dX1_load_121 (lv_at hl 2 rfl) ?_
          refine in_v (As := [.int (M_d u), .long vv]) (rest := []) (w1 := ww1 cI cJ cB h q1 q2 q3 (S1_give (M_d u) vv u)) ⟨hx, hb, hml, hown, hts⟩ (c1_give l hap (M_d u) vv u hd) gX1_load_X1_give rfl hdX1_give ⟨Nat.le_of_ble_eq_true rfl, Nat.le_of_ble_eq_true rfl⟩ hK rfl rfl hl.1 rfl (Nat.le_of_ble_eq_true rfl) dX1_load_123 ⟨Nat.zero_le _, Nat.zero_le _⟩ hP hS (fun _ h => h) (fun H locs hP hS _ _ => ?_)
          refine lv_iconst (v := 0) hx hb dX1_load_126 (by decide) ?_
          have e9 : S1_load u = ((0 : Int32), S1_give (M_d u) vv u) := by rw [hs, S1_lloop, S1_lfin, if_pos c2]
          exact W.iret (v := (0 : Int32)) hx hb hr (fun t ht hW => ⟨⟨(0 : Int32), (), rfl, by rw [e9], by show va_P _ _ _ t.heap; rw [e9, ht]; exact hP⟩, hS.F ht⟩) hS.2.2 dX1_load_127
        · refine lv_lload hx hb dX1_load_97 (lv_at hl 2 rfl) ?_
          refine lv_lload hx hb dX1_load_99 (lv_at hl 1 rfl) ?_
          refine lv_ldc2 hx hb hown (hts (.constantLong RX1 108 (2)) ctX1_load_108) dX1_load_101 ?_
          refine lv_ldiv hx hb dX1_load_104 (by decide) ?_
          refine W.lcmp hx hb dX1_load_105 ?_
          refine lv_if_lt (tgt := 116) hx hb dX1_load_106 (by decide) (fun (c3 : (lg_cmp vv (wo / 2)) < 0) => ?_) (fun (c3 : ¬ (lg_cmp vv (wo / 2)) < 0) => ?_)
          · refine lv_aload_n hx hb dX1_load_116 rfl (lv_at hl 5 rfl) ?_
            refine lv_aload_n hx hb dX1_load_117 rfl (lv_at hl 5 rfl) ?_
            refine va_get (D := D) (ci := 1) (v := .int (M_d u)) (C := RX1) (T := TX1) (N := 12) hx hb hts iwX1_load hown hK hP 0 rfl rfl 6 (by decide) (hts (.fieldLink RX1 53 "WordMachineModel" "d" "I") flX1_load_53) (fun _ h9 => h9) rfl dX1_load_118 ?_
            refine lv_lload hx hb dX1_load_121 (lv_at hl 2 rfl) ?_
            refine in_v (As := [.int (M_d u), .long vv]) (rest := []) (w1 := ww1 cI cJ cB h q1 q2 q3 (S1_give (M_d u) vv u)) ⟨hx, hb, hml, hown, hts⟩ (c1_give l hap (M_d u) vv u hd) gX1_load_X1_give rfl hdX1_give ⟨Nat.le_of_ble_eq_true rfl, Nat.le_of_ble_eq_true rfl⟩ hK rfl rfl hl.1 rfl (Nat.le_of_ble_eq_true rfl) dX1_load_123 ⟨Nat.zero_le _, Nat.zero_le _⟩ hP hS (fun _ h => h) (fun H locs hP hS _ _ => ?_)
            refine lv_iconst (v := 0) hx hb dX1_load_126 (by decide) ?_
            have e9 : S1_load u = ((0 : Int32), S1_give (M_d u) vv u) := by rw [hs, S1_lloop, S1_lfin, if_neg c2, if_pos c3]
            exact W.iret (v := (0 : Int32)) hx hb hr (fun t ht hW => ⟨⟨(0 : Int32), (), rfl, by rw [e9], by show va_P _ _ _ t.heap; rw [e9, ht]; exact hP⟩, hS.F ht⟩) hS.2.2 dX1_load_127
          · refine lv_lload hx hb dX1_load_109 (lv_at hl 2 rfl) ?_
            refine lv_lload hx hb dX1_load_111 (lv_at hl 1 rfl) ?_
            refine lv_lsub hx hb dX1_load_113 ?_
            refine lv_lstore (lv' := [(4, .long (vv - wo)), (8, .int (nI j)), (6, .long wo), (2, .long (S1_plain ((M_x u) + (M_im u).toInt64))), (1, .int (S1_width (1) u)), (0, .ref h)]) hx hb dX1_load_114 hl (by decide) rfl (fun ls hl => ?_)
            refine lv_aload_n hx hb dX1_load_116 rfl (lv_at hl 5 rfl) ?_
            refine lv_aload_n hx hb dX1_load_117 rfl (lv_at hl 5 rfl) ?_
            refine va_get (D := D) (ci := 1) (v := .int (M_d u)) (C := RX1) (T := TX1) (N := 12) hx hb hts iwX1_load hown hK hP 0 rfl rfl 6 (by decide) (hts (.fieldLink RX1 53 "WordMachineModel" "d" "I") flX1_load_53) (fun _ h9 => h9) rfl dX1_load_118 ?_
            refine lv_lload hx hb dX1_load_121 (lv_at hl 0 rfl) ?_
            refine in_v (As := [.int (M_d u), .long (vv - wo)]) (rest := []) (w1 := ww1 cI cJ cB h q1 q2 q3 (S1_give (M_d u) (vv - wo) u)) ⟨hx, hb, hml, hown, hts⟩ (c1_give l hap (M_d u) (vv - wo) u hd) gX1_load_X1_give rfl hdX1_give ⟨Nat.le_of_ble_eq_true rfl, Nat.le_of_ble_eq_true rfl⟩ hK rfl rfl hl.1 rfl (Nat.le_of_ble_eq_true rfl) dX1_load_123 ⟨Nat.zero_le _, Nat.zero_le _⟩ hP hS (fun _ h => h) (fun H locs hP hS _ _ => ?_)
            refine lv_iconst (v := 0) hx hb dX1_load_126 (by decide) ?_
            have e9 : S1_load u = ((0 : Int32), S1_give (M_d u) (vv - wo) u) := by rw [hs, S1_lloop, S1_lfin, if_neg c2, if_neg c3]
            exact W.iret (v := (0 : Int32)) hx hb hr (fun t ht hW => ⟨⟨(0 : Int32), (), rfl, by rw [e9], by show va_P _ _ _ t.heap; rw [e9, ht]; exact hP⟩, hS.F ht⟩) hS.2.2 dX1_load_127
      · exact absurd (rn_ge (width_pos u) hj) c1
    | succ n9 ih =>
      intro j vv wo H locs hP hS ls hl hj hth hs
      refine lv_iload hx hb dX1_load_46 (lv_at hl 0 rfl) ?_
      refine lv_iload_n hx hb dX1_load_48 rfl (lv_at hl 4 rfl) ?_
      refine lv_icmp_ge (tgt := 89) hx hb dX1_load_49 (by decide) (fun (c4 : (S1_width (1) u) ≤ (nI j)) => ?_) (fun (c4 : ¬ (S1_width (1) u) ≤ (nI j)) => ?_)
      · exact absurd c4 (rn_lt (width_pos u) (by omega))
      · refine lv_lload hx hb dX1_load_52 (lv_at hl 2 rfl) ?_
        refine lv_aload_n hx hb dX1_load_54 rfl (lv_at hl 5 rfl) ?_
        refine va_get (D := D) (ci := 1) (v := .ref q3) (C := RX1) (T := TX1) (N := 12) hx hb hts iwX1_load hown hK hP 0 rfl rfl 5 (by decide) (hts (.fieldLink RX1 17 "WordMachineModel" "memory" "[B") flX1_load_17) (fun _ h9 => h9) rfl dX1_load_55 ?_
        refine lv_lload_n hx hb dX1_load_58 rfl (lv_at hl 3 rfl) ?_
        refine lv_l2i (v := (S1_plain ((M_x u) + (M_im u).toInt64)).toInt32) hx hb dX1_load_59 rfl ?_
        refine lv_iload hx hb dX1_load_60 (lv_at hl 0 rfl) ?_
        refine lv_iadd hx hb dX1_load_62 ?_
        refine va_bald hx hb hK hP 3 2 rfl rfl (ix_there hth (width_le u) (by omega)) dX1_load_63 ?_
        refine lv_sipush (v := 255) hx hb dX1_load_64 (by decide) ?_
        refine lv_iand hx hb dX1_load_67 ?_
        refine lv_i2l (v := ((M_mem u (((S1_plain ((M_x u) + (M_im u).toInt64)).toInt32) + (nI j)).toNatClampNeg) &&& 255).toInt64) hx hb dX1_load_68 rfl ?_
        refine lv_lload hx hb dX1_load_69 (lv_at hl 1 rfl) ?_
        refine lv_lmul hx hb dX1_load_71 ?_
        refine lv_ladd hx hb dX1_load_72 ?_
        refine lv_lstore (lv' := [(4, .long (vv + ((((M_mem u (((S1_plain ((M_x u) + (M_im u).toInt64)).toInt32) + (nI j)).toNatClampNeg) &&& 255).toInt64) * wo))), (8, .int (nI j)), (6, .long wo), (2, .long (S1_plain ((M_x u) + (M_im u).toInt64))), (1, .int (S1_width (1) u)), (0, .ref h)]) hx hb dX1_load_73 hl (by decide) rfl (fun ls hl => ?_)
        refine lv_lload hx hb dX1_load_75 (lv_at hl 2 rfl) ?_
        refine lv_ldc2 hx hb hown (hts (.constantLong RX1 106 (256)) ctX1_load_106) dX1_load_77 ?_
        refine lv_lmul hx hb dX1_load_80 ?_
        refine lv_lstore (lv' := [(6, .long (wo * 256)), (4, .long (vv + ((((M_mem u (((S1_plain ((M_x u) + (M_im u).toInt64)).toInt32) + (nI j)).toNatClampNeg) &&& 255).toInt64) * wo))), (8, .int (nI j)), (2, .long (S1_plain ((M_x u) + (M_im u).toInt64))), (1, .int (S1_width (1) u)), (0, .ref h)]) hx hb dX1_load_81 hl (by decide) rfl (fun ls hl => ?_)
        refine lv_iinc (v := (nI j) + 1) (lv' := [(8, .int ((nI j) + 1)), (6, .long (wo * 256)), (4, .long (vv + ((((M_mem u (((S1_plain ((M_x u) + (M_im u).toInt64)).toInt32) + (nI j)).toNatClampNeg) &&& 255).toInt64) * wo))), (2, .long (S1_plain ((M_x u) + (M_im u).toInt64))), (1, .int (S1_width (1) u)), (0, .ref h)]) hx hb dX1_load_83 hl (k := 2) rfl (by rfl) (by decide) rfl (fun ls hl => ?_)
        refine lv_goto (tgt := 46) hx hb dX1_load_86 (by decide) ?_
        rw [nI_1] at hl
        exact ih (j + 1) _ _ H locs hP hS ls (lv_sub hl [0, 1, 2, 3, 4, 5] rfl) (by omega) hth (by rw [hs, S1_lloop, nI_1])
  refine lv_aload_n hx hb dX1_load_0 rfl (lv_at hl 0 rfl) ?_
  refine lv_iconst (v := 1) hx hb dX1_load_1 (by decide) ?_
  refine in_i (v := S1_width (1) u) (As := [.int 1]) (rest := []) (w1 := ww1 cI cJ cB h q1 q2 q3 u) ⟨hx, hb, hml, hown, hts⟩ (c1_width l hap (1) u ) gX1_load_X1_width rfl hdX1_width ⟨Nat.le_of_ble_eq_true rfl, Nat.le_of_ble_eq_true rfl⟩ hK rfl rfl hl.1 rfl (Nat.le_of_ble_eq_true rfl) dX1_load_2 ⟨Nat.zero_le _, Nat.zero_le _⟩ hP hS (fun _ h => h) (fun H locs hP hS _ _ => ?_)
  refine lv_istore_n (lv' := [(1, .int (S1_width (1) u)), (0, .ref h)]) hx hb dX1_load_5 rfl hl (by decide) rfl (fun ls hl => ?_)
  refine lv_iload_n hx hb dX1_load_6 rfl (lv_at hl 0 rfl) ?_
  refine lv_if_ne (tgt := 12) hx hb dX1_load_7 (by decide) (fun (c5 : ¬ (S1_width (1) u) = 0) => ?_) (fun (c5 : (S1_width (1) u) = 0) => ?_)
  · refine lv_aload_n hx hb dX1_load_12 rfl (lv_at hl 1 rfl) ?_
    refine va_get (D := D) (ci := 1) (v := .long (M_x u)) (C := RX1) (T := TX1) (N := 12) hx hb hts iwX1_load hown hK hP 0 rfl rfl 10 (by decide) (hts (.fieldLink RX1 59 "WordMachineModel" "x" "J") flX1_load_59) (fun _ h9 => h9) rfl dX1_load_13 ?_
    refine lv_aload_n hx hb dX1_load_16 rfl (lv_at hl 1 rfl) ?_
    refine va_get (D := D) (ci := 1) (v := .int (M_im u)) (C := RX1) (T := TX1) (N := 12) hx hb hts iwX1_load hown hK hP 0 rfl rfl 9 (by decide) (hts (.fieldLink RX1 73 "WordMachineModel" "immediate" "I") flX1_load_73) (fun _ h9 => h9) rfl dX1_load_17 ?_
    refine lv_i2l (v := (M_im u).toInt64) hx hb dX1_load_20 rfl ?_
    refine lv_ladd hx hb dX1_load_21 ?_
    refine pu_l (v := S1_plain ((M_x u) + ((M_im u).toInt64))) (As := [.long ((M_x u) + ((M_im u).toInt64))]) (rest := []) ⟨hx, hb, hml, hown, hts⟩ (c1_plain l ((M_x u) + ((M_im u).toInt64)) ) gX1_load_X1_plain rfl hdX1_plain ⟨Nat.le_of_ble_eq_true rfl, Nat.le_of_ble_eq_true rfl⟩ hl.1 rfl (Nat.le_of_ble_eq_true rfl) dX1_load_22 ⟨Nat.zero_le _, Nat.zero_le _⟩ hP hS (fun H locs hP hS => ?_)
    refine lv_lstore_n (lv' := [(2, .long (S1_plain ((M_x u) + ((M_im u).toInt64)))), (1, .int (S1_width (1) u)), (0, .ref h)]) hx hb dX1_load_25 rfl hl (by decide) rfl (fun ls hl => ?_)
    refine lv_aload_n hx hb dX1_load_26 rfl (lv_at hl 2 rfl) ?_
    refine lv_lload_n hx hb dX1_load_27 rfl (lv_at hl 0 rfl) ?_
    refine lv_iload_n hx hb dX1_load_28 rfl (lv_at hl 1 rfl) ?_
    refine in_i (v := S1_isThere (S1_plain ((M_x u) + ((M_im u).toInt64))) (S1_width (1) u) u) (As := [.long (S1_plain ((M_x u) + ((M_im u).toInt64))), .int (S1_width (1) u)]) (rest := []) (w1 := ww1 cI cJ cB h q1 q2 q3 u) ⟨hx, hb, hml, hown, hts⟩ (c1_isThere l hap (S1_plain ((M_x u) + ((M_im u).toInt64))) (S1_width (1) u) u (width_ne c5)) gX1_load_X1_isThere rfl hdX1_isThere ⟨Nat.le_of_ble_eq_true rfl, Nat.le_of_ble_eq_true rfl⟩ hK rfl rfl hl.1 rfl (Nat.le_of_ble_eq_true rfl) dX1_load_29 ⟨Nat.zero_le _, Nat.zero_le _⟩ hP hS (fun _ h => h) (fun H locs hP hS _ _ => ?_)
    refine lv_if_ne (tgt := 37) hx hb dX1_load_32 (by decide) (fun (c6 : ¬ (S1_isThere (S1_plain ((M_x u) + ((M_im u).toInt64))) (S1_width (1) u) u) = 0) => ?_) (fun (c6 : (S1_isThere (S1_plain ((M_x u) + ((M_im u).toInt64))) (S1_width (1) u) u) = 0) => ?_)
    · refine lv_lconst (v := 0) hx hb dX1_load_37 (by decide) ?_
      refine lv_lstore (lv' := [(4, .long 0), (2, .long (S1_plain ((M_x u) + ((M_im u).toInt64)))), (1, .int (S1_width (1) u)), (0, .ref h)]) hx hb dX1_load_38 hl (by decide) rfl (fun ls hl => ?_)
      refine lv_lconst (v := 1) hx hb dX1_load_40 (by decide) ?_
      refine lv_lstore (lv' := [(6, .long 1), (4, .long 0), (2, .long (S1_plain ((M_x u) + ((M_im u).toInt64)))), (1, .int (S1_width (1) u)), (0, .ref h)]) hx hb dX1_load_41 hl (by decide) rfl (fun ls hl => ?_)
      refine lv_iconst (v := 0) hx hb dX1_load_43 (by decide) ?_
      refine lv_istore (lv' := [(8, .int 0), (6, .long 1), (4, .long 0), (2, .long (S1_plain ((M_x u) + ((M_im u).toInt64)))), (1, .int (S1_width (1) u)), (0, .ref h)]) hx hb dX1_load_44 hl (by decide) rfl (fun ls hl => ?_)
      exact J (S1_width (1) u).toNatClampNeg 0 0 1 _ _ hP hS ls (lv_sub hl [0, 1, 2, 3, 4, 5] rfl) (by omega) c6 (by rw [S1_load, if_neg c5, if_neg c6]; rfl)
    · refine lv_iconst (v := 4) hx hb dX1_load_35 (by decide) ?_
      have e9 : S1_load u = ((4 : Int32), u) := by rw [S1_load, if_neg c5, if_pos c6]
      exact W.iret (v := (4 : Int32)) hx hb hr (fun t ht hW => ⟨⟨(4 : Int32), (), rfl, by rw [e9], by show va_P _ _ _ t.heap; rw [e9, ht]; exact hP⟩, hS.F ht⟩) hS.2.2 dX1_load_36
  · refine lv_iconst (v := 3) hx hb dX1_load_10 (by decide) ?_
    have e9 : S1_load u = ((3 : Int32), u) := by rw [S1_load, if_pos c5]
    exact W.iret (v := (3 : Int32)) hx hb hr (fun t ht hW => ⟨⟨(3 : Int32), (), rfl, by rw [e9], by show va_P _ _ _ t.heap; rw [e9, ht]; exact hP⟩, hS.F ht⟩) hS.2.2 dX1_load_11
theorem iwX1_store : ∀ w ∈ wsX10, w ∈ wsX1_store := by decide +kernel
theorem flX1_store_17 : Cond.fieldLink RX1 17 "WordMachineModel" "memory" "[B" ∈ wsX1_store := by decide +kernel
theorem flX1_store_53 : Cond.fieldLink RX1 53 "WordMachineModel" "d" "I" ∈ wsX1_store := by decide +kernel
theorem flX1_store_59 : Cond.fieldLink RX1 59 "WordMachineModel" "x" "J" ∈ wsX1_store := by decide +kernel
theorem flX1_store_63 : Cond.fieldLink RX1 63 "WordMachineModel" "y" "J" ∈ wsX1_store := by decide +kernel
theorem flX1_store_66 : Cond.fieldLink RX1 66 "WordMachineModel" "s" "I" ∈ wsX1_store := by decide +kernel
theorem ctX1_store_106 : Cond.constantLong RX1 106 (256) ∈ wsX1_store := by decide +kernel
theorem hdX1_store : yX1_store.cls = RX1 ∧ yX1_store.cls ≠ "java/lang/invoke/MethodHandle" ∧ yX1_store.cls ≠ "java/lang/invoke/VarHandle" ∧ (parseMethodDescriptor yX1_store.desc).map (fun d => d.parameters.length) = some 0 := by decide +kernel
set_option maxHeartbeats 4000000 in
set_option maxRecDepth 100000 in
theorem c1_store (l : Launch) {D : va_G} {cI cJ cB : ClassId} {h q1 q2 q3 : Nat} (hap : ap4 h q1 q2 q3)  (u : MS)  : Ini l yX1_store wsX1_store 1 23 D (ty1 cI cJ cB) (wa0 h q1 q2 q3) [.ref h] (ww1 cI cJ cB h q1 q2 q3 u) (ww1 cI cJ cB h q1 q2 q3 (S1_store u).2) (S1_store u).1 := by
  refine Met.ofW (cc := cX1_store) (maxL := 7) (ret := (some .int)) (by decide) rfl ?_
  intro p e s m args below meth c s₁ B hml hv
  obtain ⟨rfl, hP, hK⟩ := hv
  have hx := B.exec
  have hb := B.bytes
  have hr := B.returns
  have hts := atoms_spec (ws := wsX1_store) B.pre
  have hown : s.vm.findClass RX1 = some m.cls := findClass_of_methodNamed B.named
  have hlocks := B.notSynchronized
  have hS : va_S (wa0 h q1 q2 q3) s.heap s.heap [] := va_S.rf
  have hl := lv_entry ([.ref h]) (n := 7) (Nat.le_of_ble_eq_true rfl)
  rw [lg_entry_eq]
  generalize (lg_sl ([.ref h]) ++ List.replicate (7 - (lg_sl ([.ref h])).length) Slot.unset).toArray = ls at hl ⊢
  have hl : lv_has ls 7 [(0, .ref h)] := hl
  have J : ∀ (n9 j : Nat) (yy : Int64) (w : MS) (H : Heap) (locs : List Loc), va_P D vwCl (ww1 cI cJ cB h q1 q2 q3 w) H → va_S (wa0 h q1 q2 q3) s.heap H locs → ∀ ls : Array Slot, lv_has ls 7 [(6, .int (nI j)), (4, .long yy), (2, .long (S1_plain ((M_x u) + (S1_withSign (((M_s u) * 32) + (M_d u)) (12)).toInt64))), (1, .int (S1_width (0) u)), (0, .ref h)] → j + n9 = (S1_width (0) u).toNatClampNeg → ¬ (S1_isThere (S1_plain ((M_x u) + (S1_withSign (((M_s u) * 32) + (M_d u)) (12)).toInt64)) (S1_width (0) u) u) = 0 → S1_store u = S1_sloop n9 (S1_plain ((M_x u) + (S1_withSign (((M_s u) * 32) + (M_d u)) (12)).toInt64)) (nI j) yy w → W p l e (headSpec wsX1_store ({ frames := 1, cells := 0, slots := 0, locals := 23 })).room s m ([.ref h] : List Value).toArray below meth c H locs 0 0 (MQ below (va_Qi (fun (r : Int32) (_ : Unit) => r = (S1_store u).1) (fun _ t => va_P D vwCl (ww1 cI cJ cB h q1 q2 q3 (S1_store u).2) t.heap) (wa0 h q1 q2 q3)) ([.ref h] : List Value).toArray s 0 0 (wa0 h q1 q2 q3)) (F0 m 59 ls []) := by
    intro n9
    induction n9 with
    | zero =>
      intro j yy w H locs hP hS ls hl hj hth hs
      refine lv_iload hx hb dX1_store_59 (lv_at hl 0 rfl) ?_
      refine lv_iload_n hx hb dX1_store_61 rfl (lv_at hl 3 rfl) ?_
      refine lv_icmp_ge (tgt := 97) hx hb dX1_store_62 (by decide) (fun (c1 : (S1_width (0) u) ≤ (nI j)) => ?_) (fun (c1 : ¬ (S1_width (0) u) ≤ (nI j)) => ?_)
      · refine lv_iconst (v := 0) hx hb dX1_store_97 (by decide) ?_
        have e9 : S1_store u = ((0 : Int32), w) := by rw [hs, S1_sloop]
        exact W.iret (v := (0 : Int32)) hx hb hr (fun t ht hW => ⟨⟨(0 : Int32), (), rfl, by rw [e9], by show va_P _ _ _ t.heap; rw [e9, ht]; exact hP⟩, hS.F ht⟩) hS.2.2 dX1_store_98
      · exact absurd (rn_ge (width_pos0 u) hj) c1
    | succ n9 ih =>
      intro j yy w H locs hP hS ls hl hj hth hs
      refine lv_iload hx hb dX1_store_59 (lv_at hl 0 rfl) ?_
      refine lv_iload_n hx hb dX1_store_61 rfl (lv_at hl 3 rfl) ?_
      refine lv_icmp_ge (tgt := 97) hx hb dX1_store_62 (by decide) (fun (c2 : (S1_width (0) u) ≤ (nI j)) => ?_) (fun (c2 : ¬ (S1_width (0) u) ≤ (nI j)) => ?_)
      · exact absurd c2 (rn_lt (width_pos0 u) (by omega))
      · refine lv_aload_n hx hb dX1_store_65 rfl (lv_at hl 4 rfl) ?_
        refine va_get (D := D) (ci := 1) (v := .ref q3) (C := RX1) (T := TX1) (N := 12) hx hb hts iwX1_store hown hK hP 0 rfl rfl 5 (by decide) (hts (.fieldLink RX1 17 "WordMachineModel" "memory" "[B") flX1_store_17) (fun _ h9 => h9) rfl dX1_store_66 ?_
        refine lv_lload_n hx hb dX1_store_69 rfl (lv_at hl 2 rfl) ?_
        refine lv_l2i (v := (S1_plain ((M_x u) + (S1_withSign (((M_s u) * 32) + (M_d u)) (12)).toInt64)).toInt32) hx hb dX1_store_70 rfl ?_
        refine lv_iload hx hb dX1_store_71 (lv_at hl 0 rfl) ?_
        refine lv_iadd hx hb dX1_store_73 ?_
        refine lv_lload hx hb dX1_store_74 (lv_at hl 1 rfl) ?_
        refine lv_ldc2 hx hb hown (hts (.constantLong RX1 106 (256)) ctX1_store_106) dX1_store_76 ?_
        refine lv_lrem hx hb dX1_store_79 (by decide) ?_
        refine lv_l2i (v := (yy - yy / 256 * 256).toInt32) hx hb dX1_store_80 rfl ?_
        refine lv_i2b (v := ((yy - yy / 256 * 256).toInt32).toInt8.toInt32) hx hb dX1_store_81 rfl ?_
        refine va_bast hx hb hK hP (ap4_D hap) hS 3 2 rfl rfl (ix_there hth (width_le0 u) (by omega)) dX1_store_82 (fun H locs hP _ hS => ?_)
        have hP : va_P D vwCl (ww1 cI cJ cB h q1 q2 q3 (Mp_mem (upd (M_mem w) (((S1_plain ((M_x u) + (S1_withSign (((M_s u) * 32) + (M_d u)) (12)).toInt64)).toInt32) + (nI j)).toNatClampNeg (vp_nar .byte (((yy - yy / 256 * 256).toInt32).toInt8.toInt32))) w)) H := hP
        refine lv_lload hx hb dX1_store_83 (lv_at hl 1 rfl) ?_
        refine lv_ldc2 hx hb hown (hts (.constantLong RX1 106 (256)) ctX1_store_106) dX1_store_85 ?_
        refine lv_ldiv hx hb dX1_store_88 (by decide) ?_
        refine lv_lstore (lv' := [(4, .long (yy / 256)), (6, .int (nI j)), (2, .long (S1_plain ((M_x u) + (S1_withSign (((M_s u) * 32) + (M_d u)) (12)).toInt64))), (1, .int (S1_width (0) u)), (0, .ref h)]) hx hb dX1_store_89 hl (by decide) rfl (fun ls hl => ?_)
        refine lv_iinc (v := (nI j) + 1) (lv' := [(6, .int ((nI j) + 1)), (4, .long (yy / 256)), (2, .long (S1_plain ((M_x u) + (S1_withSign (((M_s u) * 32) + (M_d u)) (12)).toInt64))), (1, .int (S1_width (0) u)), (0, .ref h)]) hx hb dX1_store_91 hl (k := 1) rfl (by rfl) (by decide) rfl (fun ls hl => ?_)
        refine lv_goto (tgt := 59) hx hb dX1_store_94 (by decide) ?_
        rw [nI_1] at hl
        exact ih (j + 1) _ _ H locs hP hS ls (lv_sub hl [0, 1, 2, 3, 4] rfl) (by omega) hth (by rw [hs, S1_sloop, nI_1])
  refine lv_aload_n hx hb dX1_store_0 rfl (lv_at hl 0 rfl) ?_
  refine lv_iconst (v := 0) hx hb dX1_store_1 (by decide) ?_
  refine in_i (v := S1_width (0) u) (As := [.int 0]) (rest := []) (w1 := ww1 cI cJ cB h q1 q2 q3 u) ⟨hx, hb, hml, hown, hts⟩ (c1_width l hap (0) u ) gX1_store_X1_width rfl hdX1_width ⟨Nat.le_of_ble_eq_true rfl, Nat.le_of_ble_eq_true rfl⟩ hK rfl rfl hl.1 rfl (Nat.le_of_ble_eq_true rfl) dX1_store_2 ⟨Nat.zero_le _, Nat.zero_le _⟩ hP hS (fun _ h => h) (fun H locs hP hS _ _ => ?_)
  refine lv_istore_n (lv' := [(1, .int (S1_width (0) u)), (0, .ref h)]) hx hb dX1_store_5 rfl hl (by decide) rfl (fun ls hl => ?_)
  refine lv_iload_n hx hb dX1_store_6 rfl (lv_at hl 0 rfl) ?_
  refine lv_if_ne (tgt := 12) hx hb dX1_store_7 (by decide) (fun (c3 : ¬ (S1_width (0) u) = 0) => ?_) (fun (c3 : (S1_width (0) u) = 0) => ?_)
  · refine lv_aload_n hx hb dX1_store_12 rfl (lv_at hl 1 rfl) ?_
    refine va_get (D := D) (ci := 1) (v := .long (M_x u)) (C := RX1) (T := TX1) (N := 12) hx hb hts iwX1_store hown hK hP 0 rfl rfl 10 (by decide) (hts (.fieldLink RX1 59 "WordMachineModel" "x" "J") flX1_store_59) (fun _ h9 => h9) rfl dX1_store_13 ?_
    refine lv_aload_n hx hb dX1_store_16 rfl (lv_at hl 1 rfl) ?_
    refine va_get (D := D) (ci := 1) (v := .int (M_s u)) (C := RX1) (T := TX1) (N := 12) hx hb hts iwX1_store hown hK hP 0 rfl rfl 8 (by decide) (hts (.fieldLink RX1 66 "WordMachineModel" "s" "I") flX1_store_66) (fun _ h9 => h9) rfl dX1_store_17 ?_
    refine lv_bipush (v := 32) hx hb dX1_store_20 (by decide) ?_
    refine lv_imul hx hb dX1_store_22 ?_
    refine lv_aload_n hx hb dX1_store_23 rfl (lv_at hl 1 rfl) ?_
    refine va_get (D := D) (ci := 1) (v := .int (M_d u)) (C := RX1) (T := TX1) (N := 12) hx hb hts iwX1_store hown hK hP 0 rfl rfl 6 (by decide) (hts (.fieldLink RX1 53 "WordMachineModel" "d" "I") flX1_store_53) (fun _ h9 => h9) rfl dX1_store_24 ?_
    refine lv_iadd hx hb dX1_store_27 ?_
    refine lv_bipush (v := 12) hx hb dX1_store_28 (by decide) ?_
    refine pu_i (v := S1_withSign (((M_s u) * 32) + (M_d u)) (12)) (As := [.int (((M_s u) * 32) + (M_d u)), .int 12]) (rest := [.long (M_x u)]) ⟨hx, hb, hml, hown, hts⟩ (c1_withSign l (((M_s u) * 32) + (M_d u)) (12) ) gX1_store_X1_withSign rfl hdX1_withSign ⟨Nat.le_of_ble_eq_true rfl, Nat.le_of_ble_eq_true rfl⟩ hl.1 rfl (Nat.le_of_ble_eq_true rfl) dX1_store_30 ⟨Nat.zero_le _, Nat.zero_le _⟩ hP hS (fun H locs hP hS => ?_)
    refine lv_i2l (v := (S1_withSign (((M_s u) * 32) + (M_d u)) (12)).toInt64) hx hb dX1_store_33 rfl ?_
    refine lv_ladd hx hb dX1_store_34 ?_
    refine pu_l (v := S1_plain ((M_x u) + ((S1_withSign (((M_s u) * 32) + (M_d u)) (12)).toInt64))) (As := [.long ((M_x u) + ((S1_withSign (((M_s u) * 32) + (M_d u)) (12)).toInt64))]) (rest := []) ⟨hx, hb, hml, hown, hts⟩ (c1_plain l ((M_x u) + ((S1_withSign (((M_s u) * 32) + (M_d u)) (12)).toInt64)) ) gX1_store_X1_plain rfl hdX1_plain ⟨Nat.le_of_ble_eq_true rfl, Nat.le_of_ble_eq_true rfl⟩ hl.1 rfl (Nat.le_of_ble_eq_true rfl) dX1_store_35 ⟨Nat.zero_le _, Nat.zero_le _⟩ hP hS (fun H locs hP hS => ?_)
    refine lv_lstore_n (lv' := [(2, .long (S1_plain ((M_x u) + ((S1_withSign (((M_s u) * 32) + (M_d u)) (12)).toInt64)))), (1, .int (S1_width (0) u)), (0, .ref h)]) hx hb dX1_store_38 rfl hl (by decide) rfl (fun ls hl => ?_)
    refine lv_aload_n hx hb dX1_store_39 rfl (lv_at hl 2 rfl) ?_
    refine lv_lload_n hx hb dX1_store_40 rfl (lv_at hl 0 rfl) ?_
    refine lv_iload_n hx hb dX1_store_41 rfl (lv_at hl 1 rfl) ?_
    refine in_i (v := S1_isThere (S1_plain ((M_x u) + ((S1_withSign (((M_s u) * 32) + (M_d u)) (12)).toInt64))) (S1_width (0) u) u) (As := [.long (S1_plain ((M_x u) + ((S1_withSign (((M_s u) * 32) + (M_d u)) (12)).toInt64))), .int (S1_width (0) u)]) (rest := []) (w1 := ww1 cI cJ cB h q1 q2 q3 u) ⟨hx, hb, hml, hown, hts⟩ (c1_isThere l hap (S1_plain ((M_x u) + ((S1_withSign (((M_s u) * 32) + (M_d u)) (12)).toInt64))) (S1_width (0) u) u (width_ne c3)) gX1_store_X1_isThere rfl hdX1_isThere ⟨Nat.le_of_ble_eq_true rfl, Nat.le_of_ble_eq_true rfl⟩ hK rfl rfl hl.1 rfl (Nat.le_of_ble_eq_true rfl) dX1_store_42 ⟨Nat.zero_le _, Nat.zero_le _⟩ hP hS (fun _ h => h) (fun H locs hP hS _ _ => ?_)
    refine lv_if_ne (tgt := 50) hx hb dX1_store_45 (by decide) (fun (c4 : ¬ (S1_isThere (S1_plain ((M_x u) + ((S1_withSign (((M_s u) * 32) + (M_d u)) (12)).toInt64))) (S1_width (0) u) u) = 0) => ?_) (fun (c4 : (S1_isThere (S1_plain ((M_x u) + ((S1_withSign (((M_s u) * 32) + (M_d u)) (12)).toInt64))) (S1_width (0) u) u) = 0) => ?_)
    · refine lv_aload_n hx hb dX1_store_50 rfl (lv_at hl 2 rfl) ?_
      refine va_get (D := D) (ci := 1) (v := .long (M_y u)) (C := RX1) (T := TX1) (N := 12) hx hb hts iwX1_store hown hK hP 0 rfl rfl 11 (by decide) (hts (.fieldLink RX1 63 "WordMachineModel" "y" "J") flX1_store_63) (fun _ h9 => h9) rfl dX1_store_51 ?_
      refine lv_lstore (lv' := [(4, .long (M_y u)), (2, .long (S1_plain ((M_x u) + ((S1_withSign (((M_s u) * 32) + (M_d u)) (12)).toInt64)))), (1, .int (S1_width (0) u)), (0, .ref h)]) hx hb dX1_store_54 hl (by decide) rfl (fun ls hl => ?_)
      refine lv_iconst (v := 0) hx hb dX1_store_56 (by decide) ?_
      refine lv_istore (lv' := [(6, .int 0), (4, .long (M_y u)), (2, .long (S1_plain ((M_x u) + ((S1_withSign (((M_s u) * 32) + (M_d u)) (12)).toInt64)))), (1, .int (S1_width (0) u)), (0, .ref h)]) hx hb dX1_store_57 hl (by decide) rfl (fun ls hl => ?_)
      exact J (S1_width (0) u).toNatClampNeg 0 (M_y u) u _ _ hP hS ls (lv_sub hl [0, 1, 2, 3, 4] rfl) (by omega) c4 (by rw [S1_store, if_neg c3, if_neg c4]; rfl)
    · refine lv_iconst (v := 4) hx hb dX1_store_48 (by decide) ?_
      have e9 : S1_store u = ((4 : Int32), u) := by rw [S1_store, if_neg c3, if_pos c4]
      exact W.iret (v := (4 : Int32)) hx hb hr (fun t ht hW => ⟨⟨(4 : Int32), (), rfl, by rw [e9], by show va_P _ _ _ t.heap; rw [e9, ht]; exact hP⟩, hS.F ht⟩) hS.2.2 dX1_store_49
  · refine lv_iconst (v := 3) hx hb dX1_store_10 (by decide) ?_
    have e9 : S1_store u = ((3 : Int32), u) := by rw [S1_store, if_pos c3]
    exact W.iret (v := (3 : Int32)) hx hb hr (fun t ht hW => ⟨⟨(3 : Int32), (), rfl, by rw [e9], by show va_P _ _ _ t.heap; rw [e9, ht]; exact hP⟩, hS.F ht⟩) hS.2.2 dX1_store_11
theorem iwX1_branch : ∀ w ∈ wsX10, w ∈ wsX1_branch := by decide +kernel
theorem flX1_branch_39 : Cond.fieldLink RX1 39 "WordMachineModel" "pc" "I" ∈ wsX1_branch := by decide +kernel
theorem flX1_branch_56 : Cond.fieldLink RX1 56 "WordMachineModel" "t" "I" ∈ wsX1_branch := by decide +kernel
theorem flX1_branch_59 : Cond.fieldLink RX1 59 "WordMachineModel" "x" "J" ∈ wsX1_branch := by decide +kernel
theorem flX1_branch_63 : Cond.fieldLink RX1 63 "WordMachineModel" "y" "J" ∈ wsX1_branch := by decide +kernel
theorem hdX1_branch : yX1_branch.cls = RX1 ∧ yX1_branch.cls ≠ "java/lang/invoke/MethodHandle" ∧ yX1_branch.cls ≠ "java/lang/invoke/VarHandle" ∧ (parseMethodDescriptor yX1_branch.desc).map (fun d => d.parameters.length) = some 1 := by decide +kernel
set_option maxHeartbeats 4000000 in
set_option maxRecDepth 100000 in
theorem c1_branch (l : Launch) {D : va_G} {cI cJ cB : ClassId} {h q1 q2 q3 : Nat} (hap : ap4 h q1 q2 q3) (wa : Int32) (u : MS)  : Ini l yX1_branch wsX1_branch 2 43 D (ty1 cI cJ cB) (wa0 h q1 q2 q3) [.ref h, .int wa] (ww1 cI cJ cB h q1 q2 q3 u) (ww1 cI cJ cB h q1 q2 q3 (S1_branch wa u).2) (S1_branch wa u).1 := by
  refine Met.ofW (cc := cX1_branch) (maxL := 4) (ret := (some .int)) (by decide) rfl ?_
  intro p e s m args below meth c s₁ B hml hv
  obtain ⟨rfl, hP, hK⟩ := hv
  have hx := B.exec
  have hb := B.bytes
  have hr := B.returns
  have hts := atoms_spec (ws := wsX1_branch) B.pre
  have hown : s.vm.findClass RX1 = some m.cls := findClass_of_methodNamed B.named
  have hlocks := B.notSynchronized
  have hS : va_S (wa0 h q1 q2 q3) s.heap s.heap [] := va_S.rf
  have hl := lv_entry ([.ref h, .int wa]) (n := 4) (Nat.le_of_ble_eq_true rfl)
  rw [lg_entry_eq]
  generalize (lg_sl ([.ref h, .int wa]) ++ List.replicate (4 - (lg_sl ([.ref h, .int wa])).length) Slot.unset).toArray = ls at hl ⊢
  have hl : lv_has ls 4 [(0, .ref h), (1, .int wa)] := hl
  have J : ∀ (hv : Int32) (H : Heap) (locs : List Loc), va_P D vwCl (ww1 cI cJ cB h q1 q2 q3 u) H → va_S (wa0 h q1 q2 q3) s.heap H locs → ∀ ls : Array Slot, lv_has ls 4 [(2, .int hv), (1, .int wa), (0, .ref h)] → S1_branch wa u = S1_branch_j wa hv u → W p l e (headSpec wsX1_branch ({ frames := 2, cells := 0, slots := 0, locals := 43 })).room s m ([.ref h, .int wa] : List Value).toArray below meth c H locs 0 0 (MQ below (va_Qi (fun (r : Int32) (_ : Unit) => r = (S1_branch wa u).1) (fun _ t => va_P D vwCl (ww1 cI cJ cB h q1 q2 q3 (S1_branch wa u).2) t.heap) (wa0 h q1 q2 q3)) ([.ref h, .int wa] : List Value).toArray s 0 0 (wa0 h q1 q2 q3)) (F0 m 192 ls []) := by
    intro hv H locs hP hS ls hl hs
    refine lv_iload_n hx hb dX1_branch_192 rfl (lv_at hl 1 rfl) ?_
    refine lv_bipush (v := 8) hx hb dX1_branch_193 (by decide) ?_
    refine lv_iconst (v := 4) hx hb dX1_branch_195 (by decide) ?_
    refine pu_i (v := S1_bits wa (8) (4)) (As := [.int wa, .int 8, .int 4]) (rest := []) ⟨hx, hb, hml, hown, hts⟩ (c1_bits l wa (8) (4) ) gX1_branch_X1_bits rfl hdX1_bits ⟨Nat.le_of_ble_eq_true rfl, Nat.le_of_ble_eq_true rfl⟩ hl.1 rfl (Nat.le_of_ble_eq_true rfl) dX1_branch_196 ⟨Nat.zero_le _, Nat.zero_le _⟩ hP hS (fun H locs hP hS => ?_)
    refine lv_iconst (v := 2) hx hb dX1_branch_199 (by decide) ?_
    refine lv_imul hx hb dX1_branch_200 ?_
    refine lv_iload_n hx hb dX1_branch_201 rfl (lv_at hl 1 rfl) ?_
    refine lv_bipush (v := 25) hx hb dX1_branch_202 (by decide) ?_
    refine lv_bipush (v := 6) hx hb dX1_branch_204 (by decide) ?_
    refine pu_i (v := S1_bits wa (25) (6)) (As := [.int wa, .int 25, .int 6]) (rest := [.int ((S1_bits wa (8) (4)) * 2)]) ⟨hx, hb, hml, hown, hts⟩ (c1_bits l wa (25) (6) ) gX1_branch_X1_bits rfl hdX1_bits ⟨Nat.le_of_ble_eq_true rfl, Nat.le_of_ble_eq_true rfl⟩ hl.1 rfl (Nat.le_of_ble_eq_true rfl) dX1_branch_206 ⟨Nat.zero_le _, Nat.zero_le _⟩ hP hS (fun H locs hP hS => ?_)
    refine lv_bipush (v := 32) hx hb dX1_branch_209 (by decide) ?_
    refine lv_imul hx hb dX1_branch_211 ?_
    refine lv_iadd hx hb dX1_branch_212 ?_
    refine lv_iload_n hx hb dX1_branch_213 rfl (lv_at hl 1 rfl) ?_
    refine lv_bipush (v := 7) hx hb dX1_branch_214 (by decide) ?_
    refine lv_iconst (v := 1) hx hb dX1_branch_216 (by decide) ?_
    refine pu_i (v := S1_bits wa (7) (1)) (As := [.int wa, .int 7, .int 1]) (rest := [.int (((S1_bits wa (8) (4)) * 2) + ((S1_bits wa (25) (6)) * 32))]) ⟨hx, hb, hml, hown, hts⟩ (c1_bits l wa (7) (1) ) gX1_branch_X1_bits rfl hdX1_bits ⟨Nat.le_of_ble_eq_true rfl, Nat.le_of_ble_eq_true rfl⟩ hl.1 rfl (Nat.le_of_ble_eq_true rfl) dX1_branch_217 ⟨Nat.zero_le _, Nat.zero_le _⟩ hP hS (fun H locs hP hS => ?_)
    refine lv_sipush (v := 2048) hx hb dX1_branch_220 (by decide) ?_
    refine lv_imul hx hb dX1_branch_223 ?_
    refine lv_iadd hx hb dX1_branch_224 ?_
    refine lv_iload_n hx hb dX1_branch_225 rfl (lv_at hl 1 rfl) ?_
    refine lv_bipush (v := 31) hx hb dX1_branch_226 (by decide) ?_
    refine lv_iconst (v := 1) hx hb dX1_branch_228 (by decide) ?_
    refine pu_i (v := S1_bits wa (31) (1)) (As := [.int wa, .int 31, .int 1]) (rest := [.int ((((S1_bits wa (8) (4)) * 2) + ((S1_bits wa (25) (6)) * 32)) + ((S1_bits wa (7) (1)) * 2048))]) ⟨hx, hb, hml, hown, hts⟩ (c1_bits l wa (31) (1) ) gX1_branch_X1_bits rfl hdX1_bits ⟨Nat.le_of_ble_eq_true rfl, Nat.le_of_ble_eq_true rfl⟩ hl.1 rfl (Nat.le_of_ble_eq_true rfl) dX1_branch_229 ⟨Nat.zero_le _, Nat.zero_le _⟩ hP hS (fun H locs hP hS => ?_)
    refine lv_sipush (v := 4096) hx hb dX1_branch_232 (by decide) ?_
    refine lv_imul hx hb dX1_branch_235 ?_
    refine lv_iadd hx hb dX1_branch_236 ?_
    refine lv_istore_n (lv' := [(3, .int (((((S1_bits wa (8) (4)) * 2) + ((S1_bits wa (25) (6)) * 32)) + ((S1_bits wa (7) (1)) * 2048)) + ((S1_bits wa (31) (1)) * 4096))), (2, .int hv), (1, .int wa), (0, .ref h)]) hx hb dX1_branch_237 rfl hl (by decide) rfl (fun ls hl => ?_)
    refine lv_aload_n hx hb dX1_branch_238 rfl (lv_at hl 3 rfl) ?_
    refine lv_dup hx hb dX1_branch_239 rfl ?_
    refine va_get (D := D) (ci := 1) (v := .int (M_pc u)) (C := RX1) (T := TX1) (N := 12) hx hb hts iwX1_branch hown hK hP 0 rfl rfl 2 (by decide) (hts (.fieldLink RX1 39 "WordMachineModel" "pc" "I") flX1_branch_39) (fun _ h9 => h9) rfl dX1_branch_240 ?_
    refine lv_iload_n hx hb dX1_branch_243 rfl (lv_at hl 1 rfl) ?_
    refine lv_if_eq (tgt := 256) hx hb dX1_branch_244 (by decide) (fun (c1 : hv = 0) => ?_) (fun (c1 : ¬ hv = 0) => ?_)
    · refine lv_iconst (v := 4) hx hb dX1_branch_256 (by decide) ?_
      refine lv_iadd hx hb dX1_branch_257 ?_
      refine va_put (D := D) (ci := 1) (v := .int ((M_pc u) + 4)) (ty := .int) (C := RX1) (T := TX1) (N := 12) hx hb hts iwX1_branch tyX1 tyX1_ok nmX1 hown hK hP (ap4_D hap) hS 0 rfl rfl 2 (by decide) (hts (.fieldLink RX1 39 "WordMachineModel" "pc" "I") flX1_branch_39) (fun _ h9 => h9) rfl (by decide +kernel) rfl rfl (Nat.le_of_ble_eq_true rfl) dX1_branch_258 (fun H locs hP _ hS => ?_)
      have hP : va_P D vwCl (ww1 cI cJ cB h q1 q2 q3 (Mp_pc ((M_pc u) + 4) u)) H := hP
      refine lv_iconst (v := 0) hx hb dX1_branch_261 (by decide) ?_
      have e9 : S1_branch wa u = ((0 : Int32), Mp_pc ((M_pc u) + 4) u) := by rw [hs, S1_branch_j, if_pos c1]
      exact W.iret (v := (0 : Int32)) hx hb hr (fun t ht hW => ⟨⟨(0 : Int32), (), rfl, by rw [e9], by show va_P _ _ _ t.heap; rw [e9, ht]; exact hP⟩, hS.F ht⟩) hS.2.2 dX1_branch_262
    · refine lv_iload_n hx hb dX1_branch_247 rfl (lv_at hl 0 rfl) ?_
      refine lv_bipush (v := 13) hx hb dX1_branch_248 (by decide) ?_
      refine pu_i (v := S1_withSign (((((S1_bits wa (8) (4)) * 2) + ((S1_bits wa (25) (6)) * 32)) + ((S1_bits wa (7) (1)) * 2048)) + ((S1_bits wa (31) (1)) * 4096)) (13)) (As := [.int (((((S1_bits wa (8) (4)) * 2) + ((S1_bits wa (25) (6)) * 32)) + ((S1_bits wa (7) (1)) * 2048)) + ((S1_bits wa (31) (1)) * 4096)), .int 13]) (rest := [.int (M_pc u), .ref h]) ⟨hx, hb, hml, hown, hts⟩ (c1_withSign l (((((S1_bits wa (8) (4)) * 2) + ((S1_bits wa (25) (6)) * 32)) + ((S1_bits wa (7) (1)) * 2048)) + ((S1_bits wa (31) (1)) * 4096)) (13) ) gX1_branch_X1_withSign rfl hdX1_withSign ⟨Nat.le_of_ble_eq_true rfl, Nat.le_of_ble_eq_true rfl⟩ hl.1 rfl (Nat.le_of_ble_eq_true rfl) dX1_branch_250 ⟨Nat.zero_le _, Nat.zero_le _⟩ hP hS (fun H locs hP hS => ?_)
      refine lv_goto (tgt := 257) hx hb dX1_branch_253 (by decide) ?_
      refine lv_iadd hx hb dX1_branch_257 ?_
      refine va_put (D := D) (ci := 1) (v := .int ((M_pc u) + (S1_withSign (((((S1_bits wa (8) (4)) * 2) + ((S1_bits wa (25) (6)) * 32)) + ((S1_bits wa (7) (1)) * 2048)) + ((S1_bits wa (31) (1)) * 4096)) (13)))) (ty := .int) (C := RX1) (T := TX1) (N := 12) hx hb hts iwX1_branch tyX1 tyX1_ok nmX1 hown hK hP (ap4_D hap) hS 0 rfl rfl 2 (by decide) (hts (.fieldLink RX1 39 "WordMachineModel" "pc" "I") flX1_branch_39) (fun _ h9 => h9) rfl (by decide +kernel) rfl rfl (Nat.le_of_ble_eq_true rfl) dX1_branch_258 (fun H locs hP _ hS => ?_)
      have hP : va_P D vwCl (ww1 cI cJ cB h q1 q2 q3 (Mp_pc ((M_pc u) + (S1_withSign (((((S1_bits wa (8) (4)) * 2) + ((S1_bits wa (25) (6)) * 32)) + ((S1_bits wa (7) (1)) * 2048)) + ((S1_bits wa (31) (1)) * 4096)) (13))) u)) H := hP
      refine lv_iconst (v := 0) hx hb dX1_branch_261 (by decide) ?_
      have e9 : S1_branch wa u = ((0 : Int32), Mp_pc ((M_pc u) + (S1_withSign (((((S1_bits wa (8) (4)) * 2) + ((S1_bits wa (25) (6)) * 32)) + ((S1_bits wa (7) (1)) * 2048)) + ((S1_bits wa (31) (1)) * 4096)) (13))) u) := by rw [hs, S1_branch_j, if_neg c1]
      exact W.iret (v := (0 : Int32)) hx hb hr (fun t ht hW => ⟨⟨(0 : Int32), (), rfl, by rw [e9], by show va_P _ _ _ t.heap; rw [e9, ht]; exact hP⟩, hS.F ht⟩) hS.2.2 dX1_branch_262
  refine lv_aload_n hx hb dX1_branch_0 rfl (lv_at hl 0 rfl) ?_
  refine va_get (D := D) (ci := 1) (v := .int (M_t u)) (C := RX1) (T := TX1) (N := 12) hx hb hts iwX1_branch hown hK hP 0 rfl rfl 7 (by decide) (hts (.fieldLink RX1 56 "WordMachineModel" "t" "I") flX1_branch_56) (fun _ h9 => h9) rfl dX1_branch_1 ?_
  by_cases c2 : (M_t u) = 0
  · refine lv_tableIn (tgt := 52) hx hb dX1_branch_4 (by rw [c2]; decide) (by rw [c2]; decide) (by rw [c2]; rfl) (by decide) ?_
    refine lv_aload_n hx hb dX1_branch_52 rfl (lv_at hl 0 rfl) ?_
    refine va_get (D := D) (ci := 1) (v := .long (M_x u)) (C := RX1) (T := TX1) (N := 12) hx hb hts iwX1_branch hown hK hP 0 rfl rfl 10 (by decide) (hts (.fieldLink RX1 59 "WordMachineModel" "x" "J") flX1_branch_59) (fun _ h9 => h9) rfl dX1_branch_53 ?_
    refine lv_aload_n hx hb dX1_branch_56 rfl (lv_at hl 0 rfl) ?_
    refine va_get (D := D) (ci := 1) (v := .long (M_y u)) (C := RX1) (T := TX1) (N := 12) hx hb hts iwX1_branch hown hK hP 0 rfl rfl 11 (by decide) (hts (.fieldLink RX1 63 "WordMachineModel" "y" "J") flX1_branch_63) (fun _ h9 => h9) rfl dX1_branch_57 ?_
    refine W.lcmp hx hb dX1_branch_60 ?_
    refine lv_if_ne (tgt := 68) hx hb dX1_branch_61 (by decide) (fun (c3 : ¬ (lg_cmp (M_x u) (M_y u)) = 0) => ?_) (fun (c3 : (lg_cmp (M_x u) (M_y u)) = 0) => ?_)
    · refine lv_iconst (v := 0) hx hb dX1_branch_68 (by decide) ?_
      refine lv_istore_n (lv' := [(2, .int 0), (0, .ref h), (1, .int wa)]) hx hb dX1_branch_69 rfl hl (by decide) rfl (fun ls hl => ?_)
      refine lv_goto (tgt := 192) hx hb dX1_branch_70 (by decide) ?_
      exact J (0) _ _ hP hS ls (lv_sub hl [0, 2, 1] rfl) (by rw [S1_branch, if_pos c2, if_neg c3])
    · refine lv_iconst (v := 1) hx hb dX1_branch_64 (by decide) ?_
      refine lv_goto (tgt := 69) hx hb dX1_branch_65 (by decide) ?_
      refine lv_istore_n (lv' := [(2, .int 1), (0, .ref h), (1, .int wa)]) hx hb dX1_branch_69 rfl hl (by decide) rfl (fun ls hl => ?_)
      refine lv_goto (tgt := 192) hx hb dX1_branch_70 (by decide) ?_
      exact J (1) _ _ hP hS ls (lv_sub hl [0, 2, 1] rfl) (by rw [S1_branch, if_pos c2, if_pos c3])
  · skip
    by_cases c4 : (M_t u) = 1
    · refine lv_tableIn (tgt := 73) hx hb dX1_branch_4 (by rw [c4]; decide) (by rw [c4]; decide) (by rw [c4]; rfl) (by decide) ?_
      refine lv_aload_n hx hb dX1_branch_73 rfl (lv_at hl 0 rfl) ?_
      refine va_get (D := D) (ci := 1) (v := .long (M_x u)) (C := RX1) (T := TX1) (N := 12) hx hb hts iwX1_branch hown hK hP 0 rfl rfl 10 (by decide) (hts (.fieldLink RX1 59 "WordMachineModel" "x" "J") flX1_branch_59) (fun _ h9 => h9) rfl dX1_branch_74 ?_
      refine lv_aload_n hx hb dX1_branch_77 rfl (lv_at hl 0 rfl) ?_
      refine va_get (D := D) (ci := 1) (v := .long (M_y u)) (C := RX1) (T := TX1) (N := 12) hx hb hts iwX1_branch hown hK hP 0 rfl rfl 11 (by decide) (hts (.fieldLink RX1 63 "WordMachineModel" "y" "J") flX1_branch_63) (fun _ h9 => h9) rfl dX1_branch_78 ?_
      refine W.lcmp hx hb dX1_branch_81 ?_
      refine lv_if_eq (tgt := 89) hx hb dX1_branch_82 (by decide) (fun (c5 : (lg_cmp (M_x u) (M_y u)) = 0) => ?_) (fun (c5 : ¬ (lg_cmp (M_x u) (M_y u)) = 0) => ?_)
      · refine lv_iconst (v := 0) hx hb dX1_branch_89 (by decide) ?_
        refine lv_istore_n (lv' := [(2, .int 0), (0, .ref h), (1, .int wa)]) hx hb dX1_branch_90 rfl hl (by decide) rfl (fun ls hl => ?_)
        refine lv_goto (tgt := 192) hx hb dX1_branch_91 (by decide) ?_
        exact J (0) _ _ hP hS ls (lv_sub hl [0, 2, 1] rfl) (by rw [S1_branch, if_neg c2, if_pos c4, if_pos c5])
      · refine lv_iconst (v := 1) hx hb dX1_branch_85 (by decide) ?_
        refine lv_goto (tgt := 90) hx hb dX1_branch_86 (by decide) ?_
        refine lv_istore_n (lv' := [(2, .int 1), (0, .ref h), (1, .int wa)]) hx hb dX1_branch_90 rfl hl (by decide) rfl (fun ls hl => ?_)
        refine lv_goto (tgt := 192) hx hb dX1_branch_91 (by decide) ?_
        exact J (1) _ _ hP hS ls (lv_sub hl [0, 2, 1] rfl) (by rw [S1_branch, if_neg c2, if_pos c4, if_neg c5])
    · skip
      by_cases c6 : (M_t u) = 2
      · refine lv_tableIn (tgt := 190) hx hb dX1_branch_4 (by rw [c6]; decide) (by rw [c6]; decide) (by rw [c6]; rfl) (by decide) ?_
        refine lv_iconst (v := 3) hx hb dX1_branch_190 (by decide) ?_
        have e9 : S1_branch wa u = ((3 : Int32), u) := by rw [S1_branch, if_neg c2, if_neg c4, if_pos c6]
        exact W.iret (v := (3 : Int32)) hx hb hr (fun t ht hW => ⟨⟨(3 : Int32), (), rfl, by rw [e9], by show va_P _ _ _ t.heap; rw [e9, ht]; exact hP⟩, hS.F ht⟩) hS.2.2 dX1_branch_191
      · skip
        by_cases c7 : (M_t u) = 3
        · refine lv_tableIn (tgt := 190) hx hb dX1_branch_4 (by rw [c7]; decide) (by rw [c7]; decide) (by rw [c7]; rfl) (by decide) ?_
          refine lv_iconst (v := 3) hx hb dX1_branch_190 (by decide) ?_
          have e9 : S1_branch wa u = ((3 : Int32), u) := by rw [S1_branch, if_neg c2, if_neg c4, if_neg c6, if_pos c7]
          exact W.iret (v := (3 : Int32)) hx hb hr (fun t ht hW => ⟨⟨(3 : Int32), (), rfl, by rw [e9], by show va_P _ _ _ t.heap; rw [e9, ht]; exact hP⟩, hS.F ht⟩) hS.2.2 dX1_branch_191
        · skip
          by_cases c8 : (M_t u) = 4
          · refine lv_tableIn (tgt := 94) hx hb dX1_branch_4 (by rw [c8]; decide) (by rw [c8]; decide) (by rw [c8]; rfl) (by decide) ?_
            refine lv_aload_n hx hb dX1_branch_94 rfl (lv_at hl 0 rfl) ?_
            refine va_get (D := D) (ci := 1) (v := .long (M_x u)) (C := RX1) (T := TX1) (N := 12) hx hb hts iwX1_branch hown hK hP 0 rfl rfl 10 (by decide) (hts (.fieldLink RX1 59 "WordMachineModel" "x" "J") flX1_branch_59) (fun _ h9 => h9) rfl dX1_branch_95 ?_
            refine pu_l (v := S1_signed (M_x u)) (As := [.long (M_x u)]) (rest := []) ⟨hx, hb, hml, hown, hts⟩ (c1_signed l (M_x u) ) gX1_branch_X1_signed rfl hdX1_signed ⟨Nat.le_of_ble_eq_true rfl, Nat.le_of_ble_eq_true rfl⟩ hl.1 rfl (Nat.le_of_ble_eq_true rfl) dX1_branch_98 ⟨Nat.zero_le _, Nat.zero_le _⟩ hP hS (fun H locs hP hS => ?_)
            refine lv_aload_n hx hb dX1_branch_101 rfl (lv_at hl 0 rfl) ?_
            refine va_get (D := D) (ci := 1) (v := .long (M_y u)) (C := RX1) (T := TX1) (N := 12) hx hb hts iwX1_branch hown hK hP 0 rfl rfl 11 (by decide) (hts (.fieldLink RX1 63 "WordMachineModel" "y" "J") flX1_branch_63) (fun _ h9 => h9) rfl dX1_branch_102 ?_
            refine pu_l (v := S1_signed (M_y u)) (As := [.long (M_y u)]) (rest := [.long (S1_signed (M_x u))]) ⟨hx, hb, hml, hown, hts⟩ (c1_signed l (M_y u) ) gX1_branch_X1_signed rfl hdX1_signed ⟨Nat.le_of_ble_eq_true rfl, Nat.le_of_ble_eq_true rfl⟩ hl.1 rfl (Nat.le_of_ble_eq_true rfl) dX1_branch_105 ⟨Nat.zero_le _, Nat.zero_le _⟩ hP hS (fun H locs hP hS => ?_)
            refine W.lcmp hx hb dX1_branch_108 ?_
            refine lv_if_ge (tgt := 116) hx hb dX1_branch_109 (by decide) (fun (c9 : 0 ≤ (lg_cmp (S1_signed (M_x u)) (S1_signed (M_y u)))) => ?_) (fun (c9 : ¬ 0 ≤ (lg_cmp (S1_signed (M_x u)) (S1_signed (M_y u)))) => ?_)
            · refine lv_iconst (v := 0) hx hb dX1_branch_116 (by decide) ?_
              refine lv_istore_n (lv' := [(2, .int 0), (0, .ref h), (1, .int wa)]) hx hb dX1_branch_117 rfl hl (by decide) rfl (fun ls hl => ?_)
              refine lv_goto (tgt := 192) hx hb dX1_branch_118 (by decide) ?_
              exact J (0) _ _ hP hS ls (lv_sub hl [0, 2, 1] rfl) (by rw [S1_branch, if_neg c2, if_neg c4, if_neg c6, if_neg c7, if_pos c8, if_pos c9])
            · refine lv_iconst (v := 1) hx hb dX1_branch_112 (by decide) ?_
              refine lv_goto (tgt := 117) hx hb dX1_branch_113 (by decide) ?_
              refine lv_istore_n (lv' := [(2, .int 1), (0, .ref h), (1, .int wa)]) hx hb dX1_branch_117 rfl hl (by decide) rfl (fun ls hl => ?_)
              refine lv_goto (tgt := 192) hx hb dX1_branch_118 (by decide) ?_
              exact J (1) _ _ hP hS ls (lv_sub hl [0, 2, 1] rfl) (by rw [S1_branch, if_neg c2, if_neg c4, if_neg c6, if_neg c7, if_pos c8, if_neg c9])
          · skip
            by_cases c10 : (M_t u) = 5
            · refine lv_tableIn (tgt := 121) hx hb dX1_branch_4 (by rw [c10]; decide) (by rw [c10]; decide) (by rw [c10]; rfl) (by decide) ?_
              refine lv_aload_n hx hb dX1_branch_121 rfl (lv_at hl 0 rfl) ?_
              refine va_get (D := D) (ci := 1) (v := .long (M_x u)) (C := RX1) (T := TX1) (N := 12) hx hb hts iwX1_branch hown hK hP 0 rfl rfl 10 (by decide) (hts (.fieldLink RX1 59 "WordMachineModel" "x" "J") flX1_branch_59) (fun _ h9 => h9) rfl dX1_branch_122 ?_
              refine pu_l (v := S1_signed (M_x u)) (As := [.long (M_x u)]) (rest := []) ⟨hx, hb, hml, hown, hts⟩ (c1_signed l (M_x u) ) gX1_branch_X1_signed rfl hdX1_signed ⟨Nat.le_of_ble_eq_true rfl, Nat.le_of_ble_eq_true rfl⟩ hl.1 rfl (Nat.le_of_ble_eq_true rfl) dX1_branch_125 ⟨Nat.zero_le _, Nat.zero_le _⟩ hP hS (fun H locs hP hS => ?_)
              refine lv_aload_n hx hb dX1_branch_128 rfl (lv_at hl 0 rfl) ?_
              refine va_get (D := D) (ci := 1) (v := .long (M_y u)) (C := RX1) (T := TX1) (N := 12) hx hb hts iwX1_branch hown hK hP 0 rfl rfl 11 (by decide) (hts (.fieldLink RX1 63 "WordMachineModel" "y" "J") flX1_branch_63) (fun _ h9 => h9) rfl dX1_branch_129 ?_
              refine pu_l (v := S1_signed (M_y u)) (As := [.long (M_y u)]) (rest := [.long (S1_signed (M_x u))]) ⟨hx, hb, hml, hown, hts⟩ (c1_signed l (M_y u) ) gX1_branch_X1_signed rfl hdX1_signed ⟨Nat.le_of_ble_eq_true rfl, Nat.le_of_ble_eq_true rfl⟩ hl.1 rfl (Nat.le_of_ble_eq_true rfl) dX1_branch_132 ⟨Nat.zero_le _, Nat.zero_le _⟩ hP hS (fun H locs hP hS => ?_)
              refine W.lcmp hx hb dX1_branch_135 ?_
              refine lv_if_lt (tgt := 143) hx hb dX1_branch_136 (by decide) (fun (c11 : (lg_cmp (S1_signed (M_x u)) (S1_signed (M_y u))) < 0) => ?_) (fun (c11 : ¬ (lg_cmp (S1_signed (M_x u)) (S1_signed (M_y u))) < 0) => ?_)
              · refine lv_iconst (v := 0) hx hb dX1_branch_143 (by decide) ?_
                refine lv_istore_n (lv' := [(2, .int 0), (0, .ref h), (1, .int wa)]) hx hb dX1_branch_144 rfl hl (by decide) rfl (fun ls hl => ?_)
                refine lv_goto (tgt := 192) hx hb dX1_branch_145 (by decide) ?_
                exact J (0) _ _ hP hS ls (lv_sub hl [0, 2, 1] rfl) (by rw [S1_branch, if_neg c2, if_neg c4, if_neg c6, if_neg c7, if_neg c8, if_pos c10, if_pos c11])
              · refine lv_iconst (v := 1) hx hb dX1_branch_139 (by decide) ?_
                refine lv_goto (tgt := 144) hx hb dX1_branch_140 (by decide) ?_
                refine lv_istore_n (lv' := [(2, .int 1), (0, .ref h), (1, .int wa)]) hx hb dX1_branch_144 rfl hl (by decide) rfl (fun ls hl => ?_)
                refine lv_goto (tgt := 192) hx hb dX1_branch_145 (by decide) ?_
                exact J (1) _ _ hP hS ls (lv_sub hl [0, 2, 1] rfl) (by rw [S1_branch, if_neg c2, if_neg c4, if_neg c6, if_neg c7, if_neg c8, if_pos c10, if_neg c11])
            · skip
              by_cases c12 : (M_t u) = 6
              · refine lv_tableIn (tgt := 148) hx hb dX1_branch_4 (by rw [c12]; decide) (by rw [c12]; decide) (by rw [c12]; rfl) (by decide) ?_
                refine lv_aload_n hx hb dX1_branch_148 rfl (lv_at hl 0 rfl) ?_
                refine va_get (D := D) (ci := 1) (v := .long (M_x u)) (C := RX1) (T := TX1) (N := 12) hx hb hts iwX1_branch hown hK hP 0 rfl rfl 10 (by decide) (hts (.fieldLink RX1 59 "WordMachineModel" "x" "J") flX1_branch_59) (fun _ h9 => h9) rfl dX1_branch_149 ?_
                refine lv_aload_n hx hb dX1_branch_152 rfl (lv_at hl 0 rfl) ?_
                refine va_get (D := D) (ci := 1) (v := .long (M_y u)) (C := RX1) (T := TX1) (N := 12) hx hb hts iwX1_branch hown hK hP 0 rfl rfl 11 (by decide) (hts (.fieldLink RX1 63 "WordMachineModel" "y" "J") flX1_branch_63) (fun _ h9 => h9) rfl dX1_branch_153 ?_
                refine W.lcmp hx hb dX1_branch_156 ?_
                refine lv_if_ge (tgt := 164) hx hb dX1_branch_157 (by decide) (fun (c13 : 0 ≤ (lg_cmp (M_x u) (M_y u))) => ?_) (fun (c13 : ¬ 0 ≤ (lg_cmp (M_x u) (M_y u))) => ?_)
                · refine lv_iconst (v := 0) hx hb dX1_branch_164 (by decide) ?_
                  refine lv_istore_n (lv' := [(2, .int 0), (0, .ref h), (1, .int wa)]) hx hb dX1_branch_165 rfl hl (by decide) rfl (fun ls hl => ?_)
                  refine lv_goto (tgt := 192) hx hb dX1_branch_166 (by decide) ?_
                  exact J (0) _ _ hP hS ls (lv_sub hl [0, 2, 1] rfl) (by rw [S1_branch, if_neg c2, if_neg c4, if_neg c6, if_neg c7, if_neg c8, if_neg c10, if_pos c12, if_pos c13])
                · refine lv_iconst (v := 1) hx hb dX1_branch_160 (by decide) ?_
                  refine lv_goto (tgt := 165) hx hb dX1_branch_161 (by decide) ?_
                  refine lv_istore_n (lv' := [(2, .int 1), (0, .ref h), (1, .int wa)]) hx hb dX1_branch_165 rfl hl (by decide) rfl (fun ls hl => ?_)
                  refine lv_goto (tgt := 192) hx hb dX1_branch_166 (by decide) ?_
                  exact J (1) _ _ hP hS ls (lv_sub hl [0, 2, 1] rfl) (by rw [S1_branch, if_neg c2, if_neg c4, if_neg c6, if_neg c7, if_neg c8, if_neg c10, if_pos c12, if_neg c13])
              · skip
                by_cases c14 : (M_t u) = 7
                · refine lv_tableIn (tgt := 169) hx hb dX1_branch_4 (by rw [c14]; decide) (by rw [c14]; decide) (by rw [c14]; rfl) (by decide) ?_
                  refine lv_aload_n hx hb dX1_branch_169 rfl (lv_at hl 0 rfl) ?_
                  refine va_get (D := D) (ci := 1) (v := .long (M_x u)) (C := RX1) (T := TX1) (N := 12) hx hb hts iwX1_branch hown hK hP 0 rfl rfl 10 (by decide) (hts (.fieldLink RX1 59 "WordMachineModel" "x" "J") flX1_branch_59) (fun _ h9 => h9) rfl dX1_branch_170 ?_
                  refine lv_aload_n hx hb dX1_branch_173 rfl (lv_at hl 0 rfl) ?_
                  refine va_get (D := D) (ci := 1) (v := .long (M_y u)) (C := RX1) (T := TX1) (N := 12) hx hb hts iwX1_branch hown hK hP 0 rfl rfl 11 (by decide) (hts (.fieldLink RX1 63 "WordMachineModel" "y" "J") flX1_branch_63) (fun _ h9 => h9) rfl dX1_branch_174 ?_
                  refine W.lcmp hx hb dX1_branch_177 ?_
                  refine lv_if_lt (tgt := 185) hx hb dX1_branch_178 (by decide) (fun (c15 : (lg_cmp (M_x u) (M_y u)) < 0) => ?_) (fun (c15 : ¬ (lg_cmp (M_x u) (M_y u)) < 0) => ?_)
                  · refine lv_iconst (v := 0) hx hb dX1_branch_185 (by decide) ?_
                    refine lv_istore_n (lv' := [(2, .int 0), (0, .ref h), (1, .int wa)]) hx hb dX1_branch_186 rfl hl (by decide) rfl (fun ls hl => ?_)
                    refine lv_goto (tgt := 192) hx hb dX1_branch_187 (by decide) ?_
                    exact J (0) _ _ hP hS ls (lv_sub hl [0, 2, 1] rfl) (by rw [S1_branch, if_neg c2, if_neg c4, if_neg c6, if_neg c7, if_neg c8, if_neg c10, if_neg c12, if_pos c14, if_pos c15])
                  · refine lv_iconst (v := 1) hx hb dX1_branch_181 (by decide) ?_
                    refine lv_goto (tgt := 186) hx hb dX1_branch_182 (by decide) ?_
                    refine lv_istore_n (lv' := [(2, .int 1), (0, .ref h), (1, .int wa)]) hx hb dX1_branch_186 rfl hl (by decide) rfl (fun ls hl => ?_)
                    refine lv_goto (tgt := 192) hx hb dX1_branch_187 (by decide) ?_
                    exact J (1) _ _ hP hS ls (lv_sub hl [0, 2, 1] rfl) (by rw [S1_branch, if_neg c2, if_neg c4, if_neg c6, if_neg c7, if_neg c8, if_neg c10, if_neg c12, if_pos c14, if_neg c15])
                · skip
                  refine lv_tableOut (tgt := 190) hx hb dX1_branch_4 (by have nc2 := lv_neT c2 (show (0 : Int32).toInt = 0 from by decide); have nc4 := lv_neT c4 (show (1 : Int32).toInt = 1 from by decide); have nc6 := lv_neT c6 (show (2 : Int32).toInt = 2 from by decide); have nc7 := lv_neT c7 (show (3 : Int32).toInt = 3 from by decide); have nc8 := lv_neT c8 (show (4 : Int32).toInt = 4 from by decide); have nc10 := lv_neT c10 (show (5 : Int32).toInt = 5 from by decide); have nc12 := lv_neT c12 (show (6 : Int32).toInt = 6 from by decide); have nc14 := lv_neT c14 (show (7 : Int32).toInt = 7 from by decide); omega) (by decide) ?_
                  refine lv_iconst (v := 3) hx hb dX1_branch_190 (by decide) ?_
                  have e9 : S1_branch wa u = ((3 : Int32), u) := by rw [S1_branch, if_neg c2, if_neg c4, if_neg c6, if_neg c7, if_neg c8, if_neg c10, if_neg c12, if_neg c14]
                  exact W.iret (v := (3 : Int32)) hx hb hr (fun t ht hW => ⟨⟨(3 : Int32), (), rfl, by rw [e9], by show va_P _ _ _ t.heap; rw [e9, ht]; exact hP⟩, hS.F ht⟩) hS.2.2 dX1_branch_191
theorem iwX1_work : ∀ w ∈ wsX10, w ∈ wsX1_work := by decide +kernel
theorem flX1_work_39 : Cond.fieldLink RX1 39 "WordMachineModel" "pc" "I" ∈ wsX1_work := by decide +kernel
theorem flX1_work_53 : Cond.fieldLink RX1 53 "WordMachineModel" "d" "I" ∈ wsX1_work := by decide +kernel
theorem flX1_work_56 : Cond.fieldLink RX1 56 "WordMachineModel" "t" "I" ∈ wsX1_work := by decide +kernel
theorem flX1_work_59 : Cond.fieldLink RX1 59 "WordMachineModel" "x" "J" ∈ wsX1_work := by decide +kernel
theorem flX1_work_73 : Cond.fieldLink RX1 73 "WordMachineModel" "immediate" "I" ∈ wsX1_work := by decide +kernel
theorem ctX1_work_83 : Cond.constant RX1 83 (1048576) ∈ wsX1_work := by decide +kernel
theorem hdX1_work : yX1_work.cls = RX1 ∧ yX1_work.cls ≠ "java/lang/invoke/MethodHandle" ∧ yX1_work.cls ≠ "java/lang/invoke/VarHandle" ∧ (parseMethodDescriptor yX1_work.desc).map (fun d => d.parameters.length) = some 2 := by decide +kernel
set_option maxHeartbeats 4000000 in
set_option maxRecDepth 100000 in
theorem c1_work (l : Launch) {D : va_G} {cI cJ cB : ClassId} {h q1 q2 q3 : Nat} (hap : ap4 h q1 q2 q3) (oa : Int32) (wa : Int32) (u : MS) (hd : M_d u < 32) (hy : ¬ M_y u = 0 → ¬ S1_signed (M_y u) = 0) : Ini l yX1_work wsX1_work 3 80 D (ty1 cI cJ cB) (wa0 h q1 q2 q3) [.ref h, .int oa, .int wa] (ww1 cI cJ cB h q1 q2 q3 u) (ww1 cI cJ cB h q1 q2 q3 (S1_work oa wa u).2) (S1_work oa wa u).1 := by
  refine Met.ofW (cc := cX1_work) (maxL := 4) (ret := (some .int)) (by decide) rfl ?_
  intro p e s m args below meth c s₁ B hml hv
  obtain ⟨rfl, hP, hK⟩ := hv
  have hx := B.exec
  have hb := B.bytes
  have hr := B.returns
  have hts := atoms_spec (ws := wsX1_work) B.pre
  have hown : s.vm.findClass RX1 = some m.cls := findClass_of_methodNamed B.named
  have hlocks := B.notSynchronized
  have hS : va_S (wa0 h q1 q2 q3) s.heap s.heap [] := va_S.rf
  have hl := lv_entry ([.ref h, .int oa, .int wa]) (n := 4) (Nat.le_of_ble_eq_true rfl)
  rw [lg_entry_eq]
  generalize (lg_sl ([.ref h, .int oa, .int wa]) ++ List.replicate (4 - (lg_sl ([.ref h, .int oa, .int wa])).length) Slot.unset).toArray = ls at hl ⊢
  have hl : lv_has ls 4 [(0, .ref h), (1, .int oa), (2, .int wa)] := hl
  refine lv_iload_n hx hb dX1_work_0 rfl (lv_at hl 1 rfl) ?_
  refine lv_bipush (v := 99) hx hb dX1_work_1 (by decide) ?_
  refine lv_icmp_ne (tgt := 12) hx hb dX1_work_3 (by decide) (fun (c1 : ¬ oa = 99) => ?_) (fun (c1 : oa = 99) => ?_)
  · refine lv_iload_n hx hb dX1_work_12 rfl (lv_at hl 1 rfl) ?_
    refine lv_bipush (v := 111) hx hb dX1_work_13 (by decide) ?_
    refine lv_icmp_ne (tgt := 97) hx hb dX1_work_15 (by decide) (fun (c2 : ¬ oa = 111) => ?_) (fun (c2 : oa = 111) => ?_)
    · refine lv_iload_n hx hb dX1_work_97 rfl (lv_at hl 1 rfl) ?_
      refine lv_bipush (v := 103) hx hb dX1_work_98 (by decide) ?_
      refine lv_icmp_ne (tgt := 147) hx hb dX1_work_100 (by decide) (fun (c3 : ¬ oa = 103) => ?_) (fun (c3 : oa = 103) => ?_)
      · refine lv_iload_n hx hb dX1_work_147 rfl (lv_at hl 1 rfl) ?_
        refine lv_iconst (v := 3) hx hb dX1_work_148 (by decide) ?_
        refine lv_icmp_ne (tgt := 159) hx hb dX1_work_149 (by decide) (fun (c4 : ¬ oa = 3) => ?_) (fun (c4 : oa = 3) => ?_)
        · refine lv_iload_n hx hb dX1_work_159 rfl (lv_at hl 1 rfl) ?_
          refine lv_bipush (v := 35) hx hb dX1_work_160 (by decide) ?_
          refine lv_icmp_ne (tgt := 172) hx hb dX1_work_162 (by decide) (fun (c5 : ¬ oa = 35) => ?_) (fun (c5 : oa = 35) => ?_)
          · refine lv_aload_n hx hb dX1_work_172 rfl (lv_at hl 0 rfl) ?_
            refine lv_iload_n hx hb dX1_work_173 rfl (lv_at hl 1 rfl) ?_
            refine lv_iload_n hx hb dX1_work_174 rfl (lv_at hl 2 rfl) ?_
            refine in_i (v := (S1_number oa wa u).1) (As := [.int oa, .int wa]) (rest := []) (w1 := ww1 cI cJ cB h q1 q2 q3 ((S1_number oa wa u).2)) ⟨hx, hb, hml, hown, hts⟩ (c1_number l hap oa wa u hd hy) gX1_work_X1_number rfl hdX1_number ⟨Nat.le_of_ble_eq_true rfl, Nat.le_of_ble_eq_true rfl⟩ hK rfl rfl hl.1 rfl (Nat.le_of_ble_eq_true rfl) dX1_work_175 ⟨Nat.zero_le _, Nat.zero_le _⟩ hP hS (fun _ h => h) (fun H locs hP hS _ _ => ?_)
            refine lv_istore_n (lv' := [(3, .int ((S1_number oa wa u).1)), (0, .ref h), (1, .int oa), (2, .int wa)]) hx hb dX1_work_178 rfl hl (by decide) rfl (fun ls hl => ?_)
            refine lv_iload_n hx hb dX1_work_179 rfl (lv_at hl 0 rfl) ?_
            refine lv_if_ne (tgt := 193) hx hb dX1_work_180 (by decide) (fun (c6 : ¬ ((S1_number oa wa u).1) = 0) => ?_) (fun (c6 : ((S1_number oa wa u).1) = 0) => ?_)
            · refine lv_iload_n hx hb dX1_work_193 rfl (lv_at hl 0 rfl) ?_
              have e9 : S1_work oa wa u = ((S1_number oa wa u).1, (S1_number oa wa u).2) := by rw [S1_work, if_neg c1, if_neg c2, if_neg c3, if_neg c4, if_neg c5, if_neg c6]
              exact W.iret (v := (S1_number oa wa u).1) hx hb hr (fun t ht hW => ⟨⟨(S1_number oa wa u).1, (), rfl, by rw [e9], by show va_P _ _ _ t.heap; rw [e9, ht]; exact hP⟩, hS.F ht⟩) hS.2.2 dX1_work_194
            · refine lv_aload_n hx hb dX1_work_183 rfl (lv_at hl 1 rfl) ?_
              refine lv_dup hx hb dX1_work_184 rfl ?_
              refine va_get (D := D) (ci := 1) (v := .int (M_pc ((S1_number oa wa u).2))) (C := RX1) (T := TX1) (N := 12) hx hb hts iwX1_work hown hK hP 0 rfl rfl 2 (by decide) (hts (.fieldLink RX1 39 "WordMachineModel" "pc" "I") flX1_work_39) (fun _ h9 => h9) rfl dX1_work_185 ?_
              refine lv_iconst (v := 4) hx hb dX1_work_188 (by decide) ?_
              refine lv_iadd hx hb dX1_work_189 ?_
              refine va_put (D := D) (ci := 1) (v := .int ((M_pc ((S1_number oa wa u).2)) + 4)) (ty := .int) (C := RX1) (T := TX1) (N := 12) hx hb hts iwX1_work tyX1 tyX1_ok nmX1 hown hK hP (ap4_D hap) hS 0 rfl rfl 2 (by decide) (hts (.fieldLink RX1 39 "WordMachineModel" "pc" "I") flX1_work_39) (fun _ h9 => h9) rfl (by decide +kernel) rfl rfl (Nat.le_of_ble_eq_true rfl) dX1_work_190 (fun H locs hP _ hS => ?_)
              have hP : va_P D vwCl (ww1 cI cJ cB h q1 q2 q3 (Mp_pc ((M_pc ((S1_number oa wa u).2)) + 4) ((S1_number oa wa u).2))) H := hP
              refine lv_iload_n hx hb dX1_work_193 rfl (lv_at hl 0 rfl) ?_
              have e9 : S1_work oa wa u = ((S1_number oa wa u).1, Mp_pc ((M_pc ((S1_number oa wa u).2)) + 4) ((S1_number oa wa u).2)) := by rw [S1_work, if_neg c1, if_neg c2, if_neg c3, if_neg c4, if_neg c5, if_pos c6]
              exact W.iret (v := (S1_number oa wa u).1) hx hb hr (fun t ht hW => ⟨⟨(S1_number oa wa u).1, (), rfl, by rw [e9], by show va_P _ _ _ t.heap; rw [e9, ht]; exact hP⟩, hS.F ht⟩) hS.2.2 dX1_work_194
          · refine lv_aload_n hx hb dX1_work_165 rfl (lv_at hl 0 rfl) ?_
            refine in_i (v := (S1_store u).1) (As := []) (rest := []) (w1 := ww1 cI cJ cB h q1 q2 q3 ((S1_store u).2)) ⟨hx, hb, hml, hown, hts⟩ (c1_store l hap  u ) gX1_work_X1_store rfl hdX1_store ⟨Nat.le_of_ble_eq_true rfl, Nat.le_of_ble_eq_true rfl⟩ hK rfl rfl hl.1 rfl (Nat.le_of_ble_eq_true rfl) dX1_work_166 ⟨Nat.zero_le _, Nat.zero_le _⟩ hP hS (fun _ h => h) (fun H locs hP hS _ _ => ?_)
            refine lv_goto (tgt := 178) hx hb dX1_work_169 (by decide) ?_
            refine lv_istore_n (lv' := [(3, .int ((S1_store u).1)), (0, .ref h), (1, .int oa), (2, .int wa)]) hx hb dX1_work_178 rfl hl (by decide) rfl (fun ls hl => ?_)
            refine lv_iload_n hx hb dX1_work_179 rfl (lv_at hl 0 rfl) ?_
            refine lv_if_ne (tgt := 193) hx hb dX1_work_180 (by decide) (fun (c7 : ¬ ((S1_store u).1) = 0) => ?_) (fun (c7 : ((S1_store u).1) = 0) => ?_)
            · refine lv_iload_n hx hb dX1_work_193 rfl (lv_at hl 0 rfl) ?_
              have e9 : S1_work oa wa u = ((S1_store u).1, (S1_store u).2) := by rw [S1_work, if_neg c1, if_neg c2, if_neg c3, if_neg c4, if_pos c5, if_neg c7]
              exact W.iret (v := (S1_store u).1) hx hb hr (fun t ht hW => ⟨⟨(S1_store u).1, (), rfl, by rw [e9], by show va_P _ _ _ t.heap; rw [e9, ht]; exact hP⟩, hS.F ht⟩) hS.2.2 dX1_work_194
            · refine lv_aload_n hx hb dX1_work_183 rfl (lv_at hl 1 rfl) ?_
              refine lv_dup hx hb dX1_work_184 rfl ?_
              refine va_get (D := D) (ci := 1) (v := .int (M_pc ((S1_store u).2))) (C := RX1) (T := TX1) (N := 12) hx hb hts iwX1_work hown hK hP 0 rfl rfl 2 (by decide) (hts (.fieldLink RX1 39 "WordMachineModel" "pc" "I") flX1_work_39) (fun _ h9 => h9) rfl dX1_work_185 ?_
              refine lv_iconst (v := 4) hx hb dX1_work_188 (by decide) ?_
              refine lv_iadd hx hb dX1_work_189 ?_
              refine va_put (D := D) (ci := 1) (v := .int ((M_pc ((S1_store u).2)) + 4)) (ty := .int) (C := RX1) (T := TX1) (N := 12) hx hb hts iwX1_work tyX1 tyX1_ok nmX1 hown hK hP (ap4_D hap) hS 0 rfl rfl 2 (by decide) (hts (.fieldLink RX1 39 "WordMachineModel" "pc" "I") flX1_work_39) (fun _ h9 => h9) rfl (by decide +kernel) rfl rfl (Nat.le_of_ble_eq_true rfl) dX1_work_190 (fun H locs hP _ hS => ?_)
              have hP : va_P D vwCl (ww1 cI cJ cB h q1 q2 q3 (Mp_pc ((M_pc ((S1_store u).2)) + 4) ((S1_store u).2))) H := hP
              refine lv_iload_n hx hb dX1_work_193 rfl (lv_at hl 0 rfl) ?_
              have e9 : S1_work oa wa u = ((S1_store u).1, Mp_pc ((M_pc ((S1_store u).2)) + 4) ((S1_store u).2)) := by rw [S1_work, if_neg c1, if_neg c2, if_neg c3, if_neg c4, if_pos c5, if_pos c7]
              exact W.iret (v := (S1_store u).1) hx hb hr (fun t ht hW => ⟨⟨(S1_store u).1, (), rfl, by rw [e9], by show va_P _ _ _ t.heap; rw [e9, ht]; exact hP⟩, hS.F ht⟩) hS.2.2 dX1_work_194
        · refine lv_aload_n hx hb dX1_work_152 rfl (lv_at hl 0 rfl) ?_
          refine in_i (v := (S1_load u).1) (As := []) (rest := []) (w1 := ww1 cI cJ cB h q1 q2 q3 ((S1_load u).2)) ⟨hx, hb, hml, hown, hts⟩ (c1_load l hap  u hd) gX1_work_X1_load rfl hdX1_load ⟨Nat.le_of_ble_eq_true rfl, Nat.le_of_ble_eq_true rfl⟩ hK rfl rfl hl.1 rfl (Nat.le_of_ble_eq_true rfl) dX1_work_153 ⟨Nat.zero_le _, Nat.zero_le _⟩ hP hS (fun _ h => h) (fun H locs hP hS _ _ => ?_)
          refine lv_goto (tgt := 178) hx hb dX1_work_156 (by decide) ?_
          refine lv_istore_n (lv' := [(3, .int ((S1_load u).1)), (0, .ref h), (1, .int oa), (2, .int wa)]) hx hb dX1_work_178 rfl hl (by decide) rfl (fun ls hl => ?_)
          refine lv_iload_n hx hb dX1_work_179 rfl (lv_at hl 0 rfl) ?_
          refine lv_if_ne (tgt := 193) hx hb dX1_work_180 (by decide) (fun (c8 : ¬ ((S1_load u).1) = 0) => ?_) (fun (c8 : ((S1_load u).1) = 0) => ?_)
          · refine lv_iload_n hx hb dX1_work_193 rfl (lv_at hl 0 rfl) ?_
            have e9 : S1_work oa wa u = ((S1_load u).1, (S1_load u).2) := by rw [S1_work, if_neg c1, if_neg c2, if_neg c3, if_pos c4, if_neg c8]
            exact W.iret (v := (S1_load u).1) hx hb hr (fun t ht hW => ⟨⟨(S1_load u).1, (), rfl, by rw [e9], by show va_P _ _ _ t.heap; rw [e9, ht]; exact hP⟩, hS.F ht⟩) hS.2.2 dX1_work_194
          · refine lv_aload_n hx hb dX1_work_183 rfl (lv_at hl 1 rfl) ?_
            refine lv_dup hx hb dX1_work_184 rfl ?_
            refine va_get (D := D) (ci := 1) (v := .int (M_pc ((S1_load u).2))) (C := RX1) (T := TX1) (N := 12) hx hb hts iwX1_work hown hK hP 0 rfl rfl 2 (by decide) (hts (.fieldLink RX1 39 "WordMachineModel" "pc" "I") flX1_work_39) (fun _ h9 => h9) rfl dX1_work_185 ?_
            refine lv_iconst (v := 4) hx hb dX1_work_188 (by decide) ?_
            refine lv_iadd hx hb dX1_work_189 ?_
            refine va_put (D := D) (ci := 1) (v := .int ((M_pc ((S1_load u).2)) + 4)) (ty := .int) (C := RX1) (T := TX1) (N := 12) hx hb hts iwX1_work tyX1 tyX1_ok nmX1 hown hK hP (ap4_D hap) hS 0 rfl rfl 2 (by decide) (hts (.fieldLink RX1 39 "WordMachineModel" "pc" "I") flX1_work_39) (fun _ h9 => h9) rfl (by decide +kernel) rfl rfl (Nat.le_of_ble_eq_true rfl) dX1_work_190 (fun H locs hP _ hS => ?_)
            have hP : va_P D vwCl (ww1 cI cJ cB h q1 q2 q3 (Mp_pc ((M_pc ((S1_load u).2)) + 4) ((S1_load u).2))) H := hP
            refine lv_iload_n hx hb dX1_work_193 rfl (lv_at hl 0 rfl) ?_
            have e9 : S1_work oa wa u = ((S1_load u).1, Mp_pc ((M_pc ((S1_load u).2)) + 4) ((S1_load u).2)) := by rw [S1_work, if_neg c1, if_neg c2, if_neg c3, if_pos c4, if_pos c8]
            exact W.iret (v := (S1_load u).1) hx hb hr (fun t ht hW => ⟨⟨(S1_load u).1, (), rfl, by rw [e9], by show va_P _ _ _ t.heap; rw [e9, ht]; exact hP⟩, hS.F ht⟩) hS.2.2 dX1_work_194
      · refine lv_aload_n hx hb dX1_work_103 rfl (lv_at hl 0 rfl) ?_
        refine va_get (D := D) (ci := 1) (v := .int (M_t u)) (C := RX1) (T := TX1) (N := 12) hx hb hts iwX1_work hown hK hP 0 rfl rfl 7 (by decide) (hts (.fieldLink RX1 56 "WordMachineModel" "t" "I") flX1_work_56) (fun _ h9 => h9) rfl dX1_work_104 ?_
        refine lv_if_ne (tgt := 147) hx hb dX1_work_107 (by decide) (fun (c9 : ¬ (M_t u) = 0) => ?_) (fun (c9 : (M_t u) = 0) => ?_)
        · refine lv_iload_n hx hb dX1_work_147 rfl (lv_at hl 1 rfl) ?_
          refine lv_iconst (v := 3) hx hb dX1_work_148 (by decide) ?_
          refine lv_icmp_ne (tgt := 159) hx hb dX1_work_149 (by decide) (fun (c10 : ¬ oa = 3) => ?_) (fun (c10 : oa = 3) => ?_)
          · refine lv_iload_n hx hb dX1_work_159 rfl (lv_at hl 1 rfl) ?_
            refine lv_bipush (v := 35) hx hb dX1_work_160 (by decide) ?_
            refine lv_icmp_ne (tgt := 172) hx hb dX1_work_162 (by decide) (fun (c11 : ¬ oa = 35) => ?_) (fun (c11 : oa = 35) => ?_)
            · refine lv_aload_n hx hb dX1_work_172 rfl (lv_at hl 0 rfl) ?_
              refine lv_iload_n hx hb dX1_work_173 rfl (lv_at hl 1 rfl) ?_
              refine lv_iload_n hx hb dX1_work_174 rfl (lv_at hl 2 rfl) ?_
              refine in_i (v := (S1_number oa wa u).1) (As := [.int oa, .int wa]) (rest := []) (w1 := ww1 cI cJ cB h q1 q2 q3 ((S1_number oa wa u).2)) ⟨hx, hb, hml, hown, hts⟩ (c1_number l hap oa wa u hd hy) gX1_work_X1_number rfl hdX1_number ⟨Nat.le_of_ble_eq_true rfl, Nat.le_of_ble_eq_true rfl⟩ hK rfl rfl hl.1 rfl (Nat.le_of_ble_eq_true rfl) dX1_work_175 ⟨Nat.zero_le _, Nat.zero_le _⟩ hP hS (fun _ h => h) (fun H locs hP hS _ _ => ?_)
              refine lv_istore_n (lv' := [(3, .int ((S1_number oa wa u).1)), (0, .ref h), (1, .int oa), (2, .int wa)]) hx hb dX1_work_178 rfl hl (by decide) rfl (fun ls hl => ?_)
              refine lv_iload_n hx hb dX1_work_179 rfl (lv_at hl 0 rfl) ?_
              refine lv_if_ne (tgt := 193) hx hb dX1_work_180 (by decide) (fun (c12 : ¬ ((S1_number oa wa u).1) = 0) => ?_) (fun (c12 : ((S1_number oa wa u).1) = 0) => ?_)
              · refine lv_iload_n hx hb dX1_work_193 rfl (lv_at hl 0 rfl) ?_
                have e9 : S1_work oa wa u = ((S1_number oa wa u).1, (S1_number oa wa u).2) := by rw [S1_work, if_neg c1, if_neg c2, if_pos c3, if_neg c9, if_neg c10, if_neg c11, if_neg c12]
                exact W.iret (v := (S1_number oa wa u).1) hx hb hr (fun t ht hW => ⟨⟨(S1_number oa wa u).1, (), rfl, by rw [e9], by show va_P _ _ _ t.heap; rw [e9, ht]; exact hP⟩, hS.F ht⟩) hS.2.2 dX1_work_194
              · refine lv_aload_n hx hb dX1_work_183 rfl (lv_at hl 1 rfl) ?_
                refine lv_dup hx hb dX1_work_184 rfl ?_
                refine va_get (D := D) (ci := 1) (v := .int (M_pc ((S1_number oa wa u).2))) (C := RX1) (T := TX1) (N := 12) hx hb hts iwX1_work hown hK hP 0 rfl rfl 2 (by decide) (hts (.fieldLink RX1 39 "WordMachineModel" "pc" "I") flX1_work_39) (fun _ h9 => h9) rfl dX1_work_185 ?_
                refine lv_iconst (v := 4) hx hb dX1_work_188 (by decide) ?_
                refine lv_iadd hx hb dX1_work_189 ?_
                refine va_put (D := D) (ci := 1) (v := .int ((M_pc ((S1_number oa wa u).2)) + 4)) (ty := .int) (C := RX1) (T := TX1) (N := 12) hx hb hts iwX1_work tyX1 tyX1_ok nmX1 hown hK hP (ap4_D hap) hS 0 rfl rfl 2 (by decide) (hts (.fieldLink RX1 39 "WordMachineModel" "pc" "I") flX1_work_39) (fun _ h9 => h9) rfl (by decide +kernel) rfl rfl (Nat.le_of_ble_eq_true rfl) dX1_work_190 (fun H locs hP _ hS => ?_)
                have hP : va_P D vwCl (ww1 cI cJ cB h q1 q2 q3 (Mp_pc ((M_pc ((S1_number oa wa u).2)) + 4) ((S1_number oa wa u).2))) H := hP
                refine lv_iload_n hx hb dX1_work_193 rfl (lv_at hl 0 rfl) ?_
                have e9 : S1_work oa wa u = ((S1_number oa wa u).1, Mp_pc ((M_pc ((S1_number oa wa u).2)) + 4) ((S1_number oa wa u).2)) := by rw [S1_work, if_neg c1, if_neg c2, if_pos c3, if_neg c9, if_neg c10, if_neg c11, if_pos c12]
                exact W.iret (v := (S1_number oa wa u).1) hx hb hr (fun t ht hW => ⟨⟨(S1_number oa wa u).1, (), rfl, by rw [e9], by show va_P _ _ _ t.heap; rw [e9, ht]; exact hP⟩, hS.F ht⟩) hS.2.2 dX1_work_194
            · refine lv_aload_n hx hb dX1_work_165 rfl (lv_at hl 0 rfl) ?_
              refine in_i (v := (S1_store u).1) (As := []) (rest := []) (w1 := ww1 cI cJ cB h q1 q2 q3 ((S1_store u).2)) ⟨hx, hb, hml, hown, hts⟩ (c1_store l hap  u ) gX1_work_X1_store rfl hdX1_store ⟨Nat.le_of_ble_eq_true rfl, Nat.le_of_ble_eq_true rfl⟩ hK rfl rfl hl.1 rfl (Nat.le_of_ble_eq_true rfl) dX1_work_166 ⟨Nat.zero_le _, Nat.zero_le _⟩ hP hS (fun _ h => h) (fun H locs hP hS _ _ => ?_)
              refine lv_goto (tgt := 178) hx hb dX1_work_169 (by decide) ?_
              refine lv_istore_n (lv' := [(3, .int ((S1_store u).1)), (0, .ref h), (1, .int oa), (2, .int wa)]) hx hb dX1_work_178 rfl hl (by decide) rfl (fun ls hl => ?_)
              refine lv_iload_n hx hb dX1_work_179 rfl (lv_at hl 0 rfl) ?_
              refine lv_if_ne (tgt := 193) hx hb dX1_work_180 (by decide) (fun (c13 : ¬ ((S1_store u).1) = 0) => ?_) (fun (c13 : ((S1_store u).1) = 0) => ?_)
              · refine lv_iload_n hx hb dX1_work_193 rfl (lv_at hl 0 rfl) ?_
                have e9 : S1_work oa wa u = ((S1_store u).1, (S1_store u).2) := by rw [S1_work, if_neg c1, if_neg c2, if_pos c3, if_neg c9, if_neg c10, if_pos c11, if_neg c13]
                exact W.iret (v := (S1_store u).1) hx hb hr (fun t ht hW => ⟨⟨(S1_store u).1, (), rfl, by rw [e9], by show va_P _ _ _ t.heap; rw [e9, ht]; exact hP⟩, hS.F ht⟩) hS.2.2 dX1_work_194
              · refine lv_aload_n hx hb dX1_work_183 rfl (lv_at hl 1 rfl) ?_
                refine lv_dup hx hb dX1_work_184 rfl ?_
                refine va_get (D := D) (ci := 1) (v := .int (M_pc ((S1_store u).2))) (C := RX1) (T := TX1) (N := 12) hx hb hts iwX1_work hown hK hP 0 rfl rfl 2 (by decide) (hts (.fieldLink RX1 39 "WordMachineModel" "pc" "I") flX1_work_39) (fun _ h9 => h9) rfl dX1_work_185 ?_
                refine lv_iconst (v := 4) hx hb dX1_work_188 (by decide) ?_
                refine lv_iadd hx hb dX1_work_189 ?_
                refine va_put (D := D) (ci := 1) (v := .int ((M_pc ((S1_store u).2)) + 4)) (ty := .int) (C := RX1) (T := TX1) (N := 12) hx hb hts iwX1_work tyX1 tyX1_ok nmX1 hown hK hP (ap4_D hap) hS 0 rfl rfl 2 (by decide) (hts (.fieldLink RX1 39 "WordMachineModel" "pc" "I") flX1_work_39) (fun _ h9 => h9) rfl (by decide +kernel) rfl rfl (Nat.le_of_ble_eq_true rfl) dX1_work_190 (fun H locs hP _ hS => ?_)
                have hP : va_P D vwCl (ww1 cI cJ cB h q1 q2 q3 (Mp_pc ((M_pc ((S1_store u).2)) + 4) ((S1_store u).2))) H := hP
                refine lv_iload_n hx hb dX1_work_193 rfl (lv_at hl 0 rfl) ?_
                have e9 : S1_work oa wa u = ((S1_store u).1, Mp_pc ((M_pc ((S1_store u).2)) + 4) ((S1_store u).2)) := by rw [S1_work, if_neg c1, if_neg c2, if_pos c3, if_neg c9, if_neg c10, if_pos c11, if_pos c13]
                exact W.iret (v := (S1_store u).1) hx hb hr (fun t ht hW => ⟨⟨(S1_store u).1, (), rfl, by rw [e9], by show va_P _ _ _ t.heap; rw [e9, ht]; exact hP⟩, hS.F ht⟩) hS.2.2 dX1_work_194
          · refine lv_aload_n hx hb dX1_work_152 rfl (lv_at hl 0 rfl) ?_
            refine in_i (v := (S1_load u).1) (As := []) (rest := []) (w1 := ww1 cI cJ cB h q1 q2 q3 ((S1_load u).2)) ⟨hx, hb, hml, hown, hts⟩ (c1_load l hap  u hd) gX1_work_X1_load rfl hdX1_load ⟨Nat.le_of_ble_eq_true rfl, Nat.le_of_ble_eq_true rfl⟩ hK rfl rfl hl.1 rfl (Nat.le_of_ble_eq_true rfl) dX1_work_153 ⟨Nat.zero_le _, Nat.zero_le _⟩ hP hS (fun _ h => h) (fun H locs hP hS _ _ => ?_)
            refine lv_goto (tgt := 178) hx hb dX1_work_156 (by decide) ?_
            refine lv_istore_n (lv' := [(3, .int ((S1_load u).1)), (0, .ref h), (1, .int oa), (2, .int wa)]) hx hb dX1_work_178 rfl hl (by decide) rfl (fun ls hl => ?_)
            refine lv_iload_n hx hb dX1_work_179 rfl (lv_at hl 0 rfl) ?_
            refine lv_if_ne (tgt := 193) hx hb dX1_work_180 (by decide) (fun (c14 : ¬ ((S1_load u).1) = 0) => ?_) (fun (c14 : ((S1_load u).1) = 0) => ?_)
            · refine lv_iload_n hx hb dX1_work_193 rfl (lv_at hl 0 rfl) ?_
              have e9 : S1_work oa wa u = ((S1_load u).1, (S1_load u).2) := by rw [S1_work, if_neg c1, if_neg c2, if_pos c3, if_neg c9, if_pos c10, if_neg c14]
              exact W.iret (v := (S1_load u).1) hx hb hr (fun t ht hW => ⟨⟨(S1_load u).1, (), rfl, by rw [e9], by show va_P _ _ _ t.heap; rw [e9, ht]; exact hP⟩, hS.F ht⟩) hS.2.2 dX1_work_194
            · refine lv_aload_n hx hb dX1_work_183 rfl (lv_at hl 1 rfl) ?_
              refine lv_dup hx hb dX1_work_184 rfl ?_
              refine va_get (D := D) (ci := 1) (v := .int (M_pc ((S1_load u).2))) (C := RX1) (T := TX1) (N := 12) hx hb hts iwX1_work hown hK hP 0 rfl rfl 2 (by decide) (hts (.fieldLink RX1 39 "WordMachineModel" "pc" "I") flX1_work_39) (fun _ h9 => h9) rfl dX1_work_185 ?_
              refine lv_iconst (v := 4) hx hb dX1_work_188 (by decide) ?_
              refine lv_iadd hx hb dX1_work_189 ?_
              refine va_put (D := D) (ci := 1) (v := .int ((M_pc ((S1_load u).2)) + 4)) (ty := .int) (C := RX1) (T := TX1) (N := 12) hx hb hts iwX1_work tyX1 tyX1_ok nmX1 hown hK hP (ap4_D hap) hS 0 rfl rfl 2 (by decide) (hts (.fieldLink RX1 39 "WordMachineModel" "pc" "I") flX1_work_39) (fun _ h9 => h9) rfl (by decide +kernel) rfl rfl (Nat.le_of_ble_eq_true rfl) dX1_work_190 (fun H locs hP _ hS => ?_)
              have hP : va_P D vwCl (ww1 cI cJ cB h q1 q2 q3 (Mp_pc ((M_pc ((S1_load u).2)) + 4) ((S1_load u).2))) H := hP
              refine lv_iload_n hx hb dX1_work_193 rfl (lv_at hl 0 rfl) ?_
              have e9 : S1_work oa wa u = ((S1_load u).1, Mp_pc ((M_pc ((S1_load u).2)) + 4) ((S1_load u).2)) := by rw [S1_work, if_neg c1, if_neg c2, if_pos c3, if_neg c9, if_pos c10, if_pos c14]
              exact W.iret (v := (S1_load u).1) hx hb hr (fun t ht hW => ⟨⟨(S1_load u).1, (), rfl, by rw [e9], by show va_P _ _ _ t.heap; rw [e9, ht]; exact hP⟩, hS.F ht⟩) hS.2.2 dX1_work_194
        · refine lv_aload_n hx hb dX1_work_110 rfl (lv_at hl 0 rfl) ?_
          refine va_get (D := D) (ci := 1) (v := .long (M_x u)) (C := RX1) (T := TX1) (N := 12) hx hb hts iwX1_work hown hK hP 0 rfl rfl 10 (by decide) (hts (.fieldLink RX1 59 "WordMachineModel" "x" "J") flX1_work_59) (fun _ h9 => h9) rfl dX1_work_111 ?_
          refine lv_aload_n hx hb dX1_work_114 rfl (lv_at hl 0 rfl) ?_
          refine va_get (D := D) (ci := 1) (v := .int (M_im u)) (C := RX1) (T := TX1) (N := 12) hx hb hts iwX1_work hown hK hP 0 rfl rfl 9 (by decide) (hts (.fieldLink RX1 73 "WordMachineModel" "immediate" "I") flX1_work_73) (fun _ h9 => h9) rfl dX1_work_115 ?_
          refine lv_i2l (v := (M_im u).toInt64) hx hb dX1_work_118 rfl ?_
          refine lv_ladd hx hb dX1_work_119 ?_
          refine lv_l2i (v := ((M_x u) + ((M_im u).toInt64)).toInt32) hx hb dX1_work_120 rfl ?_
          refine lv_bipush (v := (-2)) hx hb dX1_work_121 (by decide) ?_
          refine lv_iand hx hb dX1_work_123 ?_
          refine lv_istore_n (lv' := [(3, .int ((((M_x u) + ((M_im u).toInt64)).toInt32) &&& (-2))), (0, .ref h), (1, .int oa), (2, .int wa)]) hx hb dX1_work_124 rfl hl (by decide) rfl (fun ls hl => ?_)
          refine lv_aload_n hx hb dX1_work_125 rfl (lv_at hl 1 rfl) ?_
          refine lv_aload_n hx hb dX1_work_126 rfl (lv_at hl 1 rfl) ?_
          refine va_get (D := D) (ci := 1) (v := .int (M_d u)) (C := RX1) (T := TX1) (N := 12) hx hb hts iwX1_work hown hK hP 0 rfl rfl 6 (by decide) (hts (.fieldLink RX1 53 "WordMachineModel" "d" "I") flX1_work_53) (fun _ h9 => h9) rfl dX1_work_127 ?_
          refine lv_aload_n hx hb dX1_work_130 rfl (lv_at hl 1 rfl) ?_
          refine va_get (D := D) (ci := 1) (v := .int (M_pc u)) (C := RX1) (T := TX1) (N := 12) hx hb hts iwX1_work hown hK hP 0 rfl rfl 2 (by decide) (hts (.fieldLink RX1 39 "WordMachineModel" "pc" "I") flX1_work_39) (fun _ h9 => h9) rfl dX1_work_131 ?_
          refine lv_iconst (v := 4) hx hb dX1_work_134 (by decide) ?_
          refine lv_iadd hx hb dX1_work_135 ?_
          refine lv_i2l (v := ((M_pc u) + 4).toInt64) hx hb dX1_work_136 rfl ?_
          refine in_v (As := [.int (M_d u), .long (((M_pc u) + 4).toInt64)]) (rest := []) (w1 := ww1 cI cJ cB h q1 q2 q3 (S1_give (M_d u) (((M_pc u) + 4).toInt64) u)) ⟨hx, hb, hml, hown, hts⟩ (c1_give l hap (M_d u) (((M_pc u) + 4).toInt64) u hd) gX1_work_X1_give rfl hdX1_give ⟨Nat.le_of_ble_eq_true rfl, Nat.le_of_ble_eq_true rfl⟩ hK rfl rfl hl.1 rfl (Nat.le_of_ble_eq_true rfl) dX1_work_137 ⟨Nat.zero_le _, Nat.zero_le _⟩ hP hS (fun _ h => h) (fun H locs hP hS _ _ => ?_)
          refine lv_aload_n hx hb dX1_work_140 rfl (lv_at hl 1 rfl) ?_
          refine lv_iload_n hx hb dX1_work_141 rfl (lv_at hl 0 rfl) ?_
          refine va_put (D := D) (ci := 1) (v := .int ((((M_x u) + ((M_im u).toInt64)).toInt32) &&& (-2))) (ty := .int) (C := RX1) (T := TX1) (N := 12) hx hb hts iwX1_work tyX1 tyX1_ok nmX1 hown hK hP (ap4_D hap) hS 0 rfl rfl 2 (by decide) (hts (.fieldLink RX1 39 "WordMachineModel" "pc" "I") flX1_work_39) (fun _ h9 => h9) rfl (by decide +kernel) rfl rfl (Nat.le_of_ble_eq_true rfl) dX1_work_142 (fun H locs hP _ hS => ?_)
          have hP : va_P D vwCl (ww1 cI cJ cB h q1 q2 q3 (Mp_pc ((((M_x u) + ((M_im u).toInt64)).toInt32) &&& (-2)) (S1_give (M_d u) (((M_pc u) + 4).toInt64) u))) H := hP
          refine lv_iconst (v := 0) hx hb dX1_work_145 (by decide) ?_
          have e9 : S1_work oa wa u = ((0 : Int32), Mp_pc ((((M_x u) + ((M_im u).toInt64)).toInt32) &&& (-2)) (S1_give (M_d u) (((M_pc u) + 4).toInt64) u)) := by rw [S1_work, if_neg c1, if_neg c2, if_pos c3, if_pos c9]
          exact W.iret (v := (0 : Int32)) hx hb hr (fun t ht hW => ⟨⟨(0 : Int32), (), rfl, by rw [e9], by show va_P _ _ _ t.heap; rw [e9, ht]; exact hP⟩, hS.F ht⟩) hS.2.2 dX1_work_146
    · refine lv_iload_n hx hb dX1_work_18 rfl (lv_at hl 2 rfl) ?_
      refine lv_bipush (v := 21) hx hb dX1_work_19 (by decide) ?_
      refine lv_bipush (v := 10) hx hb dX1_work_21 (by decide) ?_
      refine pu_i (v := S1_bits wa (21) (10)) (As := [.int wa, .int 21, .int 10]) (rest := []) ⟨hx, hb, hml, hown, hts⟩ (c1_bits l wa (21) (10) ) gX1_work_X1_bits rfl hdX1_bits ⟨Nat.le_of_ble_eq_true rfl, Nat.le_of_ble_eq_true rfl⟩ hl.1 rfl (Nat.le_of_ble_eq_true rfl) dX1_work_23 ⟨Nat.zero_le _, Nat.zero_le _⟩ hP hS (fun H locs hP hS => ?_)
      refine lv_iconst (v := 2) hx hb dX1_work_26 (by decide) ?_
      refine lv_imul hx hb dX1_work_27 ?_
      refine lv_iload_n hx hb dX1_work_28 rfl (lv_at hl 2 rfl) ?_
      refine lv_bipush (v := 20) hx hb dX1_work_29 (by decide) ?_
      refine lv_iconst (v := 1) hx hb dX1_work_31 (by decide) ?_
      refine pu_i (v := S1_bits wa (20) (1)) (As := [.int wa, .int 20, .int 1]) (rest := [.int ((S1_bits wa (21) (10)) * 2)]) ⟨hx, hb, hml, hown, hts⟩ (c1_bits l wa (20) (1) ) gX1_work_X1_bits rfl hdX1_bits ⟨Nat.le_of_ble_eq_true rfl, Nat.le_of_ble_eq_true rfl⟩ hl.1 rfl (Nat.le_of_ble_eq_true rfl) dX1_work_32 ⟨Nat.zero_le _, Nat.zero_le _⟩ hP hS (fun H locs hP hS => ?_)
      refine lv_sipush (v := 2048) hx hb dX1_work_35 (by decide) ?_
      refine lv_imul hx hb dX1_work_38 ?_
      refine lv_iadd hx hb dX1_work_39 ?_
      refine lv_iload_n hx hb dX1_work_40 rfl (lv_at hl 2 rfl) ?_
      refine lv_bipush (v := 12) hx hb dX1_work_41 (by decide) ?_
      refine lv_bipush (v := 8) hx hb dX1_work_43 (by decide) ?_
      refine pu_i (v := S1_bits wa (12) (8)) (As := [.int wa, .int 12, .int 8]) (rest := [.int (((S1_bits wa (21) (10)) * 2) + ((S1_bits wa (20) (1)) * 2048))]) ⟨hx, hb, hml, hown, hts⟩ (c1_bits l wa (12) (8) ) gX1_work_X1_bits rfl hdX1_bits ⟨Nat.le_of_ble_eq_true rfl, Nat.le_of_ble_eq_true rfl⟩ hl.1 rfl (Nat.le_of_ble_eq_true rfl) dX1_work_45 ⟨Nat.zero_le _, Nat.zero_le _⟩ hP hS (fun H locs hP hS => ?_)
      refine lv_sipush (v := 4096) hx hb dX1_work_48 (by decide) ?_
      refine lv_imul hx hb dX1_work_51 ?_
      refine lv_iadd hx hb dX1_work_52 ?_
      refine lv_iload_n hx hb dX1_work_53 rfl (lv_at hl 2 rfl) ?_
      refine lv_bipush (v := 31) hx hb dX1_work_54 (by decide) ?_
      refine lv_iconst (v := 1) hx hb dX1_work_56 (by decide) ?_
      refine pu_i (v := S1_bits wa (31) (1)) (As := [.int wa, .int 31, .int 1]) (rest := [.int ((((S1_bits wa (21) (10)) * 2) + ((S1_bits wa (20) (1)) * 2048)) + ((S1_bits wa (12) (8)) * 4096))]) ⟨hx, hb, hml, hown, hts⟩ (c1_bits l wa (31) (1) ) gX1_work_X1_bits rfl hdX1_bits ⟨Nat.le_of_ble_eq_true rfl, Nat.le_of_ble_eq_true rfl⟩ hl.1 rfl (Nat.le_of_ble_eq_true rfl) dX1_work_57 ⟨Nat.zero_le _, Nat.zero_le _⟩ hP hS (fun H locs hP hS => ?_)
      refine lv_ldc hx hb hown (hts (.constant RX1 83 (1048576)) ctX1_work_83) dX1_work_60 ?_
      refine lv_imul hx hb dX1_work_62 ?_
      refine lv_iadd hx hb dX1_work_63 ?_
      refine lv_istore_n (lv' := [(3, .int (((((S1_bits wa (21) (10)) * 2) + ((S1_bits wa (20) (1)) * 2048)) + ((S1_bits wa (12) (8)) * 4096)) + ((S1_bits wa (31) (1)) * 1048576))), (0, .ref h), (1, .int oa), (2, .int wa)]) hx hb dX1_work_64 rfl hl (by decide) rfl (fun ls hl => ?_)
      refine lv_aload_n hx hb dX1_work_65 rfl (lv_at hl 1 rfl) ?_
      refine lv_aload_n hx hb dX1_work_66 rfl (lv_at hl 1 rfl) ?_
      refine va_get (D := D) (ci := 1) (v := .int (M_d u)) (C := RX1) (T := TX1) (N := 12) hx hb hts iwX1_work hown hK hP 0 rfl rfl 6 (by decide) (hts (.fieldLink RX1 53 "WordMachineModel" "d" "I") flX1_work_53) (fun _ h9 => h9) rfl dX1_work_67 ?_
      refine lv_aload_n hx hb dX1_work_70 rfl (lv_at hl 1 rfl) ?_
      refine va_get (D := D) (ci := 1) (v := .int (M_pc u)) (C := RX1) (T := TX1) (N := 12) hx hb hts iwX1_work hown hK hP 0 rfl rfl 2 (by decide) (hts (.fieldLink RX1 39 "WordMachineModel" "pc" "I") flX1_work_39) (fun _ h9 => h9) rfl dX1_work_71 ?_
      refine lv_iconst (v := 4) hx hb dX1_work_74 (by decide) ?_
      refine lv_iadd hx hb dX1_work_75 ?_
      refine lv_i2l (v := ((M_pc u) + 4).toInt64) hx hb dX1_work_76 rfl ?_
      refine in_v (As := [.int (M_d u), .long (((M_pc u) + 4).toInt64)]) (rest := []) (w1 := ww1 cI cJ cB h q1 q2 q3 (S1_give (M_d u) (((M_pc u) + 4).toInt64) u)) ⟨hx, hb, hml, hown, hts⟩ (c1_give l hap (M_d u) (((M_pc u) + 4).toInt64) u hd) gX1_work_X1_give rfl hdX1_give ⟨Nat.le_of_ble_eq_true rfl, Nat.le_of_ble_eq_true rfl⟩ hK rfl rfl hl.1 rfl (Nat.le_of_ble_eq_true rfl) dX1_work_77 ⟨Nat.zero_le _, Nat.zero_le _⟩ hP hS (fun _ h => h) (fun H locs hP hS _ _ => ?_)
      refine lv_aload_n hx hb dX1_work_80 rfl (lv_at hl 1 rfl) ?_
      refine lv_dup hx hb dX1_work_81 rfl ?_
      refine va_get (D := D) (ci := 1) (v := .int (M_pc (S1_give (M_d u) (((M_pc u) + 4).toInt64) u))) (C := RX1) (T := TX1) (N := 12) hx hb hts iwX1_work hown hK hP 0 rfl rfl 2 (by decide) (hts (.fieldLink RX1 39 "WordMachineModel" "pc" "I") flX1_work_39) (fun _ h9 => h9) rfl dX1_work_82 ?_
      refine lv_iload_n hx hb dX1_work_85 rfl (lv_at hl 0 rfl) ?_
      refine lv_bipush (v := 21) hx hb dX1_work_86 (by decide) ?_
      refine pu_i (v := S1_withSign (((((S1_bits wa (21) (10)) * 2) + ((S1_bits wa (20) (1)) * 2048)) + ((S1_bits wa (12) (8)) * 4096)) + ((S1_bits wa (31) (1)) * 1048576)) (21)) (As := [.int (((((S1_bits wa (21) (10)) * 2) + ((S1_bits wa (20) (1)) * 2048)) + ((S1_bits wa (12) (8)) * 4096)) + ((S1_bits wa (31) (1)) * 1048576)), .int 21]) (rest := [.int (M_pc (S1_give (M_d u) (((M_pc u) + 4).toInt64) u)), .ref h]) ⟨hx, hb, hml, hown, hts⟩ (c1_withSign l (((((S1_bits wa (21) (10)) * 2) + ((S1_bits wa (20) (1)) * 2048)) + ((S1_bits wa (12) (8)) * 4096)) + ((S1_bits wa (31) (1)) * 1048576)) (21) ) gX1_work_X1_withSign rfl hdX1_withSign ⟨Nat.le_of_ble_eq_true rfl, Nat.le_of_ble_eq_true rfl⟩ hl.1 rfl (Nat.le_of_ble_eq_true rfl) dX1_work_88 ⟨Nat.zero_le _, Nat.zero_le _⟩ hP hS (fun H locs hP hS => ?_)
      refine lv_iadd hx hb dX1_work_91 ?_
      refine va_put (D := D) (ci := 1) (v := .int ((M_pc (S1_give (M_d u) (((M_pc u) + 4).toInt64) u)) + (S1_withSign (((((S1_bits wa (21) (10)) * 2) + ((S1_bits wa (20) (1)) * 2048)) + ((S1_bits wa (12) (8)) * 4096)) + ((S1_bits wa (31) (1)) * 1048576)) (21)))) (ty := .int) (C := RX1) (T := TX1) (N := 12) hx hb hts iwX1_work tyX1 tyX1_ok nmX1 hown hK hP (ap4_D hap) hS 0 rfl rfl 2 (by decide) (hts (.fieldLink RX1 39 "WordMachineModel" "pc" "I") flX1_work_39) (fun _ h9 => h9) rfl (by decide +kernel) rfl rfl (Nat.le_of_ble_eq_true rfl) dX1_work_92 (fun H locs hP _ hS => ?_)
      have hP : va_P D vwCl (ww1 cI cJ cB h q1 q2 q3 (Mp_pc ((M_pc (S1_give (M_d u) (((M_pc u) + 4).toInt64) u)) + (S1_withSign (((((S1_bits wa (21) (10)) * 2) + ((S1_bits wa (20) (1)) * 2048)) + ((S1_bits wa (12) (8)) * 4096)) + ((S1_bits wa (31) (1)) * 1048576)) (21))) (S1_give (M_d u) (((M_pc u) + 4).toInt64) u))) H := hP
      refine lv_iconst (v := 0) hx hb dX1_work_95 (by decide) ?_
      have e9 : S1_work oa wa u = ((0 : Int32), Mp_pc ((M_pc (S1_give (M_d u) (((M_pc u) + 4).toInt64) u)) + (S1_withSign (((((S1_bits wa (21) (10)) * 2) + ((S1_bits wa (20) (1)) * 2048)) + ((S1_bits wa (12) (8)) * 4096)) + ((S1_bits wa (31) (1)) * 1048576)) (21))) (S1_give (M_d u) (((M_pc u) + 4).toInt64) u)) := by rw [S1_work, if_neg c1, if_pos c2]
      exact W.iret (v := (0 : Int32)) hx hb hr (fun t ht hW => ⟨⟨(0 : Int32), (), rfl, by rw [e9], by show va_P _ _ _ t.heap; rw [e9, ht]; exact hP⟩, hS.F ht⟩) hS.2.2 dX1_work_96
  · refine lv_aload_n hx hb dX1_work_6 rfl (lv_at hl 0 rfl) ?_
    refine lv_iload_n hx hb dX1_work_7 rfl (lv_at hl 2 rfl) ?_
    refine in_i (v := (S1_branch wa u).1) (As := [.int wa]) (rest := []) (w1 := ww1 cI cJ cB h q1 q2 q3 ((S1_branch wa u).2)) ⟨hx, hb, hml, hown, hts⟩ (c1_branch l hap wa u ) gX1_work_X1_branch rfl hdX1_branch ⟨Nat.le_of_ble_eq_true rfl, Nat.le_of_ble_eq_true rfl⟩ hK rfl rfl hl.1 rfl (Nat.le_of_ble_eq_true rfl) dX1_work_8 ⟨Nat.zero_le _, Nat.zero_le _⟩ hP hS (fun _ h => h) (fun H locs hP hS _ _ => ?_)
    have e9 : S1_work oa wa u = ((S1_branch wa u).1, (S1_branch wa u).2) := by rw [S1_work, if_pos c1]
    exact W.iret (v := (S1_branch wa u).1) hx hb hr (fun t ht hW => ⟨⟨(S1_branch wa u).1, (), rfl, by rw [e9], by show va_P _ _ _ t.heap; rw [e9, ht]; exact hP⟩, hS.F ht⟩) hS.2.2 dX1_work_11
theorem iwX1_step : ∀ w ∈ wsX10, w ∈ wsX1_step := by decide +kernel
theorem flX1_step_7 : Cond.fieldLink RX1 7 "WordMachineModel" "code" "[I" ∈ wsX1_step := by decide +kernel
theorem flX1_step_13 : Cond.fieldLink RX1 13 "WordMachineModel" "registers" "[J" ∈ wsX1_step := by decide +kernel
theorem flX1_step_21 : Cond.fieldLink RX1 21 "WordMachineModel" "words" "I" ∈ wsX1_step := by decide +kernel
theorem flX1_step_39 : Cond.fieldLink RX1 39 "WordMachineModel" "pc" "I" ∈ wsX1_step := by decide +kernel
theorem flX1_step_42 : Cond.fieldLink RX1 42 "WordMachineModel" "steps" "I" ∈ wsX1_step := by decide +kernel
theorem flX1_step_53 : Cond.fieldLink RX1 53 "WordMachineModel" "d" "I" ∈ wsX1_step := by decide +kernel
theorem flX1_step_56 : Cond.fieldLink RX1 56 "WordMachineModel" "t" "I" ∈ wsX1_step := by decide +kernel
theorem flX1_step_59 : Cond.fieldLink RX1 59 "WordMachineModel" "x" "J" ∈ wsX1_step := by decide +kernel
theorem flX1_step_63 : Cond.fieldLink RX1 63 "WordMachineModel" "y" "J" ∈ wsX1_step := by decide +kernel
theorem flX1_step_66 : Cond.fieldLink RX1 66 "WordMachineModel" "s" "I" ∈ wsX1_step := by decide +kernel
theorem flX1_step_73 : Cond.fieldLink RX1 73 "WordMachineModel" "immediate" "I" ∈ wsX1_step := by decide +kernel
theorem hdX1_step : yX1_step.cls = RX1 ∧ yX1_step.cls ≠ "java/lang/invoke/MethodHandle" ∧ yX1_step.cls ≠ "java/lang/invoke/VarHandle" ∧ (parseMethodDescriptor yX1_step.desc).map (fun d => d.parameters.length) = some 0 := by decide +kernel
set_option maxHeartbeats 4000000 in
set_option maxRecDepth 100000 in
theorem c1_step (l : Launch) {D : va_G} {cI cJ cB : ClassId} {h q1 q2 q3 : Nat} (hap : ap4 h q1 q2 q3)  (u : MS) (hw : M_wc u ≤ 1024) (hrg : RG u) : Ini l yX1_step wsX1_step 4 103 D (ty1 cI cJ cB) (wa0 h q1 q2 q3) [.ref h] (ww1 cI cJ cB h q1 q2 q3 u) (ww1 cI cJ cB h q1 q2 q3 (S1_step u).2) (S1_step u).1 := by
  refine Met.ofW (cc := cX1_step) (maxL := 3) (ret := (some .int)) (by decide) rfl ?_
  intro p e s m args below meth c s₁ B hml hv
  obtain ⟨rfl, hP, hK⟩ := hv
  have hx := B.exec
  have hb := B.bytes
  have hr := B.returns
  have hts := atoms_spec (ws := wsX1_step) B.pre
  have hown : s.vm.findClass RX1 = some m.cls := findClass_of_methodNamed B.named
  have hlocks := B.notSynchronized
  have hS : va_S (wa0 h q1 q2 q3) s.heap s.heap [] := va_S.rf
  have hl := lv_entry ([.ref h]) (n := 3) (Nat.le_of_ble_eq_true rfl)
  rw [lg_entry_eq]
  generalize (lg_sl ([.ref h]) ++ List.replicate (3 - (lg_sl ([.ref h])).length) Slot.unset).toArray = ls at hl ⊢
  have hl : lv_has ls 3 [(0, .ref h)] := hl
  refine lv_aload_n hx hb dX1_step_0 rfl (lv_at hl 0 rfl) ?_
  refine va_get (D := D) (ci := 1) (v := .int (M_pc u)) (C := RX1) (T := TX1) (N := 12) hx hb hts iwX1_step hown hK hP 0 rfl rfl 2 (by decide) (hts (.fieldLink RX1 39 "WordMachineModel" "pc" "I") flX1_step_39) (fun _ h9 => h9) rfl dX1_step_1 ?_
  refine lv_if_lt (tgt := 29) hx hb dX1_step_4 (by decide) (fun (c1 : (M_pc u) < 0) => ?_) (fun (c1 : ¬ (M_pc u) < 0) => ?_)
  · refine lv_iconst (v := 2) hx hb dX1_step_29 (by decide) ?_
    have e9 : S1_step u = ((2 : Int32), u) := by rw [S1_step, if_pos c1]
    exact W.iret (v := (2 : Int32)) hx hb hr (fun t ht hW => ⟨⟨(2 : Int32), (), rfl, by rw [e9], by show va_P _ _ _ t.heap; rw [e9, ht]; exact hP⟩, hS.F ht⟩) hS.2.2 dX1_step_30
  · refine lv_aload_n hx hb dX1_step_7 rfl (lv_at hl 0 rfl) ?_
    refine va_get (D := D) (ci := 1) (v := .int (M_pc u)) (C := RX1) (T := TX1) (N := 12) hx hb hts iwX1_step hown hK hP 0 rfl rfl 2 (by decide) (hts (.fieldLink RX1 39 "WordMachineModel" "pc" "I") flX1_step_39) (fun _ h9 => h9) rfl dX1_step_8 ?_
    refine lv_iconst (v := 4) hx hb dX1_step_11 (by decide) ?_
    refine lv_irem hx hb dX1_step_12 (by decide) ?_
    refine lv_if_ne (tgt := 29) hx hb dX1_step_13 (by decide) (fun (c2 : ¬ ((M_pc u) - (M_pc u) / 4 * 4) = 0) => ?_) (fun (c2 : ((M_pc u) - (M_pc u) / 4 * 4) = 0) => ?_)
    · refine lv_iconst (v := 2) hx hb dX1_step_29 (by decide) ?_
      have e9 : S1_step u = ((2 : Int32), u) := by rw [S1_step, if_neg c1, if_neg c2]
      exact W.iret (v := (2 : Int32)) hx hb hr (fun t ht hW => ⟨⟨(2 : Int32), (), rfl, by rw [e9], by show va_P _ _ _ t.heap; rw [e9, ht]; exact hP⟩, hS.F ht⟩) hS.2.2 dX1_step_30
    · refine lv_aload_n hx hb dX1_step_16 rfl (lv_at hl 0 rfl) ?_
      refine va_get (D := D) (ci := 1) (v := .int (M_pc u)) (C := RX1) (T := TX1) (N := 12) hx hb hts iwX1_step hown hK hP 0 rfl rfl 2 (by decide) (hts (.fieldLink RX1 39 "WordMachineModel" "pc" "I") flX1_step_39) (fun _ h9 => h9) rfl dX1_step_17 ?_
      refine lv_iconst (v := 4) hx hb dX1_step_20 (by decide) ?_
      refine lv_idiv hx hb dX1_step_21 (by decide) ?_
      refine lv_aload_n hx hb dX1_step_22 rfl (lv_at hl 0 rfl) ?_
      refine va_get (D := D) (ci := 1) (v := .int (M_wc u)) (C := RX1) (T := TX1) (N := 12) hx hb hts iwX1_step hown hK hP 0 rfl rfl 1 (by decide) (hts (.fieldLink RX1 21 "WordMachineModel" "words" "I") flX1_step_21) (fun _ h9 => h9) rfl dX1_step_23 ?_
      refine lv_icmp_lt (tgt := 31) hx hb dX1_step_26 (by decide) (fun (c3 : ((M_pc u) / 4) < (M_wc u)) => ?_) (fun (c3 : ¬ ((M_pc u) / 4) < (M_wc u)) => ?_)
      · refine lv_aload_n hx hb dX1_step_31 rfl (lv_at hl 0 rfl) ?_
        refine va_get (D := D) (ci := 1) (v := .ref q1) (C := RX1) (T := TX1) (N := 12) hx hb hts iwX1_step hown hK hP 0 rfl rfl 0 (by decide) (hts (.fieldLink RX1 7 "WordMachineModel" "code" "[I") flX1_step_7) (fun _ h9 => h9) rfl dX1_step_32 ?_
        refine lv_aload_n hx hb dX1_step_35 rfl (lv_at hl 0 rfl) ?_
        refine va_get (D := D) (ci := 1) (v := .int (M_pc u)) (C := RX1) (T := TX1) (N := 12) hx hb hts iwX1_step hown hK hP 0 rfl rfl 2 (by decide) (hts (.fieldLink RX1 39 "WordMachineModel" "pc" "I") flX1_step_39) (fun _ h9 => h9) rfl dX1_step_36 ?_
        refine lv_iconst (v := 4) hx hb dX1_step_39 (by decide) ?_
        refine lv_idiv hx hb dX1_step_40 (by decide) ?_
        refine va_iald hx hb hK hP 1 0 rfl rfl (ix_code c1 c3 hw) dX1_step_41 ?_
        refine lv_istore_n (lv' := [(1, .int (M_code u ((M_pc u) / 4).toNatClampNeg)), (0, .ref h)]) hx hb dX1_step_42 rfl hl (by decide) rfl (fun ls hl => ?_)
        refine lv_iload_n hx hb dX1_step_43 rfl (lv_at hl 0 rfl) ?_
        refine lv_bipush (v := 115) hx hb dX1_step_44 (by decide) ?_
        refine lv_icmp_ne (tgt := 71) hx hb dX1_step_46 (by decide) (fun (c4 : ¬ (M_code u ((M_pc u) / 4).toNatClampNeg) = 115) => ?_) (fun (c4 : (M_code u ((M_pc u) / 4).toNatClampNeg) = 115) => ?_)
        · refine lv_aload_n hx hb dX1_step_71 rfl (lv_at hl 1 rfl) ?_
          refine lv_iload_n hx hb dX1_step_72 rfl (lv_at hl 0 rfl) ?_
          refine lv_bipush (v := 7) hx hb dX1_step_73 (by decide) ?_
          refine lv_iconst (v := 5) hx hb dX1_step_75 (by decide) ?_
          refine pu_i (v := S1_bits (M_code u ((M_pc u) / 4).toNatClampNeg) (7) (5)) (As := [.int (M_code u ((M_pc u) / 4).toNatClampNeg), .int 7, .int 5]) (rest := [.ref h]) ⟨hx, hb, hml, hown, hts⟩ (c1_bits l (M_code u ((M_pc u) / 4).toNatClampNeg) (7) (5) ) gX1_step_X1_bits rfl hdX1_bits ⟨Nat.le_of_ble_eq_true rfl, Nat.le_of_ble_eq_true rfl⟩ hl.1 rfl (Nat.le_of_ble_eq_true rfl) dX1_step_76 ⟨Nat.zero_le _, Nat.zero_le _⟩ hP hS (fun H locs hP hS => ?_)
          refine va_put (D := D) (ci := 1) (v := .int (S1_bits (M_code u ((M_pc u) / 4).toNatClampNeg) (7) (5))) (ty := .int) (C := RX1) (T := TX1) (N := 12) hx hb hts iwX1_step tyX1 tyX1_ok nmX1 hown hK hP (ap4_D hap) hS 0 rfl rfl 6 (by decide) (hts (.fieldLink RX1 53 "WordMachineModel" "d" "I") flX1_step_53) (fun _ h9 => h9) rfl (by decide +kernel) rfl rfl (Nat.le_of_ble_eq_true rfl) dX1_step_79 (fun H locs hP _ hS => ?_)
          have hP : va_P D vwCl (ww1 cI cJ cB h q1 q2 q3 (Mp_d (S1_bits (M_code u ((M_pc u) / 4).toNatClampNeg) (7) (5)) u)) H := hP
          refine lv_aload_n hx hb dX1_step_82 rfl (lv_at hl 1 rfl) ?_
          refine lv_iload_n hx hb dX1_step_83 rfl (lv_at hl 0 rfl) ?_
          refine lv_bipush (v := 12) hx hb dX1_step_84 (by decide) ?_
          refine lv_iconst (v := 3) hx hb dX1_step_86 (by decide) ?_
          refine pu_i (v := S1_bits (M_code u ((M_pc u) / 4).toNatClampNeg) (12) (3)) (As := [.int (M_code u ((M_pc u) / 4).toNatClampNeg), .int 12, .int 3]) (rest := [.ref h]) ⟨hx, hb, hml, hown, hts⟩ (c1_bits l (M_code u ((M_pc u) / 4).toNatClampNeg) (12) (3) ) gX1_step_X1_bits rfl hdX1_bits ⟨Nat.le_of_ble_eq_true rfl, Nat.le_of_ble_eq_true rfl⟩ hl.1 rfl (Nat.le_of_ble_eq_true rfl) dX1_step_87 ⟨Nat.zero_le _, Nat.zero_le _⟩ hP hS (fun H locs hP hS => ?_)
          refine va_put (D := D) (ci := 1) (v := .int (S1_bits (M_code u ((M_pc u) / 4).toNatClampNeg) (12) (3))) (ty := .int) (C := RX1) (T := TX1) (N := 12) hx hb hts iwX1_step tyX1 tyX1_ok nmX1 hown hK hP (ap4_D hap) hS 0 rfl rfl 7 (by decide) (hts (.fieldLink RX1 56 "WordMachineModel" "t" "I") flX1_step_56) (fun _ h9 => h9) rfl (by decide +kernel) rfl rfl (Nat.le_of_ble_eq_true rfl) dX1_step_90 (fun H locs hP _ hS => ?_)
          have hP : va_P D vwCl (ww1 cI cJ cB h q1 q2 q3 (Mp_t (S1_bits (M_code u ((M_pc u) / 4).toNatClampNeg) (12) (3)) (Mp_d (S1_bits (M_code u ((M_pc u) / 4).toNatClampNeg) (7) (5)) u))) H := hP
          refine lv_aload_n hx hb dX1_step_93 rfl (lv_at hl 1 rfl) ?_
          refine lv_aload_n hx hb dX1_step_94 rfl (lv_at hl 1 rfl) ?_
          refine va_get (D := D) (ci := 1) (v := .ref q2) (C := RX1) (T := TX1) (N := 12) hx hb hts iwX1_step hown hK hP 0 rfl rfl 4 (by decide) (hts (.fieldLink RX1 13 "WordMachineModel" "registers" "[J") flX1_step_13) (fun _ h9 => h9) rfl dX1_step_95 ?_
          refine lv_iload_n hx hb dX1_step_98 rfl (lv_at hl 0 rfl) ?_
          refine lv_bipush (v := 15) hx hb dX1_step_99 (by decide) ?_
          refine lv_iconst (v := 5) hx hb dX1_step_101 (by decide) ?_
          refine pu_i (v := S1_bits (M_code u ((M_pc u) / 4).toNatClampNeg) (15) (5)) (As := [.int (M_code u ((M_pc u) / 4).toNatClampNeg), .int 15, .int 5]) (rest := [.ref q2, .ref h]) ⟨hx, hb, hml, hown, hts⟩ (c1_bits l (M_code u ((M_pc u) / 4).toNatClampNeg) (15) (5) ) gX1_step_X1_bits rfl hdX1_bits ⟨Nat.le_of_ble_eq_true rfl, Nat.le_of_ble_eq_true rfl⟩ hl.1 rfl (Nat.le_of_ble_eq_true rfl) dX1_step_102 ⟨Nat.zero_le _, Nat.zero_le _⟩ hP hS (fun H locs hP hS => ?_)
          refine va_lald hx hb hK hP 2 1 rfl rfl (in_bits5 _ _) dX1_step_105 ?_
          refine va_put (D := D) (ci := 1) (v := .long (M_regs (Mp_t (S1_bits (M_code u ((M_pc u) / 4).toNatClampNeg) (12) (3)) (Mp_d (S1_bits (M_code u ((M_pc u) / 4).toNatClampNeg) (7) (5)) u)) (S1_bits (M_code u ((M_pc u) / 4).toNatClampNeg) (15) (5)).toNatClampNeg)) (ty := .long) (C := RX1) (T := TX1) (N := 12) hx hb hts iwX1_step tyX1 tyX1_ok nmX1 hown hK hP (ap4_D hap) hS 0 rfl rfl 10 (by decide) (hts (.fieldLink RX1 59 "WordMachineModel" "x" "J") flX1_step_59) (fun _ h9 => h9) rfl (by decide +kernel) rfl rfl (Nat.le_of_ble_eq_true rfl) dX1_step_106 (fun H locs hP _ hS => ?_)
          have hP : va_P D vwCl (ww1 cI cJ cB h q1 q2 q3 (Mp_x (M_regs (Mp_t (S1_bits (M_code u ((M_pc u) / 4).toNatClampNeg) (12) (3)) (Mp_d (S1_bits (M_code u ((M_pc u) / 4).toNatClampNeg) (7) (5)) u)) (S1_bits (M_code u ((M_pc u) / 4).toNatClampNeg) (15) (5)).toNatClampNeg) (Mp_t (S1_bits (M_code u ((M_pc u) / 4).toNatClampNeg) (12) (3)) (Mp_d (S1_bits (M_code u ((M_pc u) / 4).toNatClampNeg) (7) (5)) u)))) H := hP
          refine lv_aload_n hx hb dX1_step_109 rfl (lv_at hl 1 rfl) ?_
          refine lv_aload_n hx hb dX1_step_110 rfl (lv_at hl 1 rfl) ?_
          refine va_get (D := D) (ci := 1) (v := .ref q2) (C := RX1) (T := TX1) (N := 12) hx hb hts iwX1_step hown hK hP 0 rfl rfl 4 (by decide) (hts (.fieldLink RX1 13 "WordMachineModel" "registers" "[J") flX1_step_13) (fun _ h9 => h9) rfl dX1_step_111 ?_
          refine lv_iload_n hx hb dX1_step_114 rfl (lv_at hl 0 rfl) ?_
          refine lv_bipush (v := 20) hx hb dX1_step_115 (by decide) ?_
          refine lv_iconst (v := 5) hx hb dX1_step_117 (by decide) ?_
          refine pu_i (v := S1_bits (M_code u ((M_pc u) / 4).toNatClampNeg) (20) (5)) (As := [.int (M_code u ((M_pc u) / 4).toNatClampNeg), .int 20, .int 5]) (rest := [.ref q2, .ref h]) ⟨hx, hb, hml, hown, hts⟩ (c1_bits l (M_code u ((M_pc u) / 4).toNatClampNeg) (20) (5) ) gX1_step_X1_bits rfl hdX1_bits ⟨Nat.le_of_ble_eq_true rfl, Nat.le_of_ble_eq_true rfl⟩ hl.1 rfl (Nat.le_of_ble_eq_true rfl) dX1_step_118 ⟨Nat.zero_le _, Nat.zero_le _⟩ hP hS (fun H locs hP hS => ?_)
          refine va_lald hx hb hK hP 2 1 rfl rfl (in_bits5 _ _) dX1_step_121 ?_
          refine va_put (D := D) (ci := 1) (v := .long (M_regs (Mp_x (M_regs (Mp_t (S1_bits (M_code u ((M_pc u) / 4).toNatClampNeg) (12) (3)) (Mp_d (S1_bits (M_code u ((M_pc u) / 4).toNatClampNeg) (7) (5)) u)) (S1_bits (M_code u ((M_pc u) / 4).toNatClampNeg) (15) (5)).toNatClampNeg) (Mp_t (S1_bits (M_code u ((M_pc u) / 4).toNatClampNeg) (12) (3)) (Mp_d (S1_bits (M_code u ((M_pc u) / 4).toNatClampNeg) (7) (5)) u))) (S1_bits (M_code u ((M_pc u) / 4).toNatClampNeg) (20) (5)).toNatClampNeg)) (ty := .long) (C := RX1) (T := TX1) (N := 12) hx hb hts iwX1_step tyX1 tyX1_ok nmX1 hown hK hP (ap4_D hap) hS 0 rfl rfl 11 (by decide) (hts (.fieldLink RX1 63 "WordMachineModel" "y" "J") flX1_step_63) (fun _ h9 => h9) rfl (by decide +kernel) rfl rfl (Nat.le_of_ble_eq_true rfl) dX1_step_122 (fun H locs hP _ hS => ?_)
          have hP : va_P D vwCl (ww1 cI cJ cB h q1 q2 q3 (Mp_y (M_regs (Mp_x (M_regs (Mp_t (S1_bits (M_code u ((M_pc u) / 4).toNatClampNeg) (12) (3)) (Mp_d (S1_bits (M_code u ((M_pc u) / 4).toNatClampNeg) (7) (5)) u)) (S1_bits (M_code u ((M_pc u) / 4).toNatClampNeg) (15) (5)).toNatClampNeg) (Mp_t (S1_bits (M_code u ((M_pc u) / 4).toNatClampNeg) (12) (3)) (Mp_d (S1_bits (M_code u ((M_pc u) / 4).toNatClampNeg) (7) (5)) u))) (S1_bits (M_code u ((M_pc u) / 4).toNatClampNeg) (20) (5)).toNatClampNeg) (Mp_x (M_regs (Mp_t (S1_bits (M_code u ((M_pc u) / 4).toNatClampNeg) (12) (3)) (Mp_d (S1_bits (M_code u ((M_pc u) / 4).toNatClampNeg) (7) (5)) u)) (S1_bits (M_code u ((M_pc u) / 4).toNatClampNeg) (15) (5)).toNatClampNeg) (Mp_t (S1_bits (M_code u ((M_pc u) / 4).toNatClampNeg) (12) (3)) (Mp_d (S1_bits (M_code u ((M_pc u) / 4).toNatClampNeg) (7) (5)) u))))) H := hP
          refine lv_aload_n hx hb dX1_step_125 rfl (lv_at hl 1 rfl) ?_
          refine lv_iload_n hx hb dX1_step_126 rfl (lv_at hl 0 rfl) ?_
          refine lv_bipush (v := 25) hx hb dX1_step_127 (by decide) ?_
          refine lv_bipush (v := 7) hx hb dX1_step_129 (by decide) ?_
          refine pu_i (v := S1_bits (M_code u ((M_pc u) / 4).toNatClampNeg) (25) (7)) (As := [.int (M_code u ((M_pc u) / 4).toNatClampNeg), .int 25, .int 7]) (rest := [.ref h]) ⟨hx, hb, hml, hown, hts⟩ (c1_bits l (M_code u ((M_pc u) / 4).toNatClampNeg) (25) (7) ) gX1_step_X1_bits rfl hdX1_bits ⟨Nat.le_of_ble_eq_true rfl, Nat.le_of_ble_eq_true rfl⟩ hl.1 rfl (Nat.le_of_ble_eq_true rfl) dX1_step_131 ⟨Nat.zero_le _, Nat.zero_le _⟩ hP hS (fun H locs hP hS => ?_)
          refine va_put (D := D) (ci := 1) (v := .int (S1_bits (M_code u ((M_pc u) / 4).toNatClampNeg) (25) (7))) (ty := .int) (C := RX1) (T := TX1) (N := 12) hx hb hts iwX1_step tyX1 tyX1_ok nmX1 hown hK hP (ap4_D hap) hS 0 rfl rfl 8 (by decide) (hts (.fieldLink RX1 66 "WordMachineModel" "s" "I") flX1_step_66) (fun _ h9 => h9) rfl (by decide +kernel) rfl rfl (Nat.le_of_ble_eq_true rfl) dX1_step_134 (fun H locs hP _ hS => ?_)
          have hP : va_P D vwCl (ww1 cI cJ cB h q1 q2 q3 (Mp_s (S1_bits (M_code u ((M_pc u) / 4).toNatClampNeg) (25) (7)) (Mp_y (M_regs (Mp_x (M_regs (Mp_t (S1_bits (M_code u ((M_pc u) / 4).toNatClampNeg) (12) (3)) (Mp_d (S1_bits (M_code u ((M_pc u) / 4).toNatClampNeg) (7) (5)) u)) (S1_bits (M_code u ((M_pc u) / 4).toNatClampNeg) (15) (5)).toNatClampNeg) (Mp_t (S1_bits (M_code u ((M_pc u) / 4).toNatClampNeg) (12) (3)) (Mp_d (S1_bits (M_code u ((M_pc u) / 4).toNatClampNeg) (7) (5)) u))) (S1_bits (M_code u ((M_pc u) / 4).toNatClampNeg) (20) (5)).toNatClampNeg) (Mp_x (M_regs (Mp_t (S1_bits (M_code u ((M_pc u) / 4).toNatClampNeg) (12) (3)) (Mp_d (S1_bits (M_code u ((M_pc u) / 4).toNatClampNeg) (7) (5)) u)) (S1_bits (M_code u ((M_pc u) / 4).toNatClampNeg) (15) (5)).toNatClampNeg) (Mp_t (S1_bits (M_code u ((M_pc u) / 4).toNatClampNeg) (12) (3)) (Mp_d (S1_bits (M_code u ((M_pc u) / 4).toNatClampNeg) (7) (5)) u)))))) H := hP
          refine lv_aload_n hx hb dX1_step_137 rfl (lv_at hl 1 rfl) ?_
          refine lv_iload_n hx hb dX1_step_138 rfl (lv_at hl 0 rfl) ?_
          refine lv_bipush (v := 20) hx hb dX1_step_139 (by decide) ?_
          refine lv_bipush (v := 12) hx hb dX1_step_141 (by decide) ?_
          refine pu_i (v := S1_bits (M_code u ((M_pc u) / 4).toNatClampNeg) (20) (12)) (As := [.int (M_code u ((M_pc u) / 4).toNatClampNeg), .int 20, .int 12]) (rest := [.ref h]) ⟨hx, hb, hml, hown, hts⟩ (c1_bits l (M_code u ((M_pc u) / 4).toNatClampNeg) (20) (12) ) gX1_step_X1_bits rfl hdX1_bits ⟨Nat.le_of_ble_eq_true rfl, Nat.le_of_ble_eq_true rfl⟩ hl.1 rfl (Nat.le_of_ble_eq_true rfl) dX1_step_143 ⟨Nat.zero_le _, Nat.zero_le _⟩ hP hS (fun H locs hP hS => ?_)
          refine lv_bipush (v := 12) hx hb dX1_step_146 (by decide) ?_
          refine pu_i (v := S1_withSign (S1_bits (M_code u ((M_pc u) / 4).toNatClampNeg) (20) (12)) (12)) (As := [.int (S1_bits (M_code u ((M_pc u) / 4).toNatClampNeg) (20) (12)), .int 12]) (rest := [.ref h]) ⟨hx, hb, hml, hown, hts⟩ (c1_withSign l (S1_bits (M_code u ((M_pc u) / 4).toNatClampNeg) (20) (12)) (12) ) gX1_step_X1_withSign rfl hdX1_withSign ⟨Nat.le_of_ble_eq_true rfl, Nat.le_of_ble_eq_true rfl⟩ hl.1 rfl (Nat.le_of_ble_eq_true rfl) dX1_step_148 ⟨Nat.zero_le _, Nat.zero_le _⟩ hP hS (fun H locs hP hS => ?_)
          refine va_put (D := D) (ci := 1) (v := .int (S1_withSign (S1_bits (M_code u ((M_pc u) / 4).toNatClampNeg) (20) (12)) (12))) (ty := .int) (C := RX1) (T := TX1) (N := 12) hx hb hts iwX1_step tyX1 tyX1_ok nmX1 hown hK hP (ap4_D hap) hS 0 rfl rfl 9 (by decide) (hts (.fieldLink RX1 73 "WordMachineModel" "immediate" "I") flX1_step_73) (fun _ h9 => h9) rfl (by decide +kernel) rfl rfl (Nat.le_of_ble_eq_true rfl) dX1_step_151 (fun H locs hP _ hS => ?_)
          have hP : va_P D vwCl (ww1 cI cJ cB h q1 q2 q3 (Mp_im (S1_withSign (S1_bits (M_code u ((M_pc u) / 4).toNatClampNeg) (20) (12)) (12)) (Mp_s (S1_bits (M_code u ((M_pc u) / 4).toNatClampNeg) (25) (7)) (Mp_y (M_regs (Mp_x (M_regs (Mp_t (S1_bits (M_code u ((M_pc u) / 4).toNatClampNeg) (12) (3)) (Mp_d (S1_bits (M_code u ((M_pc u) / 4).toNatClampNeg) (7) (5)) u)) (S1_bits (M_code u ((M_pc u) / 4).toNatClampNeg) (15) (5)).toNatClampNeg) (Mp_t (S1_bits (M_code u ((M_pc u) / 4).toNatClampNeg) (12) (3)) (Mp_d (S1_bits (M_code u ((M_pc u) / 4).toNatClampNeg) (7) (5)) u))) (S1_bits (M_code u ((M_pc u) / 4).toNatClampNeg) (20) (5)).toNatClampNeg) (Mp_x (M_regs (Mp_t (S1_bits (M_code u ((M_pc u) / 4).toNatClampNeg) (12) (3)) (Mp_d (S1_bits (M_code u ((M_pc u) / 4).toNatClampNeg) (7) (5)) u)) (S1_bits (M_code u ((M_pc u) / 4).toNatClampNeg) (15) (5)).toNatClampNeg) (Mp_t (S1_bits (M_code u ((M_pc u) / 4).toNatClampNeg) (12) (3)) (Mp_d (S1_bits (M_code u ((M_pc u) / 4).toNatClampNeg) (7) (5)) u))))))) H := hP
          refine lv_aload_n hx hb dX1_step_154 rfl (lv_at hl 1 rfl) ?_
          refine lv_iload_n hx hb dX1_step_155 rfl (lv_at hl 0 rfl) ?_
          refine lv_iconst (v := 0) hx hb dX1_step_156 (by decide) ?_
          refine lv_bipush (v := 7) hx hb dX1_step_157 (by decide) ?_
          refine pu_i (v := S1_bits (M_code u ((M_pc u) / 4).toNatClampNeg) (0) (7)) (As := [.int (M_code u ((M_pc u) / 4).toNatClampNeg), .int 0, .int 7]) (rest := [.ref h]) ⟨hx, hb, hml, hown, hts⟩ (c1_bits l (M_code u ((M_pc u) / 4).toNatClampNeg) (0) (7) ) gX1_step_X1_bits rfl hdX1_bits ⟨Nat.le_of_ble_eq_true rfl, Nat.le_of_ble_eq_true rfl⟩ hl.1 rfl (Nat.le_of_ble_eq_true rfl) dX1_step_159 ⟨Nat.zero_le _, Nat.zero_le _⟩ hP hS (fun H locs hP hS => ?_)
          refine lv_iload_n hx hb dX1_step_162 rfl (lv_at hl 0 rfl) ?_
          refine in_i (v := (S1_work (S1_bits (M_code u ((M_pc u) / 4).toNatClampNeg) (0) (7)) (M_code u ((M_pc u) / 4).toNatClampNeg) (Mp_im (S1_withSign (S1_bits (M_code u ((M_pc u) / 4).toNatClampNeg) (20) (12)) (12)) (Mp_s (S1_bits (M_code u ((M_pc u) / 4).toNatClampNeg) (25) (7)) (Mp_y (M_regs (Mp_x (M_regs (Mp_t (S1_bits (M_code u ((M_pc u) / 4).toNatClampNeg) (12) (3)) (Mp_d (S1_bits (M_code u ((M_pc u) / 4).toNatClampNeg) (7) (5)) u)) (S1_bits (M_code u ((M_pc u) / 4).toNatClampNeg) (15) (5)).toNatClampNeg) (Mp_t (S1_bits (M_code u ((M_pc u) / 4).toNatClampNeg) (12) (3)) (Mp_d (S1_bits (M_code u ((M_pc u) / 4).toNatClampNeg) (7) (5)) u))) (S1_bits (M_code u ((M_pc u) / 4).toNatClampNeg) (20) (5)).toNatClampNeg) (Mp_x (M_regs (Mp_t (S1_bits (M_code u ((M_pc u) / 4).toNatClampNeg) (12) (3)) (Mp_d (S1_bits (M_code u ((M_pc u) / 4).toNatClampNeg) (7) (5)) u)) (S1_bits (M_code u ((M_pc u) / 4).toNatClampNeg) (15) (5)).toNatClampNeg) (Mp_t (S1_bits (M_code u ((M_pc u) / 4).toNatClampNeg) (12) (3)) (Mp_d (S1_bits (M_code u ((M_pc u) / 4).toNatClampNeg) (7) (5)) u))))))).1) (As := [.int (S1_bits (M_code u ((M_pc u) / 4).toNatClampNeg) (0) (7)), .int (M_code u ((M_pc u) / 4).toNatClampNeg)]) (rest := []) (w1 := ww1 cI cJ cB h q1 q2 q3 ((S1_work (S1_bits (M_code u ((M_pc u) / 4).toNatClampNeg) (0) (7)) (M_code u ((M_pc u) / 4).toNatClampNeg) (Mp_im (S1_withSign (S1_bits (M_code u ((M_pc u) / 4).toNatClampNeg) (20) (12)) (12)) (Mp_s (S1_bits (M_code u ((M_pc u) / 4).toNatClampNeg) (25) (7)) (Mp_y (M_regs (Mp_x (M_regs (Mp_t (S1_bits (M_code u ((M_pc u) / 4).toNatClampNeg) (12) (3)) (Mp_d (S1_bits (M_code u ((M_pc u) / 4).toNatClampNeg) (7) (5)) u)) (S1_bits (M_code u ((M_pc u) / 4).toNatClampNeg) (15) (5)).toNatClampNeg) (Mp_t (S1_bits (M_code u ((M_pc u) / 4).toNatClampNeg) (12) (3)) (Mp_d (S1_bits (M_code u ((M_pc u) / 4).toNatClampNeg) (7) (5)) u))) (S1_bits (M_code u ((M_pc u) / 4).toNatClampNeg) (20) (5)).toNatClampNeg) (Mp_x (M_regs (Mp_t (S1_bits (M_code u ((M_pc u) / 4).toNatClampNeg) (12) (3)) (Mp_d (S1_bits (M_code u ((M_pc u) / 4).toNatClampNeg) (7) (5)) u)) (S1_bits (M_code u ((M_pc u) / 4).toNatClampNeg) (15) (5)).toNatClampNeg) (Mp_t (S1_bits (M_code u ((M_pc u) / 4).toNatClampNeg) (12) (3)) (Mp_d (S1_bits (M_code u ((M_pc u) / 4).toNatClampNeg) (7) (5)) u))))))).2)) ⟨hx, hb, hml, hown, hts⟩ (c1_work l hap (S1_bits (M_code u ((M_pc u) / 4).toNatClampNeg) (0) (7)) (M_code u ((M_pc u) / 4).toNatClampNeg) (Mp_im (S1_withSign (S1_bits (M_code u ((M_pc u) / 4).toNatClampNeg) (20) (12)) (12)) (Mp_s (S1_bits (M_code u ((M_pc u) / 4).toNatClampNeg) (25) (7)) (Mp_y (M_regs (Mp_x (M_regs (Mp_t (S1_bits (M_code u ((M_pc u) / 4).toNatClampNeg) (12) (3)) (Mp_d (S1_bits (M_code u ((M_pc u) / 4).toNatClampNeg) (7) (5)) u)) (S1_bits (M_code u ((M_pc u) / 4).toNatClampNeg) (15) (5)).toNatClampNeg) (Mp_t (S1_bits (M_code u ((M_pc u) / 4).toNatClampNeg) (12) (3)) (Mp_d (S1_bits (M_code u ((M_pc u) / 4).toNatClampNeg) (7) (5)) u))) (S1_bits (M_code u ((M_pc u) / 4).toNatClampNeg) (20) (5)).toNatClampNeg) (Mp_x (M_regs (Mp_t (S1_bits (M_code u ((M_pc u) / 4).toNatClampNeg) (12) (3)) (Mp_d (S1_bits (M_code u ((M_pc u) / 4).toNatClampNeg) (7) (5)) u)) (S1_bits (M_code u ((M_pc u) / 4).toNatClampNeg) (15) (5)).toNatClampNeg) (Mp_t (S1_bits (M_code u ((M_pc u) / 4).toNatClampNeg) (12) (3)) (Mp_d (S1_bits (M_code u ((M_pc u) / 4).toNatClampNeg) (7) (5)) u)))))) (lt_bits5 _ _) (rg_at hrg (in_bits5 _ _))) gX1_step_X1_work rfl hdX1_work ⟨Nat.le_of_ble_eq_true rfl, Nat.le_of_ble_eq_true rfl⟩ hK rfl rfl hl.1 rfl (Nat.le_of_ble_eq_true rfl) dX1_step_163 ⟨Nat.zero_le _, Nat.zero_le _⟩ hP hS (fun _ h => h) (fun H locs hP hS _ _ => ?_)
          refine lv_istore_n (lv' := [(2, .int ((S1_work (S1_bits (M_code u ((M_pc u) / 4).toNatClampNeg) (0) (7)) (M_code u ((M_pc u) / 4).toNatClampNeg) (Mp_im (S1_withSign (S1_bits (M_code u ((M_pc u) / 4).toNatClampNeg) (20) (12)) (12)) (Mp_s (S1_bits (M_code u ((M_pc u) / 4).toNatClampNeg) (25) (7)) (Mp_y (M_regs (Mp_x (M_regs (Mp_t (S1_bits (M_code u ((M_pc u) / 4).toNatClampNeg) (12) (3)) (Mp_d (S1_bits (M_code u ((M_pc u) / 4).toNatClampNeg) (7) (5)) u)) (S1_bits (M_code u ((M_pc u) / 4).toNatClampNeg) (15) (5)).toNatClampNeg) (Mp_t (S1_bits (M_code u ((M_pc u) / 4).toNatClampNeg) (12) (3)) (Mp_d (S1_bits (M_code u ((M_pc u) / 4).toNatClampNeg) (7) (5)) u))) (S1_bits (M_code u ((M_pc u) / 4).toNatClampNeg) (20) (5)).toNatClampNeg) (Mp_x (M_regs (Mp_t (S1_bits (M_code u ((M_pc u) / 4).toNatClampNeg) (12) (3)) (Mp_d (S1_bits (M_code u ((M_pc u) / 4).toNatClampNeg) (7) (5)) u)) (S1_bits (M_code u ((M_pc u) / 4).toNatClampNeg) (15) (5)).toNatClampNeg) (Mp_t (S1_bits (M_code u ((M_pc u) / 4).toNatClampNeg) (12) (3)) (Mp_d (S1_bits (M_code u ((M_pc u) / 4).toNatClampNeg) (7) (5)) u))))))).1)), (1, .int (M_code u ((M_pc u) / 4).toNatClampNeg)), (0, .ref h)]) hx hb dX1_step_166 rfl hl (by decide) rfl (fun ls hl => ?_)
          refine lv_iload_n hx hb dX1_step_167 rfl (lv_at hl 0 rfl) ?_
          refine lv_if_le (tgt := 173) hx hb dX1_step_168 (by decide) (fun (c5 : ((S1_work (S1_bits (M_code u ((M_pc u) / 4).toNatClampNeg) (0) (7)) (M_code u ((M_pc u) / 4).toNatClampNeg) (Mp_im (S1_withSign (S1_bits (M_code u ((M_pc u) / 4).toNatClampNeg) (20) (12)) (12)) (Mp_s (S1_bits (M_code u ((M_pc u) / 4).toNatClampNeg) (25) (7)) (Mp_y (M_regs (Mp_x (M_regs (Mp_t (S1_bits (M_code u ((M_pc u) / 4).toNatClampNeg) (12) (3)) (Mp_d (S1_bits (M_code u ((M_pc u) / 4).toNatClampNeg) (7) (5)) u)) (S1_bits (M_code u ((M_pc u) / 4).toNatClampNeg) (15) (5)).toNatClampNeg) (Mp_t (S1_bits (M_code u ((M_pc u) / 4).toNatClampNeg) (12) (3)) (Mp_d (S1_bits (M_code u ((M_pc u) / 4).toNatClampNeg) (7) (5)) u))) (S1_bits (M_code u ((M_pc u) / 4).toNatClampNeg) (20) (5)).toNatClampNeg) (Mp_x (M_regs (Mp_t (S1_bits (M_code u ((M_pc u) / 4).toNatClampNeg) (12) (3)) (Mp_d (S1_bits (M_code u ((M_pc u) / 4).toNatClampNeg) (7) (5)) u)) (S1_bits (M_code u ((M_pc u) / 4).toNatClampNeg) (15) (5)).toNatClampNeg) (Mp_t (S1_bits (M_code u ((M_pc u) / 4).toNatClampNeg) (12) (3)) (Mp_d (S1_bits (M_code u ((M_pc u) / 4).toNatClampNeg) (7) (5)) u))))))).1) ≤ 0) => ?_) (fun (c5 : ¬ ((S1_work (S1_bits (M_code u ((M_pc u) / 4).toNatClampNeg) (0) (7)) (M_code u ((M_pc u) / 4).toNatClampNeg) (Mp_im (S1_withSign (S1_bits (M_code u ((M_pc u) / 4).toNatClampNeg) (20) (12)) (12)) (Mp_s (S1_bits (M_code u ((M_pc u) / 4).toNatClampNeg) (25) (7)) (Mp_y (M_regs (Mp_x (M_regs (Mp_t (S1_bits (M_code u ((M_pc u) / 4).toNatClampNeg) (12) (3)) (Mp_d (S1_bits (M_code u ((M_pc u) / 4).toNatClampNeg) (7) (5)) u)) (S1_bits (M_code u ((M_pc u) / 4).toNatClampNeg) (15) (5)).toNatClampNeg) (Mp_t (S1_bits (M_code u ((M_pc u) / 4).toNatClampNeg) (12) (3)) (Mp_d (S1_bits (M_code u ((M_pc u) / 4).toNatClampNeg) (7) (5)) u))) (S1_bits (M_code u ((M_pc u) / 4).toNatClampNeg) (20) (5)).toNatClampNeg) (Mp_x (M_regs (Mp_t (S1_bits (M_code u ((M_pc u) / 4).toNatClampNeg) (12) (3)) (Mp_d (S1_bits (M_code u ((M_pc u) / 4).toNatClampNeg) (7) (5)) u)) (S1_bits (M_code u ((M_pc u) / 4).toNatClampNeg) (15) (5)).toNatClampNeg) (Mp_t (S1_bits (M_code u ((M_pc u) / 4).toNatClampNeg) (12) (3)) (Mp_d (S1_bits (M_code u ((M_pc u) / 4).toNatClampNeg) (7) (5)) u))))))).1) ≤ 0) => ?_)
          · refine lv_aload_n hx hb dX1_step_173 rfl (lv_at hl 2 rfl) ?_
            refine lv_dup hx hb dX1_step_174 rfl ?_
            refine va_get (D := D) (ci := 1) (v := .int (M_st ((S1_work (S1_bits (M_code u ((M_pc u) / 4).toNatClampNeg) (0) (7)) (M_code u ((M_pc u) / 4).toNatClampNeg) (Mp_im (S1_withSign (S1_bits (M_code u ((M_pc u) / 4).toNatClampNeg) (20) (12)) (12)) (Mp_s (S1_bits (M_code u ((M_pc u) / 4).toNatClampNeg) (25) (7)) (Mp_y (M_regs (Mp_x (M_regs (Mp_t (S1_bits (M_code u ((M_pc u) / 4).toNatClampNeg) (12) (3)) (Mp_d (S1_bits (M_code u ((M_pc u) / 4).toNatClampNeg) (7) (5)) u)) (S1_bits (M_code u ((M_pc u) / 4).toNatClampNeg) (15) (5)).toNatClampNeg) (Mp_t (S1_bits (M_code u ((M_pc u) / 4).toNatClampNeg) (12) (3)) (Mp_d (S1_bits (M_code u ((M_pc u) / 4).toNatClampNeg) (7) (5)) u))) (S1_bits (M_code u ((M_pc u) / 4).toNatClampNeg) (20) (5)).toNatClampNeg) (Mp_x (M_regs (Mp_t (S1_bits (M_code u ((M_pc u) / 4).toNatClampNeg) (12) (3)) (Mp_d (S1_bits (M_code u ((M_pc u) / 4).toNatClampNeg) (7) (5)) u)) (S1_bits (M_code u ((M_pc u) / 4).toNatClampNeg) (15) (5)).toNatClampNeg) (Mp_t (S1_bits (M_code u ((M_pc u) / 4).toNatClampNeg) (12) (3)) (Mp_d (S1_bits (M_code u ((M_pc u) / 4).toNatClampNeg) (7) (5)) u))))))).2))) (C := RX1) (T := TX1) (N := 12) hx hb hts iwX1_step hown hK hP 0 rfl rfl 3 (by decide) (hts (.fieldLink RX1 42 "WordMachineModel" "steps" "I") flX1_step_42) (fun _ h9 => h9) rfl dX1_step_175 ?_
            refine lv_iconst (v := 1) hx hb dX1_step_178 (by decide) ?_
            refine lv_iadd hx hb dX1_step_179 ?_
            refine va_put (D := D) (ci := 1) (v := .int ((M_st ((S1_work (S1_bits (M_code u ((M_pc u) / 4).toNatClampNeg) (0) (7)) (M_code u ((M_pc u) / 4).toNatClampNeg) (Mp_im (S1_withSign (S1_bits (M_code u ((M_pc u) / 4).toNatClampNeg) (20) (12)) (12)) (Mp_s (S1_bits (M_code u ((M_pc u) / 4).toNatClampNeg) (25) (7)) (Mp_y (M_regs (Mp_x (M_regs (Mp_t (S1_bits (M_code u ((M_pc u) / 4).toNatClampNeg) (12) (3)) (Mp_d (S1_bits (M_code u ((M_pc u) / 4).toNatClampNeg) (7) (5)) u)) (S1_bits (M_code u ((M_pc u) / 4).toNatClampNeg) (15) (5)).toNatClampNeg) (Mp_t (S1_bits (M_code u ((M_pc u) / 4).toNatClampNeg) (12) (3)) (Mp_d (S1_bits (M_code u ((M_pc u) / 4).toNatClampNeg) (7) (5)) u))) (S1_bits (M_code u ((M_pc u) / 4).toNatClampNeg) (20) (5)).toNatClampNeg) (Mp_x (M_regs (Mp_t (S1_bits (M_code u ((M_pc u) / 4).toNatClampNeg) (12) (3)) (Mp_d (S1_bits (M_code u ((M_pc u) / 4).toNatClampNeg) (7) (5)) u)) (S1_bits (M_code u ((M_pc u) / 4).toNatClampNeg) (15) (5)).toNatClampNeg) (Mp_t (S1_bits (M_code u ((M_pc u) / 4).toNatClampNeg) (12) (3)) (Mp_d (S1_bits (M_code u ((M_pc u) / 4).toNatClampNeg) (7) (5)) u))))))).2)) + 1)) (ty := .int) (C := RX1) (T := TX1) (N := 12) hx hb hts iwX1_step tyX1 tyX1_ok nmX1 hown hK hP (ap4_D hap) hS 0 rfl rfl 3 (by decide) (hts (.fieldLink RX1 42 "WordMachineModel" "steps" "I") flX1_step_42) (fun _ h9 => h9) rfl (by decide +kernel) rfl rfl (Nat.le_of_ble_eq_true rfl) dX1_step_180 (fun H locs hP _ hS => ?_)
            have hP : va_P D vwCl (ww1 cI cJ cB h q1 q2 q3 (Mp_st ((M_st ((S1_work (S1_bits (M_code u ((M_pc u) / 4).toNatClampNeg) (0) (7)) (M_code u ((M_pc u) / 4).toNatClampNeg) (Mp_im (S1_withSign (S1_bits (M_code u ((M_pc u) / 4).toNatClampNeg) (20) (12)) (12)) (Mp_s (S1_bits (M_code u ((M_pc u) / 4).toNatClampNeg) (25) (7)) (Mp_y (M_regs (Mp_x (M_regs (Mp_t (S1_bits (M_code u ((M_pc u) / 4).toNatClampNeg) (12) (3)) (Mp_d (S1_bits (M_code u ((M_pc u) / 4).toNatClampNeg) (7) (5)) u)) (S1_bits (M_code u ((M_pc u) / 4).toNatClampNeg) (15) (5)).toNatClampNeg) (Mp_t (S1_bits (M_code u ((M_pc u) / 4).toNatClampNeg) (12) (3)) (Mp_d (S1_bits (M_code u ((M_pc u) / 4).toNatClampNeg) (7) (5)) u))) (S1_bits (M_code u ((M_pc u) / 4).toNatClampNeg) (20) (5)).toNatClampNeg) (Mp_x (M_regs (Mp_t (S1_bits (M_code u ((M_pc u) / 4).toNatClampNeg) (12) (3)) (Mp_d (S1_bits (M_code u ((M_pc u) / 4).toNatClampNeg) (7) (5)) u)) (S1_bits (M_code u ((M_pc u) / 4).toNatClampNeg) (15) (5)).toNatClampNeg) (Mp_t (S1_bits (M_code u ((M_pc u) / 4).toNatClampNeg) (12) (3)) (Mp_d (S1_bits (M_code u ((M_pc u) / 4).toNatClampNeg) (7) (5)) u))))))).2)) + 1) ((S1_work (S1_bits (M_code u ((M_pc u) / 4).toNatClampNeg) (0) (7)) (M_code u ((M_pc u) / 4).toNatClampNeg) (Mp_im (S1_withSign (S1_bits (M_code u ((M_pc u) / 4).toNatClampNeg) (20) (12)) (12)) (Mp_s (S1_bits (M_code u ((M_pc u) / 4).toNatClampNeg) (25) (7)) (Mp_y (M_regs (Mp_x (M_regs (Mp_t (S1_bits (M_code u ((M_pc u) / 4).toNatClampNeg) (12) (3)) (Mp_d (S1_bits (M_code u ((M_pc u) / 4).toNatClampNeg) (7) (5)) u)) (S1_bits (M_code u ((M_pc u) / 4).toNatClampNeg) (15) (5)).toNatClampNeg) (Mp_t (S1_bits (M_code u ((M_pc u) / 4).toNatClampNeg) (12) (3)) (Mp_d (S1_bits (M_code u ((M_pc u) / 4).toNatClampNeg) (7) (5)) u))) (S1_bits (M_code u ((M_pc u) / 4).toNatClampNeg) (20) (5)).toNatClampNeg) (Mp_x (M_regs (Mp_t (S1_bits (M_code u ((M_pc u) / 4).toNatClampNeg) (12) (3)) (Mp_d (S1_bits (M_code u ((M_pc u) / 4).toNatClampNeg) (7) (5)) u)) (S1_bits (M_code u ((M_pc u) / 4).toNatClampNeg) (15) (5)).toNatClampNeg) (Mp_t (S1_bits (M_code u ((M_pc u) / 4).toNatClampNeg) (12) (3)) (Mp_d (S1_bits (M_code u ((M_pc u) / 4).toNatClampNeg) (7) (5)) u))))))).2))) H := hP
            refine lv_iconst (v := 0) hx hb dX1_step_183 (by decide) ?_
            have e9 : S1_step u = ((0 : Int32), Mp_st ((M_st ((S1_work (S1_bits (M_code u ((M_pc u) / 4).toNatClampNeg) (0) (7)) (M_code u ((M_pc u) / 4).toNatClampNeg) (Mp_im (S1_withSign (S1_bits (M_code u ((M_pc u) / 4).toNatClampNeg) (20) (12)) (12)) (Mp_s (S1_bits (M_code u ((M_pc u) / 4).toNatClampNeg) (25) (7)) (Mp_y (M_regs (Mp_x (M_regs (Mp_t (S1_bits (M_code u ((M_pc u) / 4).toNatClampNeg) (12) (3)) (Mp_d (S1_bits (M_code u ((M_pc u) / 4).toNatClampNeg) (7) (5)) u)) (S1_bits (M_code u ((M_pc u) / 4).toNatClampNeg) (15) (5)).toNatClampNeg) (Mp_t (S1_bits (M_code u ((M_pc u) / 4).toNatClampNeg) (12) (3)) (Mp_d (S1_bits (M_code u ((M_pc u) / 4).toNatClampNeg) (7) (5)) u))) (S1_bits (M_code u ((M_pc u) / 4).toNatClampNeg) (20) (5)).toNatClampNeg) (Mp_x (M_regs (Mp_t (S1_bits (M_code u ((M_pc u) / 4).toNatClampNeg) (12) (3)) (Mp_d (S1_bits (M_code u ((M_pc u) / 4).toNatClampNeg) (7) (5)) u)) (S1_bits (M_code u ((M_pc u) / 4).toNatClampNeg) (15) (5)).toNatClampNeg) (Mp_t (S1_bits (M_code u ((M_pc u) / 4).toNatClampNeg) (12) (3)) (Mp_d (S1_bits (M_code u ((M_pc u) / 4).toNatClampNeg) (7) (5)) u))))))).2)) + 1) ((S1_work (S1_bits (M_code u ((M_pc u) / 4).toNatClampNeg) (0) (7)) (M_code u ((M_pc u) / 4).toNatClampNeg) (Mp_im (S1_withSign (S1_bits (M_code u ((M_pc u) / 4).toNatClampNeg) (20) (12)) (12)) (Mp_s (S1_bits (M_code u ((M_pc u) / 4).toNatClampNeg) (25) (7)) (Mp_y (M_regs (Mp_x (M_regs (Mp_t (S1_bits (M_code u ((M_pc u) / 4).toNatClampNeg) (12) (3)) (Mp_d (S1_bits (M_code u ((M_pc u) / 4).toNatClampNeg) (7) (5)) u)) (S1_bits (M_code u ((M_pc u) / 4).toNatClampNeg) (15) (5)).toNatClampNeg) (Mp_t (S1_bits (M_code u ((M_pc u) / 4).toNatClampNeg) (12) (3)) (Mp_d (S1_bits (M_code u ((M_pc u) / 4).toNatClampNeg) (7) (5)) u))) (S1_bits (M_code u ((M_pc u) / 4).toNatClampNeg) (20) (5)).toNatClampNeg) (Mp_x (M_regs (Mp_t (S1_bits (M_code u ((M_pc u) / 4).toNatClampNeg) (12) (3)) (Mp_d (S1_bits (M_code u ((M_pc u) / 4).toNatClampNeg) (7) (5)) u)) (S1_bits (M_code u ((M_pc u) / 4).toNatClampNeg) (15) (5)).toNatClampNeg) (Mp_t (S1_bits (M_code u ((M_pc u) / 4).toNatClampNeg) (12) (3)) (Mp_d (S1_bits (M_code u ((M_pc u) / 4).toNatClampNeg) (7) (5)) u))))))).2)) := by rw [S1_step, if_neg c1, if_pos c2, if_pos c3, if_neg c4, if_pos c5]
            exact W.iret (v := (0 : Int32)) hx hb hr (fun t ht hW => ⟨⟨(0 : Int32), (), rfl, by rw [e9], by show va_P _ _ _ t.heap; rw [e9, ht]; exact hP⟩, hS.F ht⟩) hS.2.2 dX1_step_184
          · refine lv_iload_n hx hb dX1_step_171 rfl (lv_at hl 0 rfl) ?_
            have e9 : S1_step u = ((S1_work (S1_bits (M_code u ((M_pc u) / 4).toNatClampNeg) (0) (7)) (M_code u ((M_pc u) / 4).toNatClampNeg) (Mp_im (S1_withSign (S1_bits (M_code u ((M_pc u) / 4).toNatClampNeg) (20) (12)) (12)) (Mp_s (S1_bits (M_code u ((M_pc u) / 4).toNatClampNeg) (25) (7)) (Mp_y (M_regs (Mp_x (M_regs (Mp_t (S1_bits (M_code u ((M_pc u) / 4).toNatClampNeg) (12) (3)) (Mp_d (S1_bits (M_code u ((M_pc u) / 4).toNatClampNeg) (7) (5)) u)) (S1_bits (M_code u ((M_pc u) / 4).toNatClampNeg) (15) (5)).toNatClampNeg) (Mp_t (S1_bits (M_code u ((M_pc u) / 4).toNatClampNeg) (12) (3)) (Mp_d (S1_bits (M_code u ((M_pc u) / 4).toNatClampNeg) (7) (5)) u))) (S1_bits (M_code u ((M_pc u) / 4).toNatClampNeg) (20) (5)).toNatClampNeg) (Mp_x (M_regs (Mp_t (S1_bits (M_code u ((M_pc u) / 4).toNatClampNeg) (12) (3)) (Mp_d (S1_bits (M_code u ((M_pc u) / 4).toNatClampNeg) (7) (5)) u)) (S1_bits (M_code u ((M_pc u) / 4).toNatClampNeg) (15) (5)).toNatClampNeg) (Mp_t (S1_bits (M_code u ((M_pc u) / 4).toNatClampNeg) (12) (3)) (Mp_d (S1_bits (M_code u ((M_pc u) / 4).toNatClampNeg) (7) (5)) u))))))).1, (S1_work (S1_bits (M_code u ((M_pc u) / 4).toNatClampNeg) (0) (7)) (M_code u ((M_pc u) / 4).toNatClampNeg) (Mp_im (S1_withSign (S1_bits (M_code u ((M_pc u) / 4).toNatClampNeg) (20) (12)) (12)) (Mp_s (S1_bits (M_code u ((M_pc u) / 4).toNatClampNeg) (25) (7)) (Mp_y (M_regs (Mp_x (M_regs (Mp_t (S1_bits (M_code u ((M_pc u) / 4).toNatClampNeg) (12) (3)) (Mp_d (S1_bits (M_code u ((M_pc u) / 4).toNatClampNeg) (7) (5)) u)) (S1_bits (M_code u ((M_pc u) / 4).toNatClampNeg) (15) (5)).toNatClampNeg) (Mp_t (S1_bits (M_code u ((M_pc u) / 4).toNatClampNeg) (12) (3)) (Mp_d (S1_bits (M_code u ((M_pc u) / 4).toNatClampNeg) (7) (5)) u))) (S1_bits (M_code u ((M_pc u) / 4).toNatClampNeg) (20) (5)).toNatClampNeg) (Mp_x (M_regs (Mp_t (S1_bits (M_code u ((M_pc u) / 4).toNatClampNeg) (12) (3)) (Mp_d (S1_bits (M_code u ((M_pc u) / 4).toNatClampNeg) (7) (5)) u)) (S1_bits (M_code u ((M_pc u) / 4).toNatClampNeg) (15) (5)).toNatClampNeg) (Mp_t (S1_bits (M_code u ((M_pc u) / 4).toNatClampNeg) (12) (3)) (Mp_d (S1_bits (M_code u ((M_pc u) / 4).toNatClampNeg) (7) (5)) u))))))).2) := by rw [S1_step, if_neg c1, if_pos c2, if_pos c3, if_neg c4, if_neg c5]
            exact W.iret (v := (S1_work (S1_bits (M_code u ((M_pc u) / 4).toNatClampNeg) (0) (7)) (M_code u ((M_pc u) / 4).toNatClampNeg) (Mp_im (S1_withSign (S1_bits (M_code u ((M_pc u) / 4).toNatClampNeg) (20) (12)) (12)) (Mp_s (S1_bits (M_code u ((M_pc u) / 4).toNatClampNeg) (25) (7)) (Mp_y (M_regs (Mp_x (M_regs (Mp_t (S1_bits (M_code u ((M_pc u) / 4).toNatClampNeg) (12) (3)) (Mp_d (S1_bits (M_code u ((M_pc u) / 4).toNatClampNeg) (7) (5)) u)) (S1_bits (M_code u ((M_pc u) / 4).toNatClampNeg) (15) (5)).toNatClampNeg) (Mp_t (S1_bits (M_code u ((M_pc u) / 4).toNatClampNeg) (12) (3)) (Mp_d (S1_bits (M_code u ((M_pc u) / 4).toNatClampNeg) (7) (5)) u))) (S1_bits (M_code u ((M_pc u) / 4).toNatClampNeg) (20) (5)).toNatClampNeg) (Mp_x (M_regs (Mp_t (S1_bits (M_code u ((M_pc u) / 4).toNatClampNeg) (12) (3)) (Mp_d (S1_bits (M_code u ((M_pc u) / 4).toNatClampNeg) (7) (5)) u)) (S1_bits (M_code u ((M_pc u) / 4).toNatClampNeg) (15) (5)).toNatClampNeg) (Mp_t (S1_bits (M_code u ((M_pc u) / 4).toNatClampNeg) (12) (3)) (Mp_d (S1_bits (M_code u ((M_pc u) / 4).toNatClampNeg) (7) (5)) u))))))).1) hx hb hr (fun t ht hW => ⟨⟨(S1_work (S1_bits (M_code u ((M_pc u) / 4).toNatClampNeg) (0) (7)) (M_code u ((M_pc u) / 4).toNatClampNeg) (Mp_im (S1_withSign (S1_bits (M_code u ((M_pc u) / 4).toNatClampNeg) (20) (12)) (12)) (Mp_s (S1_bits (M_code u ((M_pc u) / 4).toNatClampNeg) (25) (7)) (Mp_y (M_regs (Mp_x (M_regs (Mp_t (S1_bits (M_code u ((M_pc u) / 4).toNatClampNeg) (12) (3)) (Mp_d (S1_bits (M_code u ((M_pc u) / 4).toNatClampNeg) (7) (5)) u)) (S1_bits (M_code u ((M_pc u) / 4).toNatClampNeg) (15) (5)).toNatClampNeg) (Mp_t (S1_bits (M_code u ((M_pc u) / 4).toNatClampNeg) (12) (3)) (Mp_d (S1_bits (M_code u ((M_pc u) / 4).toNatClampNeg) (7) (5)) u))) (S1_bits (M_code u ((M_pc u) / 4).toNatClampNeg) (20) (5)).toNatClampNeg) (Mp_x (M_regs (Mp_t (S1_bits (M_code u ((M_pc u) / 4).toNatClampNeg) (12) (3)) (Mp_d (S1_bits (M_code u ((M_pc u) / 4).toNatClampNeg) (7) (5)) u)) (S1_bits (M_code u ((M_pc u) / 4).toNatClampNeg) (15) (5)).toNatClampNeg) (Mp_t (S1_bits (M_code u ((M_pc u) / 4).toNatClampNeg) (12) (3)) (Mp_d (S1_bits (M_code u ((M_pc u) / 4).toNatClampNeg) (7) (5)) u))))))).1, (), rfl, by rw [e9], by show va_P _ _ _ t.heap; rw [e9, ht]; exact hP⟩, hS.F ht⟩) hS.2.2 dX1_step_172
        · refine lv_aload_n hx hb dX1_step_49 rfl (lv_at hl 1 rfl) ?_
          refine lv_dup hx hb dX1_step_50 rfl ?_
          refine va_get (D := D) (ci := 1) (v := .int (M_st u)) (C := RX1) (T := TX1) (N := 12) hx hb hts iwX1_step hown hK hP 0 rfl rfl 3 (by decide) (hts (.fieldLink RX1 42 "WordMachineModel" "steps" "I") flX1_step_42) (fun _ h9 => h9) rfl dX1_step_51 ?_
          refine lv_iconst (v := 1) hx hb dX1_step_54 (by decide) ?_
          refine lv_iadd hx hb dX1_step_55 ?_
          refine va_put (D := D) (ci := 1) (v := .int ((M_st u) + 1)) (ty := .int) (C := RX1) (T := TX1) (N := 12) hx hb hts iwX1_step tyX1 tyX1_ok nmX1 hown hK hP (ap4_D hap) hS 0 rfl rfl 3 (by decide) (hts (.fieldLink RX1 42 "WordMachineModel" "steps" "I") flX1_step_42) (fun _ h9 => h9) rfl (by decide +kernel) rfl rfl (Nat.le_of_ble_eq_true rfl) dX1_step_56 (fun H locs hP _ hS => ?_)
          have hP : va_P D vwCl (ww1 cI cJ cB h q1 q2 q3 (Mp_st ((M_st u) + 1) u)) H := hP
          refine lv_aload_n hx hb dX1_step_59 rfl (lv_at hl 1 rfl) ?_
          refine lv_dup hx hb dX1_step_60 rfl ?_
          refine va_get (D := D) (ci := 1) (v := .int (M_pc (Mp_st ((M_st u) + 1) u))) (C := RX1) (T := TX1) (N := 12) hx hb hts iwX1_step hown hK hP 0 rfl rfl 2 (by decide) (hts (.fieldLink RX1 39 "WordMachineModel" "pc" "I") flX1_step_39) (fun _ h9 => h9) rfl dX1_step_61 ?_
          refine lv_iconst (v := 4) hx hb dX1_step_64 (by decide) ?_
          refine lv_iadd hx hb dX1_step_65 ?_
          refine va_put (D := D) (ci := 1) (v := .int ((M_pc (Mp_st ((M_st u) + 1) u)) + 4)) (ty := .int) (C := RX1) (T := TX1) (N := 12) hx hb hts iwX1_step tyX1 tyX1_ok nmX1 hown hK hP (ap4_D hap) hS 0 rfl rfl 2 (by decide) (hts (.fieldLink RX1 39 "WordMachineModel" "pc" "I") flX1_step_39) (fun _ h9 => h9) rfl (by decide +kernel) rfl rfl (Nat.le_of_ble_eq_true rfl) dX1_step_66 (fun H locs hP _ hS => ?_)
          have hP : va_P D vwCl (ww1 cI cJ cB h q1 q2 q3 (Mp_pc ((M_pc (Mp_st ((M_st u) + 1) u)) + 4) (Mp_st ((M_st u) + 1) u))) H := hP
          refine lv_iconst (v := 1) hx hb dX1_step_69 (by decide) ?_
          have e9 : S1_step u = ((1 : Int32), Mp_pc ((M_pc (Mp_st ((M_st u) + 1) u)) + 4) (Mp_st ((M_st u) + 1) u)) := by rw [S1_step, if_neg c1, if_pos c2, if_pos c3, if_pos c4]
          exact W.iret (v := (1 : Int32)) hx hb hr (fun t ht hW => ⟨⟨(1 : Int32), (), rfl, by rw [e9], by show va_P _ _ _ t.heap; rw [e9, ht]; exact hP⟩, hS.F ht⟩) hS.2.2 dX1_step_70
      · refine lv_iconst (v := 2) hx hb dX1_step_29 (by decide) ?_
        have e9 : S1_step u = ((2 : Int32), u) := by rw [S1_step, if_neg c1, if_pos c2, if_neg c3]
        exact W.iret (v := (2 : Int32)) hx hb hr (fun t ht hW => ⟨⟨(2 : Int32), (), rfl, by rw [e9], by show va_P _ _ _ t.heap; rw [e9, ht]; exact hP⟩, hS.F ht⟩) hS.2.2 dX1_step_30
theorem hdX1_run : yX1_run.cls = RX1 ∧ yX1_run.cls ≠ "java/lang/invoke/MethodHandle" ∧ yX1_run.cls ≠ "java/lang/invoke/VarHandle" ∧ (parseMethodDescriptor yX1_run.desc).map (fun d => d.parameters.length) = some 1 := by decide +kernel
set_option maxHeartbeats 4000000 in
set_option maxRecDepth 100000 in
theorem c1_run (l : Launch) {D : va_G} {cI cJ cB : ClassId} {h q1 q2 q3 : Nat} (hap : ap4 h q1 q2 q3) (na : Int32) (u : MS) (hw : M_wc u ≤ 1024) (hrg : RG u) : Ini l yX1_run wsX1_run 5 125 D (ty1 cI cJ cB) (wa0 h q1 q2 q3) [.ref h, .int na] (ww1 cI cJ cB h q1 q2 q3 u) (ww1 cI cJ cB h q1 q2 q3 (S1_run na u).2) (S1_run na u).1 := by
  refine Met.ofW (cc := cX1_run) (maxL := 4) (ret := (some .int)) (by decide) rfl ?_
  intro p e s m args below meth c s₁ B hml hv
  obtain ⟨rfl, hP, hK⟩ := hv
  have hx := B.exec
  have hb := B.bytes
  have hr := B.returns
  have hts := atoms_spec (ws := wsX1_run) B.pre
  have hown : s.vm.findClass RX1 = some m.cls := findClass_of_methodNamed B.named
  have hlocks := B.notSynchronized
  have hS : va_S (wa0 h q1 q2 q3) s.heap s.heap [] := va_S.rf
  have hl := lv_entry ([.ref h, .int na]) (n := 4) (Nat.le_of_ble_eq_true rfl)
  rw [lg_entry_eq]
  generalize (lg_sl ([.ref h, .int na]) ++ List.replicate (4 - (lg_sl ([.ref h, .int na])).length) Slot.unset).toArray = ls at hl ⊢
  have hl : lv_has ls 4 [(0, .ref h), (1, .int na)] := hl
  have J : ∀ (n9 j : Nat) (w : MS) (H : Heap) (locs : List Loc), va_P D vwCl (ww1 cI cJ cB h q1 q2 q3 w) H → va_S (wa0 h q1 q2 q3) s.heap H locs → ∀ ls : Array Slot, lv_has ls 4 [(2, .int (nI j)), (1, .int na), (0, .ref h)] → j + n9 = na.toNatClampNeg → ¬ na < 0 → S1_run na u = S1_loop n9 w → M_wc w ≤ 1024 → RG w → W p l e (headSpec wsX1_run ({ frames := 5, cells := 0, slots := 0, locals := 125 })).room s m ([.ref h, .int na] : List Value).toArray below meth c H locs 0 0 (MQ below (va_Qi (fun (r : Int32) (_ : Unit) => r = (S1_run na u).1) (fun _ t => va_P D vwCl (ww1 cI cJ cB h q1 q2 q3 (S1_run na u).2) t.heap) (wa0 h q1 q2 q3)) ([.ref h, .int na] : List Value).toArray s 0 0 (wa0 h q1 q2 q3)) (F0 m 15 ls []) := by
    intro n9
    induction n9 with
    | zero =>
      intro j w H locs hP hS ls hl hj h0 hs hww hrw
      refine lv_iload_n hx hb dX1_run_15 rfl (lv_at hl 0 rfl) ?_
      refine lv_iload_n hx hb dX1_run_16 rfl (lv_at hl 1 rfl) ?_
      refine lv_icmp_ge (tgt := 37) hx hb dX1_run_17 (by decide) (fun (c1 : na ≤ (nI j)) => ?_) (fun (c1 : ¬ na ≤ (nI j)) => ?_)
      · refine lv_iconst (v := 0) hx hb dX1_run_37 (by decide) ?_
        have e9 : S1_run na u = ((0 : Int32), w) := by rw [hs, S1_loop]
        exact W.iret (v := (0 : Int32)) hx hb hr (fun t ht hW => ⟨⟨(0 : Int32), (), rfl, by rw [e9], by show va_P _ _ _ t.heap; rw [e9, ht]; exact hP⟩, hS.F ht⟩) hS.2.2 dX1_run_38
      · exact absurd (rn_ge h0 hj) c1
    | succ n9 ih =>
      intro j w H locs hP hS ls hl hj h0 hs hww hrw
      refine lv_iload_n hx hb dX1_run_15 rfl (lv_at hl 0 rfl) ?_
      refine lv_iload_n hx hb dX1_run_16 rfl (lv_at hl 1 rfl) ?_
      refine lv_icmp_ge (tgt := 37) hx hb dX1_run_17 (by decide) (fun (c2 : na ≤ (nI j)) => ?_) (fun (c2 : ¬ na ≤ (nI j)) => ?_)
      · exact absurd c2 (rn_lt h0 (by omega))
      · refine lv_aload_n hx hb dX1_run_20 rfl (lv_at hl 2 rfl) ?_
        refine in_i (v := (S1_step w).1) (As := []) (rest := []) (w1 := ww1 cI cJ cB h q1 q2 q3 ((S1_step w).2)) ⟨hx, hb, hml, hown, hts⟩ (c1_step l hap  w hww hrw) gX1_run_X1_step rfl hdX1_step ⟨Nat.le_of_ble_eq_true rfl, Nat.le_of_ble_eq_true rfl⟩ hK rfl rfl hl.1 rfl (Nat.le_of_ble_eq_true rfl) dX1_run_21 ⟨Nat.zero_le _, Nat.zero_le _⟩ hP hS (fun _ h => h) (fun H locs hP hS _ _ => ?_)
        refine lv_istore_n (lv' := [(3, .int ((S1_step w).1)), (2, .int (nI j)), (1, .int na), (0, .ref h)]) hx hb dX1_run_24 rfl hl (by decide) rfl (fun ls hl => ?_)
        refine lv_iload_n hx hb dX1_run_25 rfl (lv_at hl 0 rfl) ?_
        refine lv_if_le (tgt := 31) hx hb dX1_run_26 (by decide) (fun (c3 : ((S1_step w).1) ≤ 0) => ?_) (fun (c3 : ¬ ((S1_step w).1) ≤ 0) => ?_)
        · refine lv_iinc (v := (nI j) + 1) (lv' := [(2, .int ((nI j) + 1)), (3, .int ((S1_step w).1)), (1, .int na), (0, .ref h)]) hx hb dX1_run_31 hl (k := 1) rfl (by rfl) (by decide) rfl (fun ls hl => ?_)
          refine lv_goto (tgt := 15) hx hb dX1_run_34 (by decide) ?_
          rw [nI_1] at hl
          exact ih (j + 1) _ H locs hP hS ls (lv_sub hl [0, 2, 3] rfl) (by omega) h0 (by rw [hs, S1_loop, if_pos c3]) (by rw [wc1_step]; exact hww) (rg1_step hrw)
        · refine lv_iload_n hx hb dX1_run_29 rfl (lv_at hl 0 rfl) ?_
          have e9 : S1_run na u = ((S1_step w).1, (S1_step w).2) := by rw [hs, S1_loop, if_neg c3]
          exact W.iret (v := (S1_step w).1) hx hb hr (fun t ht hW => ⟨⟨(S1_step w).1, (), rfl, by rw [e9], by show va_P _ _ _ t.heap; rw [e9, ht]; exact hP⟩, hS.F ht⟩) hS.2.2 dX1_run_30
  refine lv_iload_n hx hb dX1_run_0 rfl (lv_at hl 1 rfl) ?_
  refine lv_if_lt (tgt := 11) hx hb dX1_run_1 (by decide) (fun (c4 : na < 0) => ?_) (fun (c4 : ¬ na < 0) => ?_)
  · refine lv_iconst (v := (-1)) hx hb dX1_run_11 (by decide) ?_
    have e9 : S1_run na u = (((-1) : Int32), u) := by rw [S1_run, if_pos c4]
    exact W.iret (v := ((-1) : Int32)) hx hb hr (fun t ht hW => ⟨⟨((-1) : Int32), (), rfl, by rw [e9], by show va_P _ _ _ t.heap; rw [e9, ht]; exact hP⟩, hS.F ht⟩) hS.2.2 dX1_run_12
  · refine lv_iload_n hx hb dX1_run_4 rfl (lv_at hl 1 rfl) ?_
    refine lv_sipush (v := 1000) hx hb dX1_run_5 (by decide) ?_
    refine lv_icmp_le (tgt := 13) hx hb dX1_run_8 (by decide) (fun (c5 : na ≤ 1000) => ?_) (fun (c5 : ¬ na ≤ 1000) => ?_)
    · refine lv_iconst (v := 0) hx hb dX1_run_13 (by decide) ?_
      refine lv_istore_n (lv' := [(2, .int 0), (0, .ref h), (1, .int na)]) hx hb dX1_run_14 rfl hl (by decide) rfl (fun ls hl => ?_)
      exact J na.toNatClampNeg 0 u _ _ hP hS ls (lv_sub hl [0, 2, 1] rfl) (by omega) c4 (by rw [S1_run, if_neg c4, if_pos c5]) hw hrg
    · refine lv_iconst (v := (-1)) hx hb dX1_run_11 (by decide) ?_
      have e9 : S1_run na u = (((-1) : Int32), u) := by rw [S1_run, if_neg c4, if_neg c5]
      exact W.iret (v := ((-1) : Int32)) hx hb hr (fun t ht hW => ⟨⟨((-1) : Int32), (), rfl, by rw [e9], by show va_P _ _ _ t.heap; rw [e9, ht]; exact hP⟩, hS.F ht⟩) hS.2.2 dX1_run_12
