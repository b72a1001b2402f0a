theorem iwX0_word : ∀ w ∈ wsX00, w ∈ wsX0_word := by decide +kernel
theorem flX0_word_9 : Cond.fieldLink RX0 9 "WordMachine" "code" "[I" ∈ wsX0_word := by decide +kernel
theorem flX0_word_19 : Cond.fieldLink RX0 19 "WordMachine" "wordCount" "I" ∈ wsX0_word := by decide +kernel
theorem hdX0_word : yX0_word.cls = RX0 ∧ yX0_word.cls ≠ "java/lang/invoke/MethodHandle" ∧ yX0_word.cls ≠ "java/lang/invoke/VarHandle" ∧ (parseMethodDescriptor yX0_word.desc).map (fun d => d.parameters.length) = some 1 := by decide +kernel
set_option maxHeartbeats 4000000 in
set_option maxRecDepth 100000 in
theorem c0_word (l : Launch) {D : va_G} {cI : ClassId} {h q1 q2 q3 : Nat} (hap : ap4 h q1 q2 q3) (wa : Int32) (u : WS) (hw : 0 ≤ W_wc u) : Ini l yX0_word wsX0_word 0 0 D (ty0 cI) (wa0 h q1 q2 q3) [.ref h, .int wa] (ww0 cI h q1 q2 q3 u) (ww0 cI h q1 q2 q3 (S0_word wa u).2) (S0_word wa u).1 := by
  refine Met.ofW (cc := cX0_word) (maxL := 2) (ret := (some .int)) (by decide) rfl ?_
  intro p e s m args below meth c s₁ B hml hv
  obtain ⟨rfl, hP, hK⟩ := hv
  have hx := B.exec
  have hb := B.bytes
  have hr := B.returns
  have hts := atoms_spec (ws := wsX0_word) B.pre
  have hown : s.vm.findClass RX0 = some m.cls := findClass_of_methodNamed B.named
  have hlocks := B.notSynchronized
  have hS : va_S (wa0 h q1 q2 q3) s.heap s.heap [] := va_S.rf
  have hl := lv_entry ([.ref h, .int wa]) (n := 2) (Nat.le_of_ble_eq_true rfl)
  rw [lg_entry_eq]
  generalize (lg_sl ([.ref h, .int wa]) ++ List.replicate (2 - (lg_sl ([.ref h, .int wa])).length) Slot.unset).toArray = ls at hl ⊢
  have hl : lv_has ls 2 [(0, .ref h), (1, .int wa)] := hl
  refine lv_aload_n hx hb dX0_word_0 rfl (lv_at hl 0 rfl) ?_
  refine va_get (D := D) (ci := 0) (v := .int (W_wc u)) (C := RX0) (T := TX0) (N := 6) hx hb hts iwX0_word hown hK hP 0 rfl rfl 3 (by decide) (hts (.fieldLink RX0 19 "WordMachine" "wordCount" "I") flX0_word_19) (fun _ h9 => h9) rfl dX0_word_1 ?_
  refine lv_sipush (v := 1024) hx hb dX0_word_4 (by decide) ?_
  refine lv_icmp_lt (tgt := 12) hx hb dX0_word_7 (by decide) (fun (c1 : (W_wc u) < 1024) => ?_) (fun (c1 : ¬ (W_wc u) < 1024) => ?_)
  · refine lv_aload_n hx hb dX0_word_12 rfl (lv_at hl 0 rfl) ?_
    refine va_get (D := D) (ci := 0) (v := .ref q1) (C := RX0) (T := TX0) (N := 6) hx hb hts iwX0_word hown hK hP 0 rfl rfl 0 (by decide) (hts (.fieldLink RX0 9 "WordMachine" "code" "[I") flX0_word_9) (fun _ h9 => h9) rfl dX0_word_13 ?_
    refine lv_aload_n hx hb dX0_word_16 rfl (lv_at hl 0 rfl) ?_
    refine va_get (D := D) (ci := 0) (v := .int (W_wc u)) (C := RX0) (T := TX0) (N := 6) hx hb hts iwX0_word hown hK hP 0 rfl rfl 3 (by decide) (hts (.fieldLink RX0 19 "WordMachine" "wordCount" "I") flX0_word_19) (fun _ h9 => h9) rfl dX0_word_17 ?_
    refine lv_iload_n hx hb dX0_word_20 rfl (lv_at hl 1 rfl) ?_
    refine va_iast hx hb hK hP (ap4_D hap) hS 1 0 rfl rfl (ix_word hw c1) dX0_word_21 (fun H locs hP _ hS => ?_)
    have hP : va_P D vwCl (ww0 cI h q1 q2 q3 (Wp_code (upd (W_code u) (W_wc u).toNatClampNeg wa) u)) H := hP
    refine lv_aload_n hx hb dX0_word_22 rfl (lv_at hl 0 rfl) ?_
    refine lv_dup hx hb dX0_word_23 rfl ?_
    refine va_get (D := D) (ci := 0) (v := .int (W_wc (Wp_code (upd (W_code u) (W_wc u).toNatClampNeg wa) u))) (C := RX0) (T := TX0) (N := 6) hx hb hts iwX0_word hown hK hP 0 rfl rfl 3 (by decide) (hts (.fieldLink RX0 19 "WordMachine" "wordCount" "I") flX0_word_19) (fun _ h9 => h9) rfl dX0_word_24 ?_
    refine lv_iconst (v := 1) hx hb dX0_word_27 (by decide) ?_
    refine lv_iadd hx hb dX0_word_28 ?_
    refine va_put (D := D) (ci := 0) (v := .int ((W_wc (Wp_code (upd (W_code u) (W_wc u).toNatClampNeg wa) u)) + 1)) (ty := .int) (C := RX0) (T := TX0) (N := 6) hx hb hts iwX0_word tyX0 tyX0_ok nmX0 hown hK hP (ap4_D hap) hS 0 rfl rfl 3 (by decide) (hts (.fieldLink RX0 19 "WordMachine" "wordCount" "I") flX0_word_19) (fun _ h9 => h9) rfl (by decide +kernel) rfl rfl (Nat.le_of_ble_eq_true rfl) dX0_word_29 (fun H locs hP _ hS => ?_)
    have hP : va_P D vwCl (ww0 cI h q1 q2 q3 (Wp_wc ((W_wc (Wp_code (upd (W_code u) (W_wc u).toNatClampNeg wa) u)) + 1) (Wp_code (upd (W_code u) (W_wc u).toNatClampNeg wa) u))) H := hP
    refine lv_aload_n hx hb dX0_word_32 rfl (lv_at hl 0 rfl) ?_
    refine va_get (D := D) (ci := 0) (v := .int (W_wc (Wp_wc ((W_wc (Wp_code (upd (W_code u) (W_wc u).toNatClampNeg wa) u)) + 1) (Wp_code (upd (W_code u) (W_wc u).toNatClampNeg wa) u)))) (C := RX0) (T := TX0) (N := 6) hx hb hts iwX0_word hown hK hP 0 rfl rfl 3 (by decide) (hts (.fieldLink RX0 19 "WordMachine" "wordCount" "I") flX0_word_19) (fun _ h9 => h9) rfl dX0_word_33 ?_
    have e9 : S0_word wa u = (W_wc (Wp_wc ((W_wc (Wp_code (upd (W_code u) (W_wc u).toNatClampNeg wa) u)) + 1) (Wp_code (upd (W_code u) (W_wc u).toNatClampNeg wa) u)), Wp_wc ((W_wc (Wp_code (upd (W_code u) (W_wc u).toNatClampNeg wa) u)) + 1) (Wp_code (upd (W_code u) (W_wc u).toNatClampNeg wa) u)) := by rw [S0_word, if_pos c1]
    exact W.iret (v := W_wc (Wp_wc ((W_wc (Wp_code (upd (W_code u) (W_wc u).toNatClampNeg wa) u)) + 1) (Wp_code (upd (W_code u) (W_wc u).toNatClampNeg wa) u))) hx hb hr (fun t ht hW => ⟨⟨W_wc (Wp_wc ((W_wc (Wp_code (upd (W_code u) (W_wc u).toNatClampNeg wa) u)) + 1) (Wp_code (upd (W_code u) (W_wc u).toNatClampNeg wa) u)), (), rfl, by rw [e9], by show va_P _ _ _ t.heap; rw [e9, ht]; exact hP⟩, hS.F ht⟩) hS.2.2 dX0_word_36
  · refine lv_iconst (v := (-1)) hx hb dX0_word_10 (by decide) ?_
    have e9 : S0_word wa u = (((-1) : Int32), u) := by rw [S0_word, if_neg c1]
    exact W.iret (v := ((-1) : Int32)) hx hb hr (fun t ht hW => ⟨⟨((-1) : Int32), (), rfl, by rw [e9], by show va_P _ _ _ t.heap; rw [e9, ht]; exact hP⟩, hS.F ht⟩) hS.2.2 dX0_word_11
theorem hdX0_put : yX0_put.cls = RX0 ∧ yX0_put.cls ≠ "java/lang/invoke/MethodHandle" ∧ yX0_put.cls ≠ "java/lang/invoke/VarHandle" ∧ (parseMethodDescriptor yX0_put.desc).map (fun d => d.parameters.length) = some 2 := by decide +kernel
set_option maxHeartbeats 4000000 in
set_option maxRecDepth 100000 in
theorem c0_put (l : Launch) {D : va_G} {cI : ClassId} {h q1 q2 q3 : Nat} (hap : ap4 h q1 q2 q3) (ra : Int32) (va : Int32) (u : WS)  : Ini l yX0_put wsX0_put 1 22 D (ty0 cI) (wa0 h q1 q2 q3) [.ref h, .int ra, .int va] (ww0 cI h q1 q2 q3 u) (ww0 cI h q1 q2 q3 (S0_put ra va u).2) (S0_put ra va u).1 := by
  refine Met.ofW (cc := cX0_put) (maxL := 3) (ret := (some .boolean)) (by decide) rfl ?_
  intro p e s m args below meth c s₁ B hml hv
  obtain ⟨rfl, hP, hK⟩ := hv
  have hx := B.exec
  have hb := B.bytes
  have hr := B.returns
  have hts := atoms_spec (ws := wsX0_put) B.pre
  have hown : s.vm.findClass RX0 = some m.cls := findClass_of_methodNamed B.named
  have hlocks := B.notSynchronized
  have hS : va_S (wa0 h q1 q2 q3) s.heap s.heap [] := va_S.rf
  have hl := lv_entry ([.ref h, .int ra, .int va]) (n := 3) (Nat.le_of_ble_eq_true rfl)
  rw [lg_entry_eq]
  generalize (lg_sl ([.ref h, .int ra, .int va]) ++ List.replicate (3 - (lg_sl ([.ref h, .int ra, .int va])).length) Slot.unset).toArray = ls at hl ⊢
  have hl : lv_has ls 3 [(0, .ref h), (1, .int ra), (2, .int va)] := hl
  refine lv_iload_n hx hb dX0_put_0 rfl (lv_at hl 1 rfl) ?_
  refine pu_i (v := S0_isRegister ra) (As := [.int ra]) (rest := []) ⟨hx, hb, hml, hown, hts⟩ (c0_isRegister l ra ) gX0_put_X0_isRegister rfl hdX0_isRegister ⟨Nat.le_of_ble_eq_true rfl, Nat.le_of_ble_eq_true rfl⟩ hl.1 rfl (Nat.le_of_ble_eq_true rfl) dX0_put_1 ⟨Nat.zero_le _, Nat.zero_le _⟩ hP hS (fun H locs hP hS => ?_)
  refine lv_if_ne (tgt := 9) hx hb dX0_put_4 (by decide) (fun (c1 : ¬ (S0_isRegister ra) = 0) => ?_) (fun (c1 : (S0_isRegister ra) = 0) => ?_)
  · refine lv_aload_n hx hb dX0_put_9 rfl (lv_at hl 0 rfl) ?_
    refine lv_iload_n hx hb dX0_put_10 rfl (lv_at hl 1 rfl) ?_
    refine lv_iload_n hx hb dX0_put_11 rfl (lv_at hl 2 rfl) ?_
    refine in_v (As := [.int ra, .int va]) (rest := []) (w1 := ww0 cI h q1 q2 q3 (S0_setRegister ra va u)) ⟨hx, hb, hml, hown, hts⟩ (c0_setRegister l hap ra va u ) gX0_put_X0_setRegister rfl hdX0_setRegister ⟨Nat.le_of_ble_eq_true rfl, Nat.le_of_ble_eq_true rfl⟩ hK rfl rfl hl.1 rfl (Nat.le_of_ble_eq_true rfl) dX0_put_12 ⟨Nat.zero_le _, Nat.zero_le _⟩ hP hS (fun _ h => h) (fun H locs hP hS _ _ => ?_)
    refine lv_iconst (v := 1) hx hb dX0_put_15 (by decide) ?_
    have e9 : S0_put ra va u = ((1 : Int32), S0_setRegister ra va u) := by rw [S0_put, if_neg c1]
    exact W.zret (v := (1 : Int32)) hx hb hr rfl (fun t ht hW => ⟨⟨(1 : Int32), (), rfl, by rw [e9], by show va_P _ _ _ t.heap; rw [e9, ht]; exact hP⟩, hS.F ht⟩) hS.2.2 dX0_put_16
  · refine lv_iconst (v := 0) hx hb dX0_put_7 (by decide) ?_
    have e9 : S0_put ra va u = ((0 : Int32), u) := by rw [S0_put, if_pos c1]
    exact W.zret (v := (0 : Int32)) hx hb hr rfl (fun t ht hW => ⟨⟨(0 : Int32), (), rfl, by rw [e9], by show va_P _ _ _ t.heap; rw [e9, ht]; exact hP⟩, hS.F ht⟩) hS.2.2 dX0_put_8
theorem iwX0_get : ∀ w ∈ wsX00, w ∈ wsX0_get := by decide +kernel
theorem flX0_get_13 : Cond.fieldLink RX0 13 "WordMachine" "registers" "[I" ∈ wsX0_get := by decide +kernel
theorem hdX0_get : yX0_get.cls = RX0 ∧ yX0_get.cls ≠ "java/lang/invoke/MethodHandle" ∧ yX0_get.cls ≠ "java/lang/invoke/VarHandle" ∧ (parseMethodDescriptor yX0_get.desc).map (fun d => d.parameters.length) = some 1 := by decide +kernel
set_option maxHeartbeats 4000000 in
set_option maxRecDepth 100000 in
theorem c0_get (l : Launch) {D : va_G} {cI : ClassId} {h q1 q2 q3 : Nat} (hap : ap4 h q1 q2 q3) (ra : Int32) (u : WS)  : Ini l yX0_get wsX0_get 1 20 D (ty0 cI) (wa0 h q1 q2 q3) [.ref h, .int ra] (ww0 cI h q1 q2 q3 u) (ww0 cI h q1 q2 q3 u) (S0_get ra u) := by
  refine Met.ofW (cc := cX0_get) (maxL := 2) (ret := (some .int)) (by decide) rfl ?_
  intro p e s m args below meth c s₁ B hml hv
  obtain ⟨rfl, hP, hK⟩ := hv
  have hx := B.exec
  have hb := B.bytes
  have hr := B.returns
  have hts := atoms_spec (ws := wsX0_get) B.pre
  have hown : s.vm.findClass RX0 = some m.cls := findClass_of_methodNamed B.named
  have hlocks := B.notSynchronized
  have hS : va_S (wa0 h q1 q2 q3) s.heap s.heap [] := va_S.rf
  have hl := lv_entry ([.ref h, .int ra]) (n := 2) (Nat.le_of_ble_eq_true rfl)
  rw [lg_entry_eq]
  generalize (lg_sl ([.ref h, .int ra]) ++ List.replicate (2 - (lg_sl ([.ref h, .int ra])).length) Slot.unset).toArray = ls at hl ⊢
  have hl : lv_has ls 2 [(0, .ref h), (1, .int ra)] := hl
  refine lv_iload_n hx hb dX0_get_0 rfl (lv_at hl 1 rfl) ?_
  refine pu_i (v := S0_isRegister ra) (As := [.int ra]) (rest := []) ⟨hx, hb, hml, hown, hts⟩ (c0_isRegister l ra ) gX0_get_X0_isRegister rfl hdX0_isRegister ⟨Nat.le_of_ble_eq_true rfl, Nat.le_of_ble_eq_true rfl⟩ hl.1 rfl (Nat.le_of_ble_eq_true rfl) dX0_get_1 ⟨Nat.zero_le _, Nat.zero_le _⟩ hP hS (fun H locs hP hS => ?_)
  refine lv_if_eq (tgt := 16) hx hb dX0_get_4 (by decide) (fun (c1 : (S0_isRegister ra) = 0) => ?_) (fun (c1 : ¬ (S0_isRegister ra) = 0) => ?_)
  · refine lv_iconst (v := 0) hx hb dX0_get_16 (by decide) ?_
    have e9 : S0_get ra u = (0 : Int32) := by rw [S0_get, if_pos c1]
    exact W.iret (v := (0 : Int32)) hx hb hr (fun t ht hW => ⟨⟨(0 : Int32), (), rfl, e9.symm, (by show va_P _ _ _ t.heap; rw [ht]; exact hP)⟩, hS.F ht⟩) hS.2.2 dX0_get_17
  · refine lv_aload_n hx hb dX0_get_7 rfl (lv_at hl 0 rfl) ?_
    refine va_get (D := D) (ci := 0) (v := .ref q2) (C := RX0) (T := TX0) (N := 6) hx hb hts iwX0_get hown hK hP 0 rfl rfl 1 (by decide) (hts (.fieldLink RX0 13 "WordMachine" "registers" "[I") flX0_get_13) (fun _ h9 => h9) rfl dX0_get_8 ?_
    refine lv_iload_n hx hb dX0_get_11 rfl (lv_at hl 1 rfl) ?_
    refine va_iald hx hb hK hP 2 0 rfl rfl (ix_isreg c1) dX0_get_12 ?_
    refine lv_goto (tgt := 17) hx hb dX0_get_13 (by decide) ?_
    have e9 : S0_get ra u = W_regs u ra.toNatClampNeg := by rw [S0_get, if_neg c1]
    exact W.iret (v := W_regs u ra.toNatClampNeg) hx hb hr (fun t ht hW => ⟨⟨W_regs u ra.toNatClampNeg, (), rfl, e9.symm, (by show va_P _ _ _ t.heap; rw [ht]; exact hP)⟩, hS.F ht⟩) hS.2.2 dX0_get_17
theorem hdX0_poke : yX0_poke.cls = RX0 ∧ yX0_poke.cls ≠ "java/lang/invoke/MethodHandle" ∧ yX0_poke.cls ≠ "java/lang/invoke/VarHandle" ∧ (parseMethodDescriptor yX0_poke.desc).map (fun d => d.parameters.length) = some 2 := by decide +kernel
set_option maxHeartbeats 4000000 in
set_option maxRecDepth 100000 in
theorem c0_poke (l : Launch) {D : va_G} {cI : ClassId} {h q1 q2 q3 : Nat} (hap : ap4 h q1 q2 q3) (aa : Int32) (va : Int32) (u : WS)  : Ini l yX0_poke wsX0_poke 2 44 D (ty0 cI) (wa0 h q1 q2 q3) [.ref h, .int aa, .int va] (ww0 cI h q1 q2 q3 u) (ww0 cI h q1 q2 q3 (S0_poke aa va u).2) (S0_poke aa va u).1 := by
  refine Met.ofW (cc := cX0_poke) (maxL := 3) (ret := (some .boolean)) (by decide) rfl ?_
  intro p e s m args below meth c s₁ B hml hv
  obtain ⟨rfl, hP, hK⟩ := hv
  have hx := B.exec
  have hb := B.bytes
  have hr := B.returns
  have hts := atoms_spec (ws := wsX0_poke) B.pre
  have hown : s.vm.findClass RX0 = some m.cls := findClass_of_methodNamed B.named
  have hlocks := B.notSynchronized
  have hS : va_S (wa0 h q1 q2 q3) s.heap s.heap [] := va_S.rf
  have hl := lv_entry ([.ref h, .int aa, .int va]) (n := 3) (Nat.le_of_ble_eq_true rfl)
  rw [lg_entry_eq]
  generalize (lg_sl ([.ref h, .int aa, .int va]) ++ List.replicate (3 - (lg_sl ([.ref h, .int aa, .int va])).length) Slot.unset).toArray = ls at hl ⊢
  have hl : lv_has ls 3 [(0, .ref h), (1, .int aa), (2, .int va)] := hl
  refine lv_iload_n hx hb dX0_poke_0 rfl (lv_at hl 1 rfl) ?_
  refine lv_iconst (v := 1) hx hb dX0_poke_1 (by decide) ?_
  refine pu_i (v := S0_isAddress aa (1)) (As := [.int aa, .int 1]) (rest := []) ⟨hx, hb, hml, hown, hts⟩ (c0_isAddress l aa (1) ) gX0_poke_X0_isAddress rfl hdX0_isAddress ⟨Nat.le_of_ble_eq_true rfl, Nat.le_of_ble_eq_true rfl⟩ hl.1 rfl (Nat.le_of_ble_eq_true rfl) dX0_poke_2 ⟨Nat.zero_le _, Nat.zero_le _⟩ hP hS (fun H locs hP hS => ?_)
  refine lv_if_ne (tgt := 10) hx hb dX0_poke_5 (by decide) (fun (c1 : ¬ (S0_isAddress aa (1)) = 0) => ?_) (fun (c1 : (S0_isAddress aa (1)) = 0) => ?_)
  · refine lv_aload_n hx hb dX0_poke_10 rfl (lv_at hl 0 rfl) ?_
    refine lv_iload_n hx hb dX0_poke_11 rfl (lv_at hl 1 rfl) ?_
    refine lv_sipush (v := 255) hx hb dX0_poke_12 (by decide) ?_
    refine lv_iload_n hx hb dX0_poke_15 rfl (lv_at hl 2 rfl) ?_
    refine in_v (As := [.int aa, .int 255, .int va]) (rest := []) (w1 := ww0 cI h q1 q2 q3 (S0_replaceBits aa (255) va u)) ⟨hx, hb, hml, hown, hts⟩ (c0_replaceBits l hap aa (255) va u (ix_addr1 c1)) gX0_poke_X0_replaceBits rfl hdX0_replaceBits ⟨Nat.le_of_ble_eq_true rfl, Nat.le_of_ble_eq_true rfl⟩ hK rfl rfl hl.1 rfl (Nat.le_of_ble_eq_true rfl) dX0_poke_16 ⟨Nat.zero_le _, Nat.zero_le _⟩ hP hS (fun _ h => h) (fun H locs hP hS _ _ => ?_)
    refine lv_iconst (v := 1) hx hb dX0_poke_19 (by decide) ?_
    have e9 : S0_poke aa va u = ((1 : Int32), S0_replaceBits aa (255) va u) := by rw [S0_poke, if_neg c1]
    exact W.zret (v := (1 : Int32)) hx hb hr rfl (fun t ht hW => ⟨⟨(1 : Int32), (), rfl, by rw [e9], by show va_P _ _ _ t.heap; rw [e9, ht]; exact hP⟩, hS.F ht⟩) hS.2.2 dX0_poke_20
  · refine lv_iconst (v := 0) hx hb dX0_poke_8 (by decide) ?_
    have e9 : S0_poke aa va u = ((0 : Int32), u) := by rw [S0_poke, if_pos c1]
    exact W.zret (v := (0 : Int32)) hx hb hr rfl (fun t ht hW => ⟨⟨(0 : Int32), (), rfl, by rw [e9], by show va_P _ _ _ t.heap; rw [e9, ht]; exact hP⟩, hS.F ht⟩) hS.2.2 dX0_poke_9
theorem hdX0_peek : yX0_peek.cls = RX0 ∧ yX0_peek.cls ≠ "java/lang/invoke/MethodHandle" ∧ yX0_peek.cls ≠ "java/lang/invoke/VarHandle" ∧ (parseMethodDescriptor yX0_peek.desc).map (fun d => d.parameters.length) = some 1 := by decide +kernel
set_option maxHeartbeats 4000000 in
set_option maxRecDepth 100000 in
theorem c0_peek (l : Launch) {D : va_G} {cI : ClassId} {h q1 q2 q3 : Nat} (hap : ap4 h q1 q2 q3) (aa : Int32) (u : WS)  : Ini l yX0_peek wsX0_peek 2 42 D (ty0 cI) (wa0 h q1 q2 q3) [.ref h, .int aa] (ww0 cI h q1 q2 q3 u) (ww0 cI h q1 q2 q3 u) (S0_peek aa u) := by
  refine Met.ofW (cc := cX0_peek) (maxL := 2) (ret := (some .int)) (by decide) rfl ?_
  intro p e s m args below meth c s₁ B hml hv
  obtain ⟨rfl, hP, hK⟩ := hv
  have hx := B.exec
  have hb := B.bytes
  have hr := B.returns
  have hts := atoms_spec (ws := wsX0_peek) B.pre
  have hown : s.vm.findClass RX0 = some m.cls := findClass_of_methodNamed B.named
  have hlocks := B.notSynchronized
  have hS : va_S (wa0 h q1 q2 q3) s.heap s.heap [] := va_S.rf
  have hl := lv_entry ([.ref h, .int aa]) (n := 2) (Nat.le_of_ble_eq_true rfl)
  rw [lg_entry_eq]
  generalize (lg_sl ([.ref h, .int aa]) ++ List.replicate (2 - (lg_sl ([.ref h, .int aa])).length) Slot.unset).toArray = ls at hl ⊢
  have hl : lv_has ls 2 [(0, .ref h), (1, .int aa)] := hl
  refine lv_iload_n hx hb dX0_peek_0 rfl (lv_at hl 1 rfl) ?_
  refine lv_iconst (v := 1) hx hb dX0_peek_1 (by decide) ?_
  refine pu_i (v := S0_isAddress aa (1)) (As := [.int aa, .int 1]) (rest := []) ⟨hx, hb, hml, hown, hts⟩ (c0_isAddress l aa (1) ) gX0_peek_X0_isAddress rfl hdX0_isAddress ⟨Nat.le_of_ble_eq_true rfl, Nat.le_of_ble_eq_true rfl⟩ hl.1 rfl (Nat.le_of_ble_eq_true rfl) dX0_peek_2 ⟨Nat.zero_le _, Nat.zero_le _⟩ hP hS (fun H locs hP hS => ?_)
  refine lv_if_eq (tgt := 20) hx hb dX0_peek_5 (by decide) (fun (c1 : (S0_isAddress aa (1)) = 0) => ?_) (fun (c1 : ¬ (S0_isAddress aa (1)) = 0) => ?_)
  · refine lv_iconst (v := (-1)) hx hb dX0_peek_20 (by decide) ?_
    have e9 : S0_peek aa u = ((-1) : Int32) := by rw [S0_peek, if_pos c1]
    exact W.iret (v := ((-1) : Int32)) hx hb hr (fun t ht hW => ⟨⟨((-1) : Int32), (), rfl, e9.symm, (by show va_P _ _ _ t.heap; rw [ht]; exact hP)⟩, hS.F ht⟩) hS.2.2 dX0_peek_21
  · refine lv_aload_n hx hb dX0_peek_8 rfl (lv_at hl 0 rfl) ?_
    refine lv_iload_n hx hb dX0_peek_9 rfl (lv_at hl 1 rfl) ?_
    refine in_i (v := S0_bitsFrom aa u) (As := [.int aa]) (rest := []) (w1 := ww0 cI h q1 q2 q3 u) ⟨hx, hb, hml, hown, hts⟩ (c0_bitsFrom l hap aa u (ix_addr1 c1)) gX0_peek_X0_bitsFrom rfl hdX0_bitsFrom ⟨Nat.le_of_ble_eq_true rfl, Nat.le_of_ble_eq_true rfl⟩ hK rfl rfl hl.1 rfl (Nat.le_of_ble_eq_true rfl) dX0_peek_10 ⟨Nat.zero_le _, Nat.zero_le _⟩ hP hS (fun _ h => h) (fun H locs hP hS _ _ => ?_)
    refine lv_sipush (v := 255) hx hb dX0_peek_13 (by decide) ?_
    refine lv_iand hx hb dX0_peek_16 ?_
    refine lv_goto (tgt := 21) hx hb dX0_peek_17 (by decide) ?_
    have e9 : S0_peek aa u = (S0_bitsFrom aa u) &&& 255 := by rw [S0_peek, if_neg c1]
    exact W.iret (v := (S0_bitsFrom aa u) &&& 255) hx hb hr (fun t ht hW => ⟨⟨(S0_bitsFrom aa u) &&& 255, (), rfl, e9.symm, (by show va_P _ _ _ t.heap; rw [ht]; exact hP)⟩, hS.F ht⟩) hS.2.2 dX0_peek_21
theorem iwX0_go : ∀ w ∈ wsX00, w ∈ wsX0_go := by decide +kernel
theorem flX0_go_23 : Cond.fieldLink RX0 23 "WordMachine" "pc" "I" ∈ wsX0_go := by decide +kernel
theorem hdX0_go : yX0_go.cls = RX0 ∧ yX0_go.cls ≠ "java/lang/invoke/MethodHandle" ∧ yX0_go.cls ≠ "java/lang/invoke/VarHandle" ∧ (parseMethodDescriptor yX0_go.desc).map (fun d => d.parameters.length) = some 1 := by decide +kernel
set_option maxHeartbeats 4000000 in
set_option maxRecDepth 100000 in
theorem c0_go (l : Launch) {D : va_G} {cI : ClassId} {h q1 q2 q3 : Nat} (hap : ap4 h q1 q2 q3) (aa : Int32) (u : WS)  : Ini l yX0_go wsX0_go 1 21 D (ty0 cI) (wa0 h q1 q2 q3) [.ref h, .int aa] (ww0 cI h q1 q2 q3 u) (ww0 cI h q1 q2 q3 (S0_go aa u).2) (S0_go aa u).1 := by
  refine Met.ofW (cc := cX0_go) (maxL := 2) (ret := (some .boolean)) (by decide) rfl ?_
  intro p e s m args below meth c s₁ B hml hv
  obtain ⟨rfl, hP, hK⟩ := hv
  have hx := B.exec
  have hb := B.bytes
  have hr := B.returns
  have hts := atoms_spec (ws := wsX0_go) B.pre
  have hown : s.vm.findClass RX0 = some m.cls := findClass_of_methodNamed B.named
  have hlocks := B.notSynchronized
  have hS : va_S (wa0 h q1 q2 q3) s.heap s.heap [] := va_S.rf
  have hl := lv_entry ([.ref h, .int aa]) (n := 2) (Nat.le_of_ble_eq_true rfl)
  rw [lg_entry_eq]
  generalize (lg_sl ([.ref h, .int aa]) ++ List.replicate (2 - (lg_sl ([.ref h, .int aa])).length) Slot.unset).toArray = ls at hl ⊢
  have hl : lv_has ls 2 [(0, .ref h), (1, .int aa)] := hl
  refine lv_iload_n hx hb dX0_go_0 rfl (lv_at hl 1 rfl) ?_
  refine lv_iconst (v := 4) hx hb dX0_go_1 (by decide) ?_
  refine pu_i (v := S0_isMultiple aa (4)) (As := [.int aa, .int 4]) (rest := []) ⟨hx, hb, hml, hown, hts⟩ (c0_isMultiple l aa (4) ) gX0_go_X0_isMultiple rfl hdX0_isMultiple ⟨Nat.le_of_ble_eq_true rfl, Nat.le_of_ble_eq_true rfl⟩ hl.1 rfl (Nat.le_of_ble_eq_true rfl) dX0_go_2 ⟨Nat.zero_le _, Nat.zero_le _⟩ hP hS (fun H locs hP hS => ?_)
  refine lv_if_ne (tgt := 10) hx hb dX0_go_5 (by decide) (fun (c1 : ¬ (S0_isMultiple aa (4)) = 0) => ?_) (fun (c1 : (S0_isMultiple aa (4)) = 0) => ?_)
  · refine lv_aload_n hx hb dX0_go_10 rfl (lv_at hl 0 rfl) ?_
    refine lv_iload_n hx hb dX0_go_11 rfl (lv_at hl 1 rfl) ?_
    refine va_put (D := D) (ci := 0) (v := .int aa) (ty := .int) (C := RX0) (T := TX0) (N := 6) hx hb hts iwX0_go tyX0 tyX0_ok nmX0 hown hK hP (ap4_D hap) hS 0 rfl rfl 4 (by decide) (hts (.fieldLink RX0 23 "WordMachine" "pc" "I") flX0_go_23) (fun _ h9 => h9) rfl (by decide +kernel) rfl rfl (Nat.le_of_ble_eq_true rfl) dX0_go_12 (fun H locs hP _ hS => ?_)
    have hP : va_P D vwCl (ww0 cI h q1 q2 q3 (Wp_pc aa u)) H := hP
    refine lv_iconst (v := 1) hx hb dX0_go_15 (by decide) ?_
    have e9 : S0_go aa u = ((1 : Int32), Wp_pc aa u) := by rw [S0_go, if_neg c1]
    exact W.zret (v := (1 : Int32)) hx hb hr rfl (fun t ht hW => ⟨⟨(1 : Int32), (), rfl, by rw [e9], by show va_P _ _ _ t.heap; rw [e9, ht]; exact hP⟩, hS.F ht⟩) hS.2.2 dX0_go_16
  · refine lv_iconst (v := 0) hx hb dX0_go_8 (by decide) ?_
    have e9 : S0_go aa u = ((0 : Int32), u) := by rw [S0_go, if_pos c1]
    exact W.zret (v := (0 : Int32)) hx hb hr rfl (fun t ht hW => ⟨⟨(0 : Int32), (), rfl, by rw [e9], by show va_P _ _ _ t.heap; rw [e9, ht]; exact hP⟩, hS.F ht⟩) hS.2.2 dX0_go_9
theorem iwX0_pc : ∀ w ∈ wsX00, w ∈ wsX0_pc := by decide +kernel
theorem flX0_pc_23 : Cond.fieldLink RX0 23 "WordMachine" "pc" "I" ∈ wsX0_pc := by decide +kernel
theorem hdX0_pc : yX0_pc.cls = RX0 ∧ yX0_pc.cls ≠ "java/lang/invoke/MethodHandle" ∧ yX0_pc.cls ≠ "java/lang/invoke/VarHandle" ∧ (parseMethodDescriptor yX0_pc.desc).map (fun d => d.parameters.length) = some 0 := by decide +kernel
set_option maxHeartbeats 4000000 in
set_option maxRecDepth 100000 in
theorem c0_pc (l : Launch) {D : va_G} {cI : ClassId} {h q1 q2 q3 : Nat} (hap : ap4 h q1 q2 q3)  (u : WS)  : Ini l yX0_pc wsX0_pc 0 0 D (ty0 cI) (wa0 h q1 q2 q3) [.ref h] (ww0 cI h q1 q2 q3 u) (ww0 cI h q1 q2 q3 u) (S0_pc u) := by
  refine Met.ofW (cc := cX0_pc) (maxL := 1) (ret := (some .int)) (by decide) rfl ?_
  intro p e s m args below meth c s₁ B hml hv
  obtain ⟨rfl, hP, hK⟩ := hv
  have hx := B.exec
  have hb := B.bytes
  have hr := B.returns
  have hts := atoms_spec (ws := wsX0_pc) B.pre
  have hown : s.vm.findClass RX0 = some m.cls := findClass_of_methodNamed B.named
  have hlocks := B.notSynchronized
  have hS : va_S (wa0 h q1 q2 q3) s.heap s.heap [] := va_S.rf
  have hl := lv_entry ([.ref h]) (n := 1) (Nat.le_of_ble_eq_true rfl)
  rw [lg_entry_eq]
  generalize (lg_sl ([.ref h]) ++ List.replicate (1 - (lg_sl ([.ref h])).length) Slot.unset).toArray = ls at hl ⊢
  have hl : lv_has ls 1 [(0, .ref h)] := hl
  refine lv_aload_n hx hb dX0_pc_0 rfl (lv_at hl 0 rfl) ?_
  refine va_get (D := D) (ci := 0) (v := .int (W_pc u)) (C := RX0) (T := TX0) (N := 6) hx hb hts iwX0_pc hown hK hP 0 rfl rfl 4 (by decide) (hts (.fieldLink RX0 23 "WordMachine" "pc" "I") flX0_pc_23) (fun _ h9 => h9) rfl dX0_pc_1 ?_
  have e9 : S0_pc u = W_pc u := by rw [S0_pc]
  exact W.iret (v := W_pc u) hx hb hr (fun t ht hW => ⟨⟨W_pc u, (), rfl, e9.symm, (by show va_P _ _ _ t.heap; rw [ht]; exact hP)⟩, hS.F ht⟩) hS.2.2 dX0_pc_4
theorem iwX0_steps : ∀ w ∈ wsX00, w ∈ wsX0_steps := by decide +kernel
theorem flX0_steps_26 : Cond.fieldLink RX0 26 "WordMachine" "stepsDone" "I" ∈ wsX0_steps := by decide +kernel
theorem hdX0_steps : yX0_steps.cls = RX0 ∧ yX0_steps.cls ≠ "java/lang/invoke/MethodHandle" ∧ yX0_steps.cls ≠ "java/lang/invoke/VarHandle" ∧ (parseMethodDescriptor yX0_steps.desc).map (fun d => d.parameters.length) = some 0 := by decide +kernel
set_option maxHeartbeats 4000000 in
set_option maxRecDepth 100000 in
theorem c0_steps (l : Launch) {D : va_G} {cI : ClassId} {h q1 q2 q3 : Nat} (hap : ap4 h q1 q2 q3)  (u : WS)  : Ini l yX0_steps wsX0_steps 0 0 D (ty0 cI) (wa0 h q1 q2 q3) [.ref h] (ww0 cI h q1 q2 q3 u) (ww0 cI h q1 q2 q3 u) (S0_steps u) := by
  refine Met.ofW (cc := cX0_steps) (maxL := 1) (ret := (some .int)) (by decide) rfl ?_
  intro p e s m args below meth c s₁ B hml hv
  obtain ⟨rfl, hP, hK⟩ := hv
  have hx := B.exec
  have hb := B.bytes
  have hr := B.returns
  have hts := atoms_spec (ws := wsX0_steps) B.pre
  have hown : s.vm.findClass RX0 = some m.cls := findClass_of_methodNamed B.named
  have hlocks := B.notSynchronized
  have hS : va_S (wa0 h q1 q2 q3) s.heap s.heap [] := va_S.rf
  have hl := lv_entry ([.ref h]) (n := 1) (Nat.le_of_ble_eq_true rfl)
  rw [lg_entry_eq]
  generalize (lg_sl ([.ref h]) ++ List.replicate (1 - (lg_sl ([.ref h])).length) Slot.unset).toArray = ls at hl ⊢
  have hl : lv_has ls 1 [(0, .ref h)] := hl
  refine lv_aload_n hx hb dX0_steps_0 rfl (lv_at hl 0 rfl) ?_
  refine va_get (D := D) (ci := 0) (v := .int (W_st u)) (C := RX0) (T := TX0) (N := 6) hx hb hts iwX0_steps hown hK hP 0 rfl rfl 5 (by decide) (hts (.fieldLink RX0 26 "WordMachine" "stepsDone" "I") flX0_steps_26) (fun _ h9 => h9) rfl dX0_steps_1 ?_
  have e9 : S0_steps u = W_st u := by rw [S0_steps]
  exact W.iret (v := W_st u) hx hb hr (fun t ht hW => ⟨⟨W_st u, (), rfl, e9.symm, (by show va_P _ _ _ t.heap; rw [ht]; exact hP)⟩, hS.F ht⟩) hS.2.2 dX0_steps_4
theorem hdX0_run : yX0_run.cls = RX0 ∧ yX0_run.cls ≠ "java/lang/invoke/MethodHandle" ∧ yX0_run.cls ≠ "java/lang/invoke/VarHandle" ∧ (parseMethodDescriptor yX0_run.desc).map (fun d => d.parameters.length) = some 1 := by decide +kernel
set_option maxHeartbeats 4000000 in
set_option maxRecDepth 100000 in
theorem c0_run (l : Launch) {D : va_G} {cI : ClassId} {h q1 q2 q3 : Nat} (hap : ap4 h q1 q2 q3) (na : Int32) (u : WS) (hw : W_wc u ≤ 1024) : Ini l yX0_run wsX0_run 5 111 D (ty0 cI) (wa0 h q1 q2 q3) [.ref h, .int na] (ww0 cI h q1 q2 q3 u) (ww0 cI h q1 q2 q3 (S0_run na u).2) (S0_run na u).1 := by
  refine Met.ofW (cc := cX0_run) (maxL := 4) (ret := (some .int)) (by decide) rfl ?_
  intro p e s m args below meth c s₁ B hml hv
  obtain ⟨rfl, hP, hK⟩ := hv
  have hx := B.exec
  have hb := B.bytes
  have hr := B.returns
  have hts := atoms_spec (ws := wsX0_run) B.pre
  have hown : s.vm.findClass RX0 = some m.cls := findClass_of_methodNamed B.named
  have hlocks := B.notSynchronized
  have hS : va_S (wa0 h q1 q2 q3) s.heap s.heap [] := va_S.rf
  have hl := lv_entry ([.ref h, .int na]) (n := 4) (Nat.le_of_ble_eq_true rfl)
  rw [lg_entry_eq]
  generalize (lg_sl ([.ref h, .int na]) ++ List.replicate (4 - (lg_sl ([.ref h, .int na])).length) Slot.unset).toArray = ls at hl ⊢
  have hl : lv_has ls 4 [(0, .ref h), (1, .int na)] := hl
  have J : ∀ (n9 j : Nat) (w : WS) (H : Heap) (locs : List Loc), va_P D vwCl (ww0 cI h q1 q2 q3 w) H → va_S (wa0 h q1 q2 q3) s.heap H locs → ∀ ls : Array Slot, lv_has ls 4 [(2, .int (nI j)), (1, .int na), (0, .ref h)] → j + n9 = na.toNatClampNeg → ¬ na < 0 → S0_run na u = S0_loop n9 w → W_wc w ≤ 1024 → W p l e (headSpec wsX0_run ({ frames := 5, cells := 0, slots := 0, locals := 111 })).room s m ([.ref h, .int na] : List Value).toArray below meth c H locs 0 0 (MQ below (va_Qi (fun (r : Int32) (_ : Unit) => r = (S0_run na u).1) (fun _ t => va_P D vwCl (ww0 cI h q1 q2 q3 (S0_run na u).2) t.heap) (wa0 h q1 q2 q3)) ([.ref h, .int na] : List Value).toArray s 0 0 (wa0 h q1 q2 q3)) (F0 m 15 ls []) := by
    intro n9
    induction n9 with
    | zero =>
      intro j w H locs hP hS ls hl hj h0 hs hww
      refine lv_iload_n hx hb dX0_run_15 rfl (lv_at hl 0 rfl) ?_
      refine lv_iload_n hx hb dX0_run_16 rfl (lv_at hl 1 rfl) ?_
      refine lv_icmp_ge (tgt := 37) hx hb dX0_run_17 (by decide) (fun (c1 : na ≤ (nI j)) => ?_) (fun (c1 : ¬ na ≤ (nI j)) => ?_)
      · refine lv_iconst (v := 0) hx hb dX0_run_37 (by decide) ?_
        have e9 : S0_run na u = ((0 : Int32), w) := by rw [hs, S0_loop]
        exact W.iret (v := (0 : Int32)) hx hb hr (fun t ht hW => ⟨⟨(0 : Int32), (), rfl, by rw [e9], by show va_P _ _ _ t.heap; rw [e9, ht]; exact hP⟩, hS.F ht⟩) hS.2.2 dX0_run_38
      · exact absurd (rn_ge h0 hj) c1
    | succ n9 ih =>
      intro j w H locs hP hS ls hl hj h0 hs hww
      refine lv_iload_n hx hb dX0_run_15 rfl (lv_at hl 0 rfl) ?_
      refine lv_iload_n hx hb dX0_run_16 rfl (lv_at hl 1 rfl) ?_
      refine lv_icmp_ge (tgt := 37) hx hb dX0_run_17 (by decide) (fun (c2 : na ≤ (nI j)) => ?_) (fun (c2 : ¬ na ≤ (nI j)) => ?_)
      · exact absurd c2 (rn_lt h0 (by omega))
      · refine lv_aload_n hx hb dX0_run_20 rfl (lv_at hl 2 rfl) ?_
        refine in_i (v := (S0_step w).1) (As := []) (rest := []) (w1 := ww0 cI h q1 q2 q3 ((S0_step w).2)) ⟨hx, hb, hml, hown, hts⟩ (c0_step l hap  w hww) gX0_run_X0_step rfl hdX0_step ⟨Nat.le_of_ble_eq_true rfl, Nat.le_of_ble_eq_true rfl⟩ hK rfl rfl hl.1 rfl (Nat.le_of_ble_eq_true rfl) dX0_run_21 ⟨Nat.zero_le _, Nat.zero_le _⟩ hP hS (fun _ h => h) (fun H locs hP hS _ _ => ?_)
        refine lv_istore_n (lv' := [(3, .int ((S0_step w).1)), (2, .int (nI j)), (1, .int na), (0, .ref h)]) hx hb dX0_run_24 rfl hl (by decide) rfl (fun ls hl => ?_)
        refine lv_iload_n hx hb dX0_run_25 rfl (lv_at hl 0 rfl) ?_
        refine lv_if_eq (tgt := 31) hx hb dX0_run_26 (by decide) (fun (c3 : ((S0_step w).1) = 0) => ?_) (fun (c3 : ¬ ((S0_step w).1) = 0) => ?_)
        · refine lv_iinc (v := (nI j) + 1) (lv' := [(2, .int ((nI j) + 1)), (3, .int ((S0_step w).1)), (1, .int na), (0, .ref h)]) hx hb dX0_run_31 hl (k := 1) rfl (by rfl) (by decide) rfl (fun ls hl => ?_)
          refine lv_goto (tgt := 15) hx hb dX0_run_34 (by decide) ?_
          rw [nI_1] at hl
          exact ih (j + 1) _ H locs hP hS ls (lv_sub hl [0, 2, 3] rfl) (by omega) h0 (by rw [hs, S0_loop, if_pos c3]) (by rw [wc0_step]; exact hww)
        · refine lv_iload_n hx hb dX0_run_29 rfl (lv_at hl 0 rfl) ?_
          have e9 : S0_run na u = ((S0_step w).1, (S0_step w).2) := by rw [hs, S0_loop, if_neg c3]
          exact W.iret (v := (S0_step w).1) hx hb hr (fun t ht hW => ⟨⟨(S0_step w).1, (), rfl, by rw [e9], by show va_P _ _ _ t.heap; rw [e9, ht]; exact hP⟩, hS.F ht⟩) hS.2.2 dX0_run_30
  refine lv_iload_n hx hb dX0_run_0 rfl (lv_at hl 1 rfl) ?_
  refine lv_if_lt (tgt := 11) hx hb dX0_run_1 (by decide) (fun (c4 : na < 0) => ?_) (fun (c4 : ¬ na < 0) => ?_)
  · refine lv_iconst (v := (-1)) hx hb dX0_run_11 (by decide) ?_
    have e9 : S0_run na u = (((-1) : Int32), u) := by rw [S0_run, if_pos c4]
    exact W.iret (v := ((-1) : Int32)) hx hb hr (fun t ht hW => ⟨⟨((-1) : Int32), (), rfl, by rw [e9], by show va_P _ _ _ t.heap; rw [e9, ht]; exact hP⟩, hS.F ht⟩) hS.2.2 dX0_run_12
  · refine lv_iload_n hx hb dX0_run_4 rfl (lv_at hl 1 rfl) ?_
    refine lv_sipush (v := 1000) hx hb dX0_run_5 (by decide) ?_
    refine lv_icmp_le (tgt := 13) hx hb dX0_run_8 (by decide) (fun (c5 : na ≤ 1000) => ?_) (fun (c5 : ¬ na ≤ 1000) => ?_)
    · refine lv_iconst (v := 0) hx hb dX0_run_13 (by decide) ?_
      refine lv_istore_n (lv' := [(2, .int 0), (0, .ref h), (1, .int na)]) hx hb dX0_run_14 rfl hl (by decide) rfl (fun ls hl => ?_)
      exact J na.toNatClampNeg 0 u _ _ hP hS ls (lv_sub hl [0, 2, 1] rfl) (by omega) c4 (by rw [S0_run, if_neg c4, if_pos c5]) hw
    · refine lv_iconst (v := (-1)) hx hb dX0_run_11 (by decide) ?_
      have e9 : S0_run na u = (((-1) : Int32), u) := by rw [S0_run, if_neg c4, if_neg c5]
      exact W.iret (v := ((-1) : Int32)) hx hb hr (fun t ht hW => ⟨⟨((-1) : Int32), (), rfl, by rw [e9], by show va_P _ _ _ t.heap; rw [e9, ht]; exact hP⟩, hS.F ht⟩) hS.2.2 dX0_run_12
