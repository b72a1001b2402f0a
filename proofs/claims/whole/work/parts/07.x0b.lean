theorem iwX0_setRegister : ∀ w ∈ wsX00, w ∈ wsX0_setRegister := by decide +kernel
theorem flX0_setRegister_13 : Cond.fieldLink RX0 13 "WordMachine" "registers" "[I" ∈ wsX0_setRegister := by decide +kernel
theorem hdX0_setRegister : yX0_setRegister.cls = RX0 ∧ yX0_setRegister.cls ≠ "java/lang/invoke/MethodHandle" ∧ yX0_setRegister.cls ≠ "java/lang/invoke/VarHandle" ∧ (parseMethodDescriptor yX0_setRegister.desc).map (fun d => d.parameters.length) = some 2 := by decide +kernel
set_option maxHeartbeats 4000000 in
set_option maxRecDepth 100000 in
theorem c0_setRegister (l : Launch) {D : va_G} {cI : ClassId} {h q1 q2 q3 : Nat} (hap : ap4 h q1 q2 q3) (ra : Int32) (va : Int32) (u : WS)  : Inv l yX0_setRegister wsX0_setRegister 0 0 D (ty0 cI) (wa0 h q1 q2 q3) [.ref h, .int ra, .int va] (ww0 cI h q1 q2 q3 u) (ww0 cI h q1 q2 q3 (S0_setRegister ra va u))  := by
  refine Met.ofW (cc := cX0_setRegister) (maxL := 3) (ret := none) (by decide) rfl ?_
  intro p e s m args below meth c s₁ B hml hv
  obtain ⟨rfl, hP, hK⟩ := hv
  have hx := B.exec
  have hb := B.bytes
  have hr := B.returns
  have hts := atoms_spec (ws := wsX0_setRegister) B.pre
  have hown : s.vm.findClass RX0 = some m.cls := findClass_of_methodNamed B.named
  have hlocks := B.notSynchronized
  have hS : va_S (wa0 h q1 q2 q3) s.heap s.heap [] := va_S.rf
  have hl := lv_entry ([.ref h, .int ra, .int va]) (n := 3) (Nat.le_of_ble_eq_true rfl)
  rw [lg_entry_eq]
  generalize (lg_sl ([.ref h, .int ra, .int va]) ++ List.replicate (3 - (lg_sl ([.ref h, .int ra, .int va])).length) Slot.unset).toArray = ls at hl ⊢
  have hl : lv_has ls 3 [(0, .ref h), (1, .int ra), (2, .int va)] := hl
  refine lv_iload_n hx hb dX0_setRegister_0 rfl (lv_at hl 1 rfl) ?_
  refine lv_if_le (tgt := 17) hx hb dX0_setRegister_1 (by decide) (fun (c1 : ra ≤ 0) => ?_) (fun (c1 : ¬ ra ≤ 0) => ?_)
  · have e9 : S0_setRegister ra va u = u := by rw [S0_setRegister, if_pos c1]
    exact W.vret hx hb hr (fun t ht hW => ⟨⟨(), rfl, trivial, by show va_P _ _ _ t.heap; rw [e9, ht]; exact hP⟩, hS.F ht⟩) hS.2.2 dX0_setRegister_17
  · refine lv_iload_n hx hb dX0_setRegister_4 rfl (lv_at hl 1 rfl) ?_
    refine lv_bipush (v := 32) hx hb dX0_setRegister_5 (by decide) ?_
    refine lv_icmp_ge (tgt := 17) hx hb dX0_setRegister_7 (by decide) (fun (c2 : 32 ≤ ra) => ?_) (fun (c2 : ¬ 32 ≤ ra) => ?_)
    · have e9 : S0_setRegister ra va u = u := by rw [S0_setRegister, if_neg c1, if_pos c2]
      exact W.vret hx hb hr (fun t ht hW => ⟨⟨(), rfl, trivial, by show va_P _ _ _ t.heap; rw [e9, ht]; exact hP⟩, hS.F ht⟩) hS.2.2 dX0_setRegister_17
    · refine lv_aload_n hx hb dX0_setRegister_10 rfl (lv_at hl 0 rfl) ?_
      refine va_get (D := D) (ci := 0) (v := .ref q2) (C := RX0) (T := TX0) (N := 6) hx hb hts iwX0_setRegister hown hK hP 0 rfl rfl 1 (by decide) (hts (.fieldLink RX0 13 "WordMachine" "registers" "[I") flX0_setRegister_13) (fun _ h9 => h9) rfl dX0_setRegister_11 ?_
      refine lv_iload_n hx hb dX0_setRegister_14 rfl (lv_at hl 1 rfl) ?_
      refine lv_iload_n hx hb dX0_setRegister_15 rfl (lv_at hl 2 rfl) ?_
      refine va_iast hx hb hK hP (ap4_D hap) hS 2 0 rfl rfl (ix_reg c1 c2) dX0_setRegister_16 (fun H locs hP _ hS => ?_)
      have hP : va_P D vwCl (ww0 cI h q1 q2 q3 (Wp_regs (upd (W_regs u) ra.toNatClampNeg va) u)) H := hP
      have e9 : S0_setRegister ra va u = Wp_regs (upd (W_regs u) ra.toNatClampNeg va) u := by rw [S0_setRegister, if_neg c1, if_neg c2]
      exact W.vret hx hb hr (fun t ht hW => ⟨⟨(), rfl, trivial, by show va_P _ _ _ t.heap; rw [e9, ht]; exact hP⟩, hS.F ht⟩) hS.2.2 dX0_setRegister_17
theorem iwX0_valueX : ∀ w ∈ wsX00, w ∈ wsX0_valueX := by decide +kernel
theorem flX0_valueX_13 : Cond.fieldLink RX0 13 "WordMachine" "registers" "[I" ∈ wsX0_valueX := by decide +kernel
theorem hdX0_valueX : yX0_valueX.cls = RX0 ∧ yX0_valueX.cls ≠ "java/lang/invoke/MethodHandle" ∧ yX0_valueX.cls ≠ "java/lang/invoke/VarHandle" ∧ (parseMethodDescriptor yX0_valueX.desc).map (fun d => d.parameters.length) = some 1 := by decide +kernel
set_option maxHeartbeats 4000000 in
set_option maxRecDepth 100000 in
theorem c0_valueX (l : Launch) {D : va_G} {cI : ClassId} {h q1 q2 q3 : Nat} (hap : ap4 h q1 q2 q3) (wa : Int32) (u : WS)  : Ini l yX0_valueX wsX0_valueX 1 20 D (ty0 cI) (wa0 h q1 q2 q3) [.ref h, .int wa] (ww0 cI h q1 q2 q3 u) (ww0 cI h q1 q2 q3 u) (S0_valueX wa u) := by
  refine Met.ofW (cc := cX0_valueX) (maxL := 2) (ret := (some .int)) (by decide) rfl ?_
  intro p e s m args below meth c s₁ B hml hv
  obtain ⟨rfl, hP, hK⟩ := hv
  have hx := B.exec
  have hb := B.bytes
  have hr := B.returns
  have hts := atoms_spec (ws := wsX0_valueX) B.pre
  have hown : s.vm.findClass RX0 = some m.cls := findClass_of_methodNamed B.named
  have hlocks := B.notSynchronized
  have hS : va_S (wa0 h q1 q2 q3) s.heap s.heap [] := va_S.rf
  have hl := lv_entry ([.ref h, .int wa]) (n := 2) (Nat.le_of_ble_eq_true rfl)
  rw [lg_entry_eq]
  generalize (lg_sl ([.ref h, .int wa]) ++ List.replicate (2 - (lg_sl ([.ref h, .int wa])).length) Slot.unset).toArray = ls at hl ⊢
  have hl : lv_has ls 2 [(0, .ref h), (1, .int wa)] := hl
  refine lv_aload_n hx hb dX0_valueX_0 rfl (lv_at hl 0 rfl) ?_
  refine va_get (D := D) (ci := 0) (v := .ref q2) (C := RX0) (T := TX0) (N := 6) hx hb hts iwX0_valueX hown hK hP 0 rfl rfl 1 (by decide) (hts (.fieldLink RX0 13 "WordMachine" "registers" "[I") flX0_valueX_13) (fun _ h9 => h9) rfl dX0_valueX_1 ?_
  refine lv_iload_n hx hb dX0_valueX_4 rfl (lv_at hl 1 rfl) ?_
  refine pu_i (v := S0_fieldX wa) (As := [.int wa]) (rest := [.ref q2]) ⟨hx, hb, hml, hown, hts⟩ (c0_fieldX l wa ) gX0_valueX_X0_fieldX rfl hdX0_fieldX ⟨Nat.le_of_ble_eq_true rfl, Nat.le_of_ble_eq_true rfl⟩ hl.1 rfl (Nat.le_of_ble_eq_true rfl) dX0_valueX_5 ⟨Nat.zero_le _, Nat.zero_le _⟩ hP hS (fun H locs hP hS => ?_)
  refine va_iald hx hb hK hP 2 0 rfl rfl (in_fieldX wa) dX0_valueX_8 ?_
  have e9 : S0_valueX wa u = W_regs u (S0_fieldX wa).toNatClampNeg := by rw [S0_valueX]
  exact W.iret (v := W_regs u (S0_fieldX wa).toNatClampNeg) hx hb hr (fun t ht hW => ⟨⟨W_regs u (S0_fieldX wa).toNatClampNeg, (), rfl, e9.symm, (by show va_P _ _ _ t.heap; rw [ht]; exact hP)⟩, hS.F ht⟩) hS.2.2 dX0_valueX_9
theorem iwX0_valueY : ∀ w ∈ wsX00, w ∈ wsX0_valueY := by decide +kernel
theorem flX0_valueY_13 : Cond.fieldLink RX0 13 "WordMachine" "registers" "[I" ∈ wsX0_valueY := by decide +kernel
theorem hdX0_valueY : yX0_valueY.cls = RX0 ∧ yX0_valueY.cls ≠ "java/lang/invoke/MethodHandle" ∧ yX0_valueY.cls ≠ "java/lang/invoke/VarHandle" ∧ (parseMethodDescriptor yX0_valueY.desc).map (fun d => d.parameters.length) = some 1 := by decide +kernel
set_option maxHeartbeats 4000000 in
set_option maxRecDepth 100000 in
theorem c0_valueY (l : Launch) {D : va_G} {cI : ClassId} {h q1 q2 q3 : Nat} (hap : ap4 h q1 q2 q3) (wa : Int32) (u : WS)  : Ini l yX0_valueY wsX0_valueY 1 20 D (ty0 cI) (wa0 h q1 q2 q3) [.ref h, .int wa] (ww0 cI h q1 q2 q3 u) (ww0 cI h q1 q2 q3 u) (S0_valueY wa u) := by
  refine Met.ofW (cc := cX0_valueY) (maxL := 2) (ret := (some .int)) (by decide) rfl ?_
  intro p e s m args below meth c s₁ B hml hv
  obtain ⟨rfl, hP, hK⟩ := hv
  have hx := B.exec
  have hb := B.bytes
  have hr := B.returns
  have hts := atoms_spec (ws := wsX0_valueY) B.pre
  have hown : s.vm.findClass RX0 = some m.cls := findClass_of_methodNamed B.named
  have hlocks := B.notSynchronized
  have hS : va_S (wa0 h q1 q2 q3) s.heap s.heap [] := va_S.rf
  have hl := lv_entry ([.ref h, .int wa]) (n := 2) (Nat.le_of_ble_eq_true rfl)
  rw [lg_entry_eq]
  generalize (lg_sl ([.ref h, .int wa]) ++ List.replicate (2 - (lg_sl ([.ref h, .int wa])).length) Slot.unset).toArray = ls at hl ⊢
  have hl : lv_has ls 2 [(0, .ref h), (1, .int wa)] := hl
  refine lv_aload_n hx hb dX0_valueY_0 rfl (lv_at hl 0 rfl) ?_
  refine va_get (D := D) (ci := 0) (v := .ref q2) (C := RX0) (T := TX0) (N := 6) hx hb hts iwX0_valueY hown hK hP 0 rfl rfl 1 (by decide) (hts (.fieldLink RX0 13 "WordMachine" "registers" "[I") flX0_valueY_13) (fun _ h9 => h9) rfl dX0_valueY_1 ?_
  refine lv_iload_n hx hb dX0_valueY_4 rfl (lv_at hl 1 rfl) ?_
  refine pu_i (v := S0_fieldY wa) (As := [.int wa]) (rest := [.ref q2]) ⟨hx, hb, hml, hown, hts⟩ (c0_fieldY l wa ) gX0_valueY_X0_fieldY rfl hdX0_fieldY ⟨Nat.le_of_ble_eq_true rfl, Nat.le_of_ble_eq_true rfl⟩ hl.1 rfl (Nat.le_of_ble_eq_true rfl) dX0_valueY_5 ⟨Nat.zero_le _, Nat.zero_le _⟩ hP hS (fun H locs hP hS => ?_)
  refine va_iald hx hb hK hP 2 0 rfl rfl (in_fieldY wa) dX0_valueY_8 ?_
  have e9 : S0_valueY wa u = W_regs u (S0_fieldY wa).toNatClampNeg := by rw [S0_valueY]
  exact W.iret (v := W_regs u (S0_fieldY wa).toNatClampNeg) hx hb hr (fun t ht hW => ⟨⟨W_regs u (S0_fieldY wa).toNatClampNeg, (), rfl, e9.symm, (by show va_P _ _ _ t.heap; rw [ht]; exact hP)⟩, hS.F ht⟩) hS.2.2 dX0_valueY_9
theorem iwX0_isPlaceOfWord : ∀ w ∈ wsX00, w ∈ wsX0_isPlaceOfWord := by decide +kernel
theorem flX0_isPlaceOfWord_19 : Cond.fieldLink RX0 19 "WordMachine" "wordCount" "I" ∈ wsX0_isPlaceOfWord := by decide +kernel
theorem hdX0_isPlaceOfWord : yX0_isPlaceOfWord.cls = RX0 ∧ yX0_isPlaceOfWord.cls ≠ "java/lang/invoke/MethodHandle" ∧ yX0_isPlaceOfWord.cls ≠ "java/lang/invoke/VarHandle" ∧ (parseMethodDescriptor yX0_isPlaceOfWord.desc).map (fun d => d.parameters.length) = some 1 := by decide +kernel
set_option maxHeartbeats 4000000 in
set_option maxRecDepth 100000 in
theorem c0_isPlaceOfWord (l : Launch) {D : va_G} {cI : ClassId} {h q1 q2 q3 : Nat} (hap : ap4 h q1 q2 q3) (aa : Int32) (u : WS)  : Ini l yX0_isPlaceOfWord wsX0_isPlaceOfWord 1 21 D (ty0 cI) (wa0 h q1 q2 q3) [.ref h, .int aa] (ww0 cI h q1 q2 q3 u) (ww0 cI h q1 q2 q3 u) (S0_isPlaceOfWord aa u) := by
  refine Met.ofW (cc := cX0_isPlaceOfWord) (maxL := 2) (ret := (some .boolean)) (by decide) rfl ?_
  intro p e s m args below meth c s₁ B hml hv
  obtain ⟨rfl, hP, hK⟩ := hv
  have hx := B.exec
  have hb := B.bytes
  have hr := B.returns
  have hts := atoms_spec (ws := wsX0_isPlaceOfWord) B.pre
  have hown : s.vm.findClass RX0 = some m.cls := findClass_of_methodNamed B.named
  have hlocks := B.notSynchronized
  have hS : va_S (wa0 h q1 q2 q3) s.heap s.heap [] := va_S.rf
  have hl := lv_entry ([.ref h, .int aa]) (n := 2) (Nat.le_of_ble_eq_true rfl)
  rw [lg_entry_eq]
  generalize (lg_sl ([.ref h, .int aa]) ++ List.replicate (2 - (lg_sl ([.ref h, .int aa])).length) Slot.unset).toArray = ls at hl ⊢
  have hl : lv_has ls 2 [(0, .ref h), (1, .int aa)] := hl
  refine lv_iload_n hx hb dX0_isPlaceOfWord_0 rfl (lv_at hl 1 rfl) ?_
  refine lv_if_lt (tgt := 26) hx hb dX0_isPlaceOfWord_1 (by decide) (fun (c1 : aa < 0) => ?_) (fun (c1 : ¬ aa < 0) => ?_)
  · refine lv_iconst (v := 0) hx hb dX0_isPlaceOfWord_26 (by decide) ?_
    have e9 : S0_isPlaceOfWord aa u = (0 : Int32) := by rw [S0_isPlaceOfWord, if_pos c1]
    exact W.zret (v := (0 : Int32)) hx hb hr rfl (fun t ht hW => ⟨⟨(0 : Int32), (), rfl, e9.symm, (by show va_P _ _ _ t.heap; rw [ht]; exact hP)⟩, hS.F ht⟩) hS.2.2 dX0_isPlaceOfWord_27
  · refine lv_iload_n hx hb dX0_isPlaceOfWord_4 rfl (lv_at hl 1 rfl) ?_
    refine lv_iconst (v := 4) hx hb dX0_isPlaceOfWord_5 (by decide) ?_
    refine pu_i (v := S0_isMultiple aa (4)) (As := [.int aa, .int 4]) (rest := []) ⟨hx, hb, hml, hown, hts⟩ (c0_isMultiple l aa (4) ) gX0_isPlaceOfWord_X0_isMultiple rfl hdX0_isMultiple ⟨Nat.le_of_ble_eq_true rfl, Nat.le_of_ble_eq_true rfl⟩ hl.1 rfl (Nat.le_of_ble_eq_true rfl) dX0_isPlaceOfWord_6 ⟨Nat.zero_le _, Nat.zero_le _⟩ hP hS (fun H locs hP hS => ?_)
    refine lv_if_eq (tgt := 26) hx hb dX0_isPlaceOfWord_9 (by decide) (fun (c2 : (S0_isMultiple aa (4)) = 0) => ?_) (fun (c2 : ¬ (S0_isMultiple aa (4)) = 0) => ?_)
    · refine lv_iconst (v := 0) hx hb dX0_isPlaceOfWord_26 (by decide) ?_
      have e9 : S0_isPlaceOfWord aa u = (0 : Int32) := by rw [S0_isPlaceOfWord, if_neg c1, if_pos c2]
      exact W.zret (v := (0 : Int32)) hx hb hr rfl (fun t ht hW => ⟨⟨(0 : Int32), (), rfl, e9.symm, (by show va_P _ _ _ t.heap; rw [ht]; exact hP)⟩, hS.F ht⟩) hS.2.2 dX0_isPlaceOfWord_27
    · refine lv_iload_n hx hb dX0_isPlaceOfWord_12 rfl (lv_at hl 1 rfl) ?_
      refine lv_iconst (v := 4) hx hb dX0_isPlaceOfWord_13 (by decide) ?_
      refine lv_idiv hx hb dX0_isPlaceOfWord_14 (by decide) ?_
      refine lv_aload_n hx hb dX0_isPlaceOfWord_15 rfl (lv_at hl 0 rfl) ?_
      refine va_get (D := D) (ci := 0) (v := .int (W_wc u)) (C := RX0) (T := TX0) (N := 6) hx hb hts iwX0_isPlaceOfWord hown hK hP 0 rfl rfl 3 (by decide) (hts (.fieldLink RX0 19 "WordMachine" "wordCount" "I") flX0_isPlaceOfWord_19) (fun _ h9 => h9) rfl dX0_isPlaceOfWord_16 ?_
      refine lv_icmp_ge (tgt := 26) hx hb dX0_isPlaceOfWord_19 (by decide) (fun (c3 : (W_wc u) ≤ (aa / 4)) => ?_) (fun (c3 : ¬ (W_wc u) ≤ (aa / 4)) => ?_)
      · refine lv_iconst (v := 0) hx hb dX0_isPlaceOfWord_26 (by decide) ?_
        have e9 : S0_isPlaceOfWord aa u = (0 : Int32) := by rw [S0_isPlaceOfWord, if_neg c1, if_neg c2, if_pos c3]
        exact W.zret (v := (0 : Int32)) hx hb hr rfl (fun t ht hW => ⟨⟨(0 : Int32), (), rfl, e9.symm, (by show va_P _ _ _ t.heap; rw [ht]; exact hP)⟩, hS.F ht⟩) hS.2.2 dX0_isPlaceOfWord_27
      · refine lv_iconst (v := 1) hx hb dX0_isPlaceOfWord_22 (by decide) ?_
        refine lv_goto (tgt := 27) hx hb dX0_isPlaceOfWord_23 (by decide) ?_
        have e9 : S0_isPlaceOfWord aa u = (1 : Int32) := by rw [S0_isPlaceOfWord, if_neg c1, if_neg c2, if_neg c3]
        exact W.zret (v := (1 : Int32)) hx hb hr rfl (fun t ht hW => ⟨⟨(1 : Int32), (), rfl, e9.symm, (by show va_P _ _ _ t.heap; rw [ht]; exact hP)⟩, hS.F ht⟩) hS.2.2 dX0_isPlaceOfWord_27
theorem iwX0_bitsFrom : ∀ w ∈ wsX00, w ∈ wsX0_bitsFrom := by decide +kernel
theorem flX0_bitsFrom_16 : Cond.fieldLink RX0 16 "WordMachine" "memory" "[I" ∈ wsX0_bitsFrom := by decide +kernel
theorem hdX0_bitsFrom : yX0_bitsFrom.cls = RX0 ∧ yX0_bitsFrom.cls ≠ "java/lang/invoke/MethodHandle" ∧ yX0_bitsFrom.cls ≠ "java/lang/invoke/VarHandle" ∧ (parseMethodDescriptor yX0_bitsFrom.desc).map (fun d => d.parameters.length) = some 1 := by decide +kernel
set_option maxHeartbeats 4000000 in
set_option maxRecDepth 100000 in
theorem c0_bitsFrom (l : Launch) {D : va_G} {cI : ClassId} {h q1 q2 q3 : Nat} (hap : ap4 h q1 q2 q3) (aa : Int32) (u : WS) (hi : vp_in (aa / 4) 1024) : Ini l yX0_bitsFrom wsX0_bitsFrom 1 20 D (ty0 cI) (wa0 h q1 q2 q3) [.ref h, .int aa] (ww0 cI h q1 q2 q3 u) (ww0 cI h q1 q2 q3 u) (S0_bitsFrom aa u) := by
  refine Met.ofW (cc := cX0_bitsFrom) (maxL := 2) (ret := (some .int)) (by decide) rfl ?_
  intro p e s m args below meth c s₁ B hml hv
  obtain ⟨rfl, hP, hK⟩ := hv
  have hx := B.exec
  have hb := B.bytes
  have hr := B.returns
  have hts := atoms_spec (ws := wsX0_bitsFrom) B.pre
  have hown : s.vm.findClass RX0 = some m.cls := findClass_of_methodNamed B.named
  have hlocks := B.notSynchronized
  have hS : va_S (wa0 h q1 q2 q3) s.heap s.heap [] := va_S.rf
  have hl := lv_entry ([.ref h, .int aa]) (n := 2) (Nat.le_of_ble_eq_true rfl)
  rw [lg_entry_eq]
  generalize (lg_sl ([.ref h, .int aa]) ++ List.replicate (2 - (lg_sl ([.ref h, .int aa])).length) Slot.unset).toArray = ls at hl ⊢
  have hl : lv_has ls 2 [(0, .ref h), (1, .int aa)] := hl
  refine lv_aload_n hx hb dX0_bitsFrom_0 rfl (lv_at hl 0 rfl) ?_
  refine va_get (D := D) (ci := 0) (v := .ref q3) (C := RX0) (T := TX0) (N := 6) hx hb hts iwX0_bitsFrom hown hK hP 0 rfl rfl 2 (by decide) (hts (.fieldLink RX0 16 "WordMachine" "memory" "[I") flX0_bitsFrom_16) (fun _ h9 => h9) rfl dX0_bitsFrom_1 ?_
  refine lv_iload_n hx hb dX0_bitsFrom_4 rfl (lv_at hl 1 rfl) ?_
  refine lv_iconst (v := 4) hx hb dX0_bitsFrom_5 (by decide) ?_
  refine lv_idiv hx hb dX0_bitsFrom_6 (by decide) ?_
  refine va_iald hx hb hK hP 3 0 rfl rfl hi dX0_bitsFrom_7 ?_
  refine lv_iload_n hx hb dX0_bitsFrom_8 rfl (lv_at hl 1 rfl) ?_
  refine pu_i (v := S0_bitOffset aa) (As := [.int aa]) (rest := [.int (W_mem u (aa / 4).toNatClampNeg)]) ⟨hx, hb, hml, hown, hts⟩ (c0_bitOffset l aa ) gX0_bitsFrom_X0_bitOffset rfl hdX0_bitOffset ⟨Nat.le_of_ble_eq_true rfl, Nat.le_of_ble_eq_true rfl⟩ hl.1 rfl (Nat.le_of_ble_eq_true rfl) dX0_bitsFrom_9 ⟨Nat.zero_le _, Nat.zero_le _⟩ hP hS (fun H locs hP hS => ?_)
  refine lv_iushr (v := i_ushr (W_mem u (aa / 4).toNatClampNeg) (S0_bitOffset aa)) hx hb dX0_bitsFrom_12 rfl ?_
  have e9 : S0_bitsFrom aa u = i_ushr (W_mem u (aa / 4).toNatClampNeg) (S0_bitOffset aa) := by rw [S0_bitsFrom]
  exact W.iret (v := i_ushr (W_mem u (aa / 4).toNatClampNeg) (S0_bitOffset aa)) hx hb hr (fun t ht hW => ⟨⟨i_ushr (W_mem u (aa / 4).toNatClampNeg) (S0_bitOffset aa), (), rfl, e9.symm, (by show va_P _ _ _ t.heap; rw [ht]; exact hP)⟩, hS.F ht⟩) hS.2.2 dX0_bitsFrom_13
theorem iwX0_replaceBits : ∀ w ∈ wsX00, w ∈ wsX0_replaceBits := by decide +kernel
theorem flX0_replaceBits_16 : Cond.fieldLink RX0 16 "WordMachine" "memory" "[I" ∈ wsX0_replaceBits := by decide +kernel
theorem hdX0_replaceBits : yX0_replaceBits.cls = RX0 ∧ yX0_replaceBits.cls ≠ "java/lang/invoke/MethodHandle" ∧ yX0_replaceBits.cls ≠ "java/lang/invoke/VarHandle" ∧ (parseMethodDescriptor yX0_replaceBits.desc).map (fun d => d.parameters.length) = some 3 := by decide +kernel
set_option maxHeartbeats 4000000 in
set_option maxRecDepth 100000 in
theorem c0_replaceBits (l : Launch) {D : va_G} {cI : ClassId} {h q1 q2 q3 : Nat} (hap : ap4 h q1 q2 q3) (aa : Int32) (ba : Int32) (va : Int32) (u : WS) (hi : vp_in (aa / 4) 1024) : Inv l yX0_replaceBits wsX0_replaceBits 1 20 D (ty0 cI) (wa0 h q1 q2 q3) [.ref h, .int aa, .int ba, .int va] (ww0 cI h q1 q2 q3 u) (ww0 cI h q1 q2 q3 (S0_replaceBits aa ba va u))  := by
  refine Met.ofW (cc := cX0_replaceBits) (maxL := 5) (ret := none) (by decide) rfl ?_
  intro p e s m args below meth c s₁ B hml hv
  obtain ⟨rfl, hP, hK⟩ := hv
  have hx := B.exec
  have hb := B.bytes
  have hr := B.returns
  have hts := atoms_spec (ws := wsX0_replaceBits) B.pre
  have hown : s.vm.findClass RX0 = some m.cls := findClass_of_methodNamed B.named
  have hlocks := B.notSynchronized
  have hS : va_S (wa0 h q1 q2 q3) s.heap s.heap [] := va_S.rf
  have hl := lv_entry ([.ref h, .int aa, .int ba, .int va]) (n := 5) (Nat.le_of_ble_eq_true rfl)
  rw [lg_entry_eq]
  generalize (lg_sl ([.ref h, .int aa, .int ba, .int va]) ++ List.replicate (5 - (lg_sl ([.ref h, .int aa, .int ba, .int va])).length) Slot.unset).toArray = ls at hl ⊢
  have hl : lv_has ls 5 [(0, .ref h), (1, .int aa), (2, .int ba), (3, .int va)] := hl
  refine lv_aload_n hx hb dX0_replaceBits_0 rfl (lv_at hl 0 rfl) ?_
  refine va_get (D := D) (ci := 0) (v := .ref q3) (C := RX0) (T := TX0) (N := 6) hx hb hts iwX0_replaceBits hown hK hP 0 rfl rfl 2 (by decide) (hts (.fieldLink RX0 16 "WordMachine" "memory" "[I") flX0_replaceBits_16) (fun _ h9 => h9) rfl dX0_replaceBits_1 ?_
  refine lv_iload_n hx hb dX0_replaceBits_4 rfl (lv_at hl 1 rfl) ?_
  refine lv_iconst (v := 4) hx hb dX0_replaceBits_5 (by decide) ?_
  refine lv_idiv hx hb dX0_replaceBits_6 (by decide) ?_
  refine va_iald hx hb hK hP 3 0 rfl rfl hi dX0_replaceBits_7 ?_
  refine lv_iload_n hx hb dX0_replaceBits_8 rfl (lv_at hl 2 rfl) ?_
  refine lv_iload_n hx hb dX0_replaceBits_9 rfl (lv_at hl 1 rfl) ?_
  refine pu_i (v := S0_bitOffset aa) (As := [.int aa]) (rest := [.int ba, .int (W_mem u (aa / 4).toNatClampNeg)]) ⟨hx, hb, hml, hown, hts⟩ (c0_bitOffset l aa ) gX0_replaceBits_X0_bitOffset rfl hdX0_bitOffset ⟨Nat.le_of_ble_eq_true rfl, Nat.le_of_ble_eq_true rfl⟩ hl.1 rfl (Nat.le_of_ble_eq_true rfl) dX0_replaceBits_10 ⟨Nat.zero_le _, Nat.zero_le _⟩ hP hS (fun H locs hP hS => ?_)
  refine lv_ishl hx hb dX0_replaceBits_13 ?_
  refine lv_iconst (v := (-1)) hx hb dX0_replaceBits_14 (by decide) ?_
  refine lv_ixor hx hb dX0_replaceBits_15 ?_
  refine lv_iand hx hb dX0_replaceBits_16 ?_
  refine lv_istore (lv' := [(4, .int ((W_mem u (aa / 4).toNatClampNeg) &&& ((ba <<< ((S0_bitOffset aa) &&& 31)) ^^^ (-1)))), (0, .ref h), (1, .int aa), (2, .int ba), (3, .int va)]) hx hb dX0_replaceBits_17 hl (by decide) rfl (fun ls hl => ?_)
  refine lv_aload_n hx hb dX0_replaceBits_19 rfl (lv_at hl 1 rfl) ?_
  refine va_get (D := D) (ci := 0) (v := .ref q3) (C := RX0) (T := TX0) (N := 6) hx hb hts iwX0_replaceBits hown hK hP 0 rfl rfl 2 (by decide) (hts (.fieldLink RX0 16 "WordMachine" "memory" "[I") flX0_replaceBits_16) (fun _ h9 => h9) rfl dX0_replaceBits_20 ?_
  refine lv_iload_n hx hb dX0_replaceBits_23 rfl (lv_at hl 2 rfl) ?_
  refine lv_iconst (v := 4) hx hb dX0_replaceBits_24 (by decide) ?_
  refine lv_idiv hx hb dX0_replaceBits_25 (by decide) ?_
  refine lv_iload hx hb dX0_replaceBits_26 (lv_at hl 0 rfl) ?_
  refine lv_iload_n hx hb dX0_replaceBits_28 rfl (lv_at hl 4 rfl) ?_
  refine lv_iload_n hx hb dX0_replaceBits_29 rfl (lv_at hl 3 rfl) ?_
  refine lv_iand hx hb dX0_replaceBits_30 ?_
  refine lv_iload_n hx hb dX0_replaceBits_31 rfl (lv_at hl 2 rfl) ?_
  refine pu_i (v := S0_bitOffset aa) (As := [.int aa]) (rest := [.int (va &&& ba), .int ((W_mem u (aa / 4).toNatClampNeg) &&& ((ba <<< ((S0_bitOffset aa) &&& 31)) ^^^ (-1))), .int (aa / 4), .ref q3]) ⟨hx, hb, hml, hown, hts⟩ (c0_bitOffset l aa ) gX0_replaceBits_X0_bitOffset rfl hdX0_bitOffset ⟨Nat.le_of_ble_eq_true rfl, Nat.le_of_ble_eq_true rfl⟩ hl.1 rfl (Nat.le_of_ble_eq_true rfl) dX0_replaceBits_32 ⟨Nat.zero_le _, Nat.zero_le _⟩ hP hS (fun H locs hP hS => ?_)
  refine lv_ishl hx hb dX0_replaceBits_35 ?_
  refine lv_ior hx hb dX0_replaceBits_36 ?_
  refine va_iast hx hb hK hP (ap4_D hap) hS 3 0 rfl rfl hi dX0_replaceBits_37 (fun H locs hP _ hS => ?_)
  have hP : va_P D vwCl (ww0 cI h q1 q2 q3 (Wp_mem (upd (W_mem u) (aa / 4).toNatClampNeg (((W_mem u (aa / 4).toNatClampNeg) &&& ((ba <<< ((S0_bitOffset aa) &&& 31)) ^^^ (-1))) ||| ((va &&& ba) <<< ((S0_bitOffset aa) &&& 31)))) u)) H := hP
  have e9 : S0_replaceBits aa ba va u = Wp_mem (upd (W_mem u) (aa / 4).toNatClampNeg (((W_mem u (aa / 4).toNatClampNeg) &&& ((ba <<< ((S0_bitOffset aa) &&& 31)) ^^^ (-1))) ||| ((va &&& ba) <<< ((S0_bitOffset aa) &&& 31)))) u := by rw [S0_replaceBits]
  exact W.vret hx hb hr (fun t ht hW => ⟨⟨(), rfl, trivial, by show va_P _ _ _ t.heap; rw [e9, ht]; exact hP⟩, hS.F ht⟩) hS.2.2 dX0_replaceBits_38
theorem iwX0_tell : ∀ w ∈ wsX00, w ∈ wsX0_tell := by decide +kernel
theorem flX0_tell_23 : Cond.fieldLink RX0 23 "WordMachine" "pc" "I" ∈ wsX0_tell := by decide +kernel
theorem hdX0_tell : yX0_tell.cls = RX0 ∧ yX0_tell.cls ≠ "java/lang/invoke/MethodHandle" ∧ yX0_tell.cls ≠ "java/lang/invoke/VarHandle" ∧ (parseMethodDescriptor yX0_tell.desc).map (fun d => d.parameters.length) = some 2 := by decide +kernel
set_option maxHeartbeats 4000000 in
set_option maxRecDepth 100000 in
theorem c0_tell (l : Launch) {D : va_G} {cI : ClassId} {h q1 q2 q3 : Nat} (hap : ap4 h q1 q2 q3) (wa : Int32) (va : Int32) (u : WS)  : Ini l yX0_tell wsX0_tell 1 22 D (ty0 cI) (wa0 h q1 q2 q3) [.ref h, .int wa, .int va] (ww0 cI h q1 q2 q3 u) (ww0 cI h q1 q2 q3 (S0_tell wa va u).2) (S0_tell wa va u).1 := by
  refine Met.ofW (cc := cX0_tell) (maxL := 3) (ret := (some .int)) (by decide) rfl ?_
  intro p e s m args below meth c s₁ B hml hv
  obtain ⟨rfl, hP, hK⟩ := hv
  have hx := B.exec
  have hb := B.bytes
  have hr := B.returns
  have hts := atoms_spec (ws := wsX0_tell) B.pre
  have hown : s.vm.findClass RX0 = some m.cls := findClass_of_methodNamed B.named
  have hlocks := B.notSynchronized
  have hS : va_S (wa0 h q1 q2 q3) s.heap s.heap [] := va_S.rf
  have hl := lv_entry ([.ref h, .int wa, .int va]) (n := 3) (Nat.le_of_ble_eq_true rfl)
  rw [lg_entry_eq]
  generalize (lg_sl ([.ref h, .int wa, .int va]) ++ List.replicate (3 - (lg_sl ([.ref h, .int wa, .int va])).length) Slot.unset).toArray = ls at hl ⊢
  have hl : lv_has ls 3 [(0, .ref h), (1, .int wa), (2, .int va)] := hl
  refine lv_aload_n hx hb dX0_tell_0 rfl (lv_at hl 0 rfl) ?_
  refine lv_iload_n hx hb dX0_tell_1 rfl (lv_at hl 1 rfl) ?_
  refine pu_i (v := S0_fieldD wa) (As := [.int wa]) (rest := [.ref h]) ⟨hx, hb, hml, hown, hts⟩ (c0_fieldD l wa ) gX0_tell_X0_fieldD rfl hdX0_fieldD ⟨Nat.le_of_ble_eq_true rfl, Nat.le_of_ble_eq_true rfl⟩ hl.1 rfl (Nat.le_of_ble_eq_true rfl) dX0_tell_2 ⟨Nat.zero_le _, Nat.zero_le _⟩ hP hS (fun H locs hP hS => ?_)
  refine lv_iload_n hx hb dX0_tell_5 rfl (lv_at hl 2 rfl) ?_
  refine in_v (As := [.int (S0_fieldD wa), .int va]) (rest := []) (w1 := ww0 cI h q1 q2 q3 (S0_setRegister (S0_fieldD wa) va u)) ⟨hx, hb, hml, hown, hts⟩ (c0_setRegister l hap (S0_fieldD wa) va u ) gX0_tell_X0_setRegister rfl hdX0_setRegister ⟨Nat.le_of_ble_eq_true rfl, Nat.le_of_ble_eq_true rfl⟩ hK rfl rfl hl.1 rfl (Nat.le_of_ble_eq_true rfl) dX0_tell_6 ⟨Nat.zero_le _, Nat.zero_le _⟩ hP hS (fun _ h => h) (fun H locs hP hS _ _ => ?_)
  refine lv_aload_n hx hb dX0_tell_9 rfl (lv_at hl 0 rfl) ?_
  refine lv_dup hx hb dX0_tell_10 rfl ?_
  refine va_get (D := D) (ci := 0) (v := .int (W_pc (S0_setRegister (S0_fieldD wa) va u))) (C := RX0) (T := TX0) (N := 6) hx hb hts iwX0_tell hown hK hP 0 rfl rfl 4 (by decide) (hts (.fieldLink RX0 23 "WordMachine" "pc" "I") flX0_tell_23) (fun _ h9 => h9) rfl dX0_tell_11 ?_
  refine lv_iconst (v := 4) hx hb dX0_tell_14 (by decide) ?_
  refine lv_iadd hx hb dX0_tell_15 ?_
  refine va_put (D := D) (ci := 0) (v := .int ((W_pc (S0_setRegister (S0_fieldD wa) va u)) + 4)) (ty := .int) (C := RX0) (T := TX0) (N := 6) hx hb hts iwX0_tell tyX0 tyX0_ok nmX0 hown hK hP (ap4_D hap) hS 0 rfl rfl 4 (by decide) (hts (.fieldLink RX0 23 "WordMachine" "pc" "I") flX0_tell_23) (fun _ h9 => h9) rfl (by decide +kernel) rfl rfl (Nat.le_of_ble_eq_true rfl) dX0_tell_16 (fun H locs hP _ hS => ?_)
  have hP : va_P D vwCl (ww0 cI h q1 q2 q3 (Wp_pc ((W_pc (S0_setRegister (S0_fieldD wa) va u)) + 4) (S0_setRegister (S0_fieldD wa) va u))) H := hP
  refine lv_iconst (v := 0) hx hb dX0_tell_19 (by decide) ?_
  have e9 : S0_tell wa va u = ((0 : Int32), Wp_pc ((W_pc (S0_setRegister (S0_fieldD wa) va u)) + 4) (S0_setRegister (S0_fieldD wa) va u)) := by rw [S0_tell]
  exact W.iret (v := (0 : Int32)) hx hb hr (fun t ht hW => ⟨⟨(0 : Int32), (), rfl, by rw [e9], by show va_P _ _ _ t.heap; rw [e9, ht]; exact hP⟩, hS.F ht⟩) hS.2.2 dX0_tell_20
theorem iwX0_jump : ∀ w ∈ wsX00, w ∈ wsX0_jump := by decide +kernel
theorem flX0_jump_23 : Cond.fieldLink RX0 23 "WordMachine" "pc" "I" ∈ wsX0_jump := by decide +kernel
theorem hdX0_jump : yX0_jump.cls = RX0 ∧ yX0_jump.cls ≠ "java/lang/invoke/MethodHandle" ∧ yX0_jump.cls ≠ "java/lang/invoke/VarHandle" ∧ (parseMethodDescriptor yX0_jump.desc).map (fun d => d.parameters.length) = some 2 := by decide +kernel
set_option maxHeartbeats 4000000 in
set_option maxRecDepth 100000 in
theorem c0_jump (l : Launch) {D : va_G} {cI : ClassId} {h q1 q2 q3 : Nat} (hap : ap4 h q1 q2 q3) (wa : Int32) (ta : Int32) (u : WS)  : Ini l yX0_jump wsX0_jump 1 22 D (ty0 cI) (wa0 h q1 q2 q3) [.ref h, .int wa, .int ta] (ww0 cI h q1 q2 q3 u) (ww0 cI h q1 q2 q3 (S0_jump wa ta u).2) (S0_jump wa ta u).1 := by
  refine Met.ofW (cc := cX0_jump) (maxL := 3) (ret := (some .int)) (by decide) rfl ?_
  intro p e s m args below meth c s₁ B hml hv
  obtain ⟨rfl, hP, hK⟩ := hv
  have hx := B.exec
  have hb := B.bytes
  have hr := B.returns
  have hts := atoms_spec (ws := wsX0_jump) B.pre
  have hown : s.vm.findClass RX0 = some m.cls := findClass_of_methodNamed B.named
  have hlocks := B.notSynchronized
  have hS : va_S (wa0 h q1 q2 q3) s.heap s.heap [] := va_S.rf
  have hl := lv_entry ([.ref h, .int wa, .int ta]) (n := 3) (Nat.le_of_ble_eq_true rfl)
  rw [lg_entry_eq]
  generalize (lg_sl ([.ref h, .int wa, .int ta]) ++ List.replicate (3 - (lg_sl ([.ref h, .int wa, .int ta])).length) Slot.unset).toArray = ls at hl ⊢
  have hl : lv_has ls 3 [(0, .ref h), (1, .int wa), (2, .int ta)] := hl
  refine lv_aload_n hx hb dX0_jump_0 rfl (lv_at hl 0 rfl) ?_
  refine lv_iload_n hx hb dX0_jump_1 rfl (lv_at hl 1 rfl) ?_
  refine pu_i (v := S0_fieldD wa) (As := [.int wa]) (rest := [.ref h]) ⟨hx, hb, hml, hown, hts⟩ (c0_fieldD l wa ) gX0_jump_X0_fieldD rfl hdX0_fieldD ⟨Nat.le_of_ble_eq_true rfl, Nat.le_of_ble_eq_true rfl⟩ hl.1 rfl (Nat.le_of_ble_eq_true rfl) dX0_jump_2 ⟨Nat.zero_le _, Nat.zero_le _⟩ hP hS (fun H locs hP hS => ?_)
  refine lv_aload_n hx hb dX0_jump_5 rfl (lv_at hl 0 rfl) ?_
  refine va_get (D := D) (ci := 0) (v := .int (W_pc u)) (C := RX0) (T := TX0) (N := 6) hx hb hts iwX0_jump hown hK hP 0 rfl rfl 4 (by decide) (hts (.fieldLink RX0 23 "WordMachine" "pc" "I") flX0_jump_23) (fun _ h9 => h9) rfl dX0_jump_6 ?_
  refine lv_iconst (v := 4) hx hb dX0_jump_9 (by decide) ?_
  refine lv_iadd hx hb dX0_jump_10 ?_
  refine in_v (As := [.int (S0_fieldD wa), .int ((W_pc u) + 4)]) (rest := []) (w1 := ww0 cI h q1 q2 q3 (S0_setRegister (S0_fieldD wa) ((W_pc u) + 4) u)) ⟨hx, hb, hml, hown, hts⟩ (c0_setRegister l hap (S0_fieldD wa) ((W_pc u) + 4) u ) gX0_jump_X0_setRegister rfl hdX0_setRegister ⟨Nat.le_of_ble_eq_true rfl, Nat.le_of_ble_eq_true rfl⟩ hK rfl rfl hl.1 rfl (Nat.le_of_ble_eq_true rfl) dX0_jump_11 ⟨Nat.zero_le _, Nat.zero_le _⟩ hP hS (fun _ h => h) (fun H locs hP hS _ _ => ?_)
  refine lv_aload_n hx hb dX0_jump_14 rfl (lv_at hl 0 rfl) ?_
  refine lv_iload_n hx hb dX0_jump_15 rfl (lv_at hl 2 rfl) ?_
  refine va_put (D := D) (ci := 0) (v := .int ta) (ty := .int) (C := RX0) (T := TX0) (N := 6) hx hb hts iwX0_jump tyX0 tyX0_ok nmX0 hown hK hP (ap4_D hap) hS 0 rfl rfl 4 (by decide) (hts (.fieldLink RX0 23 "WordMachine" "pc" "I") flX0_jump_23) (fun _ h9 => h9) rfl (by decide +kernel) rfl rfl (Nat.le_of_ble_eq_true rfl) dX0_jump_16 (fun H locs hP _ hS => ?_)
  have hP : va_P D vwCl (ww0 cI h q1 q2 q3 (Wp_pc ta (S0_setRegister (S0_fieldD wa) ((W_pc u) + 4) u))) H := hP
  refine lv_iconst (v := 0) hx hb dX0_jump_19 (by decide) ?_
  have e9 : S0_jump wa ta u = ((0 : Int32), Wp_pc ta (S0_setRegister (S0_fieldD wa) ((W_pc u) + 4) u)) := by rw [S0_jump]
  exact W.iret (v := (0 : Int32)) hx hb hr (fun t ht hW => ⟨⟨(0 : Int32), (), rfl, by rw [e9], by show va_P _ _ _ t.heap; rw [e9, ht]; exact hP⟩, hS.F ht⟩) hS.2.2 dX0_jump_20
theorem iwX0_ask : ∀ w ∈ wsX00, w ∈ wsX0_ask := by decide +kernel
theorem flX0_ask_23 : Cond.fieldLink RX0 23 "WordMachine" "pc" "I" ∈ wsX0_ask := by decide +kernel
theorem hdX0_ask : yX0_ask.cls = RX0 ∧ yX0_ask.cls ≠ "java/lang/invoke/MethodHandle" ∧ yX0_ask.cls ≠ "java/lang/invoke/VarHandle" ∧ (parseMethodDescriptor yX0_ask.desc).map (fun d => d.parameters.length) = some 1 := by decide +kernel
set_option maxHeartbeats 4000000 in
set_option maxRecDepth 100000 in
theorem c0_ask (l : Launch) {D : va_G} {cI : ClassId} {h q1 q2 q3 : Nat} (hap : ap4 h q1 q2 q3) (wa : Int32) (u : WS)  : Ini l yX0_ask wsX0_ask 0 0 D (ty0 cI) (wa0 h q1 q2 q3) [.ref h, .int wa] (ww0 cI h q1 q2 q3 u) (ww0 cI h q1 q2 q3 (S0_ask wa u).2) (S0_ask wa u).1 := by
  refine Met.ofW (cc := cX0_ask) (maxL := 2) (ret := (some .int)) (by decide) rfl ?_
  intro p e s m args below meth c s₁ B hml hv
  obtain ⟨rfl, hP, hK⟩ := hv
  have hx := B.exec
  have hb := B.bytes
  have hr := B.returns
  have hts := atoms_spec (ws := wsX0_ask) B.pre
  have hown : s.vm.findClass RX0 = some m.cls := findClass_of_methodNamed B.named
  have hlocks := B.notSynchronized
  have hS : va_S (wa0 h q1 q2 q3) s.heap s.heap [] := va_S.rf
  have hl := lv_entry ([.ref h, .int wa]) (n := 2) (Nat.le_of_ble_eq_true rfl)
  rw [lg_entry_eq]
  generalize (lg_sl ([.ref h, .int wa]) ++ List.replicate (2 - (lg_sl ([.ref h, .int wa])).length) Slot.unset).toArray = ls at hl ⊢
  have hl : lv_has ls 2 [(0, .ref h), (1, .int wa)] := hl
  refine lv_iload_n hx hb dX0_ask_0 rfl (lv_at hl 1 rfl) ?_
  refine lv_bipush (v := 115) hx hb dX0_ask_1 (by decide) ?_
  refine lv_icmp_eq (tgt := 8) hx hb dX0_ask_3 (by decide) (fun (c1 : wa = 115) => ?_) (fun (c1 : ¬ wa = 115) => ?_)
  · refine lv_aload_n hx hb dX0_ask_8 rfl (lv_at hl 0 rfl) ?_
    refine lv_dup hx hb dX0_ask_9 rfl ?_
    refine va_get (D := D) (ci := 0) (v := .int (W_pc u)) (C := RX0) (T := TX0) (N := 6) hx hb hts iwX0_ask hown hK hP 0 rfl rfl 4 (by decide) (hts (.fieldLink RX0 23 "WordMachine" "pc" "I") flX0_ask_23) (fun _ h9 => h9) rfl dX0_ask_10 ?_
    refine lv_iconst (v := 4) hx hb dX0_ask_13 (by decide) ?_
    refine lv_iadd hx hb dX0_ask_14 ?_
    refine va_put (D := D) (ci := 0) (v := .int ((W_pc u) + 4)) (ty := .int) (C := RX0) (T := TX0) (N := 6) hx hb hts iwX0_ask tyX0 tyX0_ok nmX0 hown hK hP (ap4_D hap) hS 0 rfl rfl 4 (by decide) (hts (.fieldLink RX0 23 "WordMachine" "pc" "I") flX0_ask_23) (fun _ h9 => h9) rfl (by decide +kernel) rfl rfl (Nat.le_of_ble_eq_true rfl) dX0_ask_15 (fun H locs hP _ hS => ?_)
    have hP : va_P D vwCl (ww0 cI h q1 q2 q3 (Wp_pc ((W_pc u) + 4) u)) H := hP
    refine lv_iconst (v := 1) hx hb dX0_ask_18 (by decide) ?_
    have e9 : S0_ask wa u = ((1 : Int32), Wp_pc ((W_pc u) + 4) u) := by rw [S0_ask, if_pos c1]
    exact W.iret (v := (1 : Int32)) hx hb hr (fun t ht hW => ⟨⟨(1 : Int32), (), rfl, by rw [e9], by show va_P _ _ _ t.heap; rw [e9, ht]; exact hP⟩, hS.F ht⟩) hS.2.2 dX0_ask_19
  · refine lv_iconst (v := 3) hx hb dX0_ask_6 (by decide) ?_
    have e9 : S0_ask wa u = ((3 : Int32), u) := by rw [S0_ask, if_neg c1]
    exact W.iret (v := (3 : Int32)) hx hb hr (fun t ht hW => ⟨⟨(3 : Int32), (), rfl, by rw [e9], by show va_P _ _ _ t.heap; rw [e9, ht]; exact hP⟩, hS.F ht⟩) hS.2.2 dX0_ask_7
theorem hdX0_jumpToRegister : yX0_jumpToRegister.cls = RX0 ∧ yX0_jumpToRegister.cls ≠ "java/lang/invoke/MethodHandle" ∧ yX0_jumpToRegister.cls ≠ "java/lang/invoke/VarHandle" ∧ (parseMethodDescriptor yX0_jumpToRegister.desc).map (fun d => d.parameters.length) = some 1 := by decide +kernel
set_option maxHeartbeats 4000000 in
set_option maxRecDepth 100000 in
theorem c0_jumpToRegister (l : Launch) {D : va_G} {cI : ClassId} {h q1 q2 q3 : Nat} (hap : ap4 h q1 q2 q3) (wa : Int32) (u : WS)  : Ini l yX0_jumpToRegister wsX0_jumpToRegister 2 44 D (ty0 cI) (wa0 h q1 q2 q3) [.ref h, .int wa] (ww0 cI h q1 q2 q3 u) (ww0 cI h q1 q2 q3 (S0_jumpToRegister wa u).2) (S0_jumpToRegister wa u).1 := by
  refine Met.ofW (cc := cX0_jumpToRegister) (maxL := 2) (ret := (some .int)) (by decide) rfl ?_
  intro p e s m args below meth c s₁ B hml hv
  obtain ⟨rfl, hP, hK⟩ := hv
  have hx := B.exec
  have hb := B.bytes
  have hr := B.returns
  have hts := atoms_spec (ws := wsX0_jumpToRegister) B.pre
  have hown : s.vm.findClass RX0 = some m.cls := findClass_of_methodNamed B.named
  have hlocks := B.notSynchronized
  have hS : va_S (wa0 h q1 q2 q3) s.heap s.heap [] := va_S.rf
  have hl := lv_entry ([.ref h, .int wa]) (n := 2) (Nat.le_of_ble_eq_true rfl)
  rw [lg_entry_eq]
  generalize (lg_sl ([.ref h, .int wa]) ++ List.replicate (2 - (lg_sl ([.ref h, .int wa])).length) Slot.unset).toArray = ls at hl ⊢
  have hl : lv_has ls 2 [(0, .ref h), (1, .int wa)] := hl
  refine lv_iload_n hx hb dX0_jumpToRegister_0 rfl (lv_at hl 1 rfl) ?_
  refine pu_i (v := S0_fieldT wa) (As := [.int wa]) (rest := []) ⟨hx, hb, hml, hown, hts⟩ (c0_fieldT l wa ) gX0_jumpToRegister_X0_fieldT rfl hdX0_fieldT ⟨Nat.le_of_ble_eq_true rfl, Nat.le_of_ble_eq_true rfl⟩ hl.1 rfl (Nat.le_of_ble_eq_true rfl) dX0_jumpToRegister_1 ⟨Nat.zero_le _, Nat.zero_le _⟩ hP hS (fun H locs hP hS => ?_)
  refine lv_if_eq (tgt := 9) hx hb dX0_jumpToRegister_4 (by decide) (fun (c1 : (S0_fieldT wa) = 0) => ?_) (fun (c1 : ¬ (S0_fieldT wa) = 0) => ?_)
  · refine lv_aload_n hx hb dX0_jumpToRegister_9 rfl (lv_at hl 0 rfl) ?_
    refine lv_iload_n hx hb dX0_jumpToRegister_10 rfl (lv_at hl 1 rfl) ?_
    refine lv_aload_n hx hb dX0_jumpToRegister_11 rfl (lv_at hl 0 rfl) ?_
    refine lv_iload_n hx hb dX0_jumpToRegister_12 rfl (lv_at hl 1 rfl) ?_
    refine in_i (v := S0_valueX wa u) (As := [.int wa]) (rest := [.int wa, .ref h]) (w1 := ww0 cI h q1 q2 q3 u) ⟨hx, hb, hml, hown, hts⟩ (c0_valueX l hap wa u ) gX0_jumpToRegister_X0_valueX rfl hdX0_valueX ⟨Nat.le_of_ble_eq_true rfl, Nat.le_of_ble_eq_true rfl⟩ hK rfl rfl hl.1 rfl (Nat.le_of_ble_eq_true rfl) dX0_jumpToRegister_13 ⟨Nat.zero_le _, Nat.zero_le _⟩ hP hS (fun _ h => h) (fun H locs hP hS _ _ => ?_)
    refine lv_iload_n hx hb dX0_jumpToRegister_16 rfl (lv_at hl 1 rfl) ?_
    refine pu_i (v := S0_numberI wa) (As := [.int wa]) (rest := [.int (S0_valueX wa u), .int wa, .ref h]) ⟨hx, hb, hml, hown, hts⟩ (c0_numberI l wa ) gX0_jumpToRegister_X0_numberI rfl hdX0_numberI ⟨Nat.le_of_ble_eq_true rfl, Nat.le_of_ble_eq_true rfl⟩ hl.1 rfl (Nat.le_of_ble_eq_true rfl) dX0_jumpToRegister_17 ⟨Nat.zero_le _, Nat.zero_le _⟩ hP hS (fun H locs hP hS => ?_)
    refine lv_iadd hx hb dX0_jumpToRegister_20 ?_
    refine lv_bipush (v := (-2)) hx hb dX0_jumpToRegister_21 (by decide) ?_
    refine lv_iand hx hb dX0_jumpToRegister_23 ?_
    refine in_i (v := (S0_jump wa (((S0_valueX wa u) + (S0_numberI wa)) &&& (-2)) u).1) (As := [.int wa, .int (((S0_valueX wa u) + (S0_numberI wa)) &&& (-2))]) (rest := []) (w1 := ww0 cI h q1 q2 q3 ((S0_jump wa (((S0_valueX wa u) + (S0_numberI wa)) &&& (-2)) u).2)) ⟨hx, hb, hml, hown, hts⟩ (c0_jump l hap wa (((S0_valueX wa u) + (S0_numberI wa)) &&& (-2)) u ) gX0_jumpToRegister_X0_jump rfl hdX0_jump ⟨Nat.le_of_ble_eq_true rfl, Nat.le_of_ble_eq_true rfl⟩ hK rfl rfl hl.1 rfl (Nat.le_of_ble_eq_true rfl) dX0_jumpToRegister_24 ⟨Nat.zero_le _, Nat.zero_le _⟩ hP hS (fun _ h => h) (fun H locs hP hS _ _ => ?_)
    have e9 : S0_jumpToRegister wa u = ((S0_jump wa (((S0_valueX wa u) + (S0_numberI wa)) &&& (-2)) u).1, (S0_jump wa (((S0_valueX wa u) + (S0_numberI wa)) &&& (-2)) u).2) := by rw [S0_jumpToRegister, if_pos c1]
    exact W.iret (v := (S0_jump wa (((S0_valueX wa u) + (S0_numberI wa)) &&& (-2)) u).1) hx hb hr (fun t ht hW => ⟨⟨(S0_jump wa (((S0_valueX wa u) + (S0_numberI wa)) &&& (-2)) u).1, (), rfl, by rw [e9], by show va_P _ _ _ t.heap; rw [e9, ht]; exact hP⟩, hS.F ht⟩) hS.2.2 dX0_jumpToRegister_27
  · refine lv_iconst (v := 3) hx hb dX0_jumpToRegister_7 (by decide) ?_
    have e9 : S0_jumpToRegister wa u = ((3 : Int32), u) := by rw [S0_jumpToRegister, if_neg c1]
    exact W.iret (v := (3 : Int32)) hx hb hr (fun t ht hW => ⟨⟨(3 : Int32), (), rfl, by rw [e9], by show va_P _ _ _ t.heap; rw [e9, ht]; exact hP⟩, hS.F ht⟩) hS.2.2 dX0_jumpToRegister_8
theorem iwX0_branch : ∀ w ∈ wsX00, w ∈ wsX0_branch := by decide +kernel
theorem flX0_branch_23 : Cond.fieldLink RX0 23 "WordMachine" "pc" "I" ∈ wsX0_branch := by decide +kernel
theorem hdX0_branch : yX0_branch.cls = RX0 ∧ yX0_branch.cls ≠ "java/lang/invoke/MethodHandle" ∧ yX0_branch.cls ≠ "java/lang/invoke/VarHandle" ∧ (parseMethodDescriptor yX0_branch.desc).map (fun d => d.parameters.length) = some 1 := by decide +kernel
set_option maxHeartbeats 4000000 in
set_option maxRecDepth 100000 in
theorem c0_branch (l : Launch) {D : va_G} {cI : ClassId} {h q1 q2 q3 : Nat} (hap : ap4 h q1 q2 q3) (wa : Int32) (u : WS)  : Ini l yX0_branch wsX0_branch 2 42 D (ty0 cI) (wa0 h q1 q2 q3) [.ref h, .int wa] (ww0 cI h q1 q2 q3 u) (ww0 cI h q1 q2 q3 (S0_branch wa u).2) (S0_branch wa u).1 := by
  refine Met.ofW (cc := cX0_branch) (maxL := 3) (ret := (some .int)) (by decide) rfl ?_
  intro p e s m args below meth c s₁ B hml hv
  obtain ⟨rfl, hP, hK⟩ := hv
  have hx := B.exec
  have hb := B.bytes
  have hr := B.returns
  have hts := atoms_spec (ws := wsX0_branch) B.pre
  have hown : s.vm.findClass RX0 = some m.cls := findClass_of_methodNamed B.named
  have hlocks := B.notSynchronized
  have hS : va_S (wa0 h q1 q2 q3) s.heap s.heap [] := va_S.rf
  have hl := lv_entry ([.ref h, .int wa]) (n := 3) (Nat.le_of_ble_eq_true rfl)
  rw [lg_entry_eq]
  generalize (lg_sl ([.ref h, .int wa]) ++ List.replicate (3 - (lg_sl ([.ref h, .int wa])).length) Slot.unset).toArray = ls at hl ⊢
  have hl : lv_has ls 3 [(0, .ref h), (1, .int wa)] := hl
  refine lv_iload_n hx hb dX0_branch_0 rfl (lv_at hl 1 rfl) ?_
  refine pu_i (v := S0_fieldT wa) (As := [.int wa]) (rest := []) ⟨hx, hb, hml, hown, hts⟩ (c0_fieldT l wa ) gX0_branch_X0_fieldT rfl hdX0_fieldT ⟨Nat.le_of_ble_eq_true rfl, Nat.le_of_ble_eq_true rfl⟩ hl.1 rfl (Nat.le_of_ble_eq_true rfl) dX0_branch_1 ⟨Nat.zero_le _, Nat.zero_le _⟩ hP hS (fun H locs hP hS => ?_)
  refine lv_istore_n (lv' := [(2, .int (S0_fieldT wa)), (0, .ref h), (1, .int wa)]) hx hb dX0_branch_4 rfl hl (by decide) rfl (fun ls hl => ?_)
  refine lv_iload_n hx hb dX0_branch_5 rfl (lv_at hl 0 rfl) ?_
  refine lv_iconst (v := 2) hx hb dX0_branch_6 (by decide) ?_
  refine lv_icmp_eq (tgt := 15) hx hb dX0_branch_7 (by decide) (fun (c1 : (S0_fieldT wa) = 2) => ?_) (fun (c1 : ¬ (S0_fieldT wa) = 2) => ?_)
  · refine lv_iconst (v := 3) hx hb dX0_branch_15 (by decide) ?_
    have e9 : S0_branch wa u = ((3 : Int32), u) := by rw [S0_branch, if_pos c1]
    exact W.iret (v := (3 : Int32)) hx hb hr (fun t ht hW => ⟨⟨(3 : Int32), (), rfl, by rw [e9], by show va_P _ _ _ t.heap; rw [e9, ht]; exact hP⟩, hS.F ht⟩) hS.2.2 dX0_branch_16
  · refine lv_iload_n hx hb dX0_branch_10 rfl (lv_at hl 0 rfl) ?_
    refine lv_iconst (v := 3) hx hb dX0_branch_11 (by decide) ?_
    refine lv_icmp_ne (tgt := 17) hx hb dX0_branch_12 (by decide) (fun (c2 : ¬ (S0_fieldT wa) = 3) => ?_) (fun (c2 : (S0_fieldT wa) = 3) => ?_)
    · refine lv_aload_n hx hb dX0_branch_17 rfl (lv_at hl 1 rfl) ?_
      refine lv_dup hx hb dX0_branch_18 rfl ?_
      refine va_get (D := D) (ci := 0) (v := .int (W_pc u)) (C := RX0) (T := TX0) (N := 6) hx hb hts iwX0_branch hown hK hP 0 rfl rfl 4 (by decide) (hts (.fieldLink RX0 23 "WordMachine" "pc" "I") flX0_branch_23) (fun _ h9 => h9) rfl dX0_branch_19 ?_
      refine lv_iload_n hx hb dX0_branch_22 rfl (lv_at hl 0 rfl) ?_
      refine lv_aload_n hx hb dX0_branch_23 rfl (lv_at hl 1 rfl) ?_
      refine lv_iload_n hx hb dX0_branch_24 rfl (lv_at hl 2 rfl) ?_
      refine in_i (v := S0_valueX wa u) (As := [.int wa]) (rest := [.int (S0_fieldT wa), .int (W_pc u), .ref h]) (w1 := ww0 cI h q1 q2 q3 u) ⟨hx, hb, hml, hown, hts⟩ (c0_valueX l hap wa u ) gX0_branch_X0_valueX rfl hdX0_valueX ⟨Nat.le_of_ble_eq_true rfl, Nat.le_of_ble_eq_true rfl⟩ hK rfl rfl hl.1 rfl (Nat.le_of_ble_eq_true rfl) dX0_branch_25 ⟨Nat.zero_le _, Nat.zero_le _⟩ hP hS (fun _ h => h) (fun H locs hP hS _ _ => ?_)
      refine lv_aload_n hx hb dX0_branch_28 rfl (lv_at hl 1 rfl) ?_
      refine lv_iload_n hx hb dX0_branch_29 rfl (lv_at hl 2 rfl) ?_
      refine in_i (v := S0_valueY wa u) (As := [.int wa]) (rest := [.int (S0_valueX wa u), .int (S0_fieldT wa), .int (W_pc u), .ref h]) (w1 := ww0 cI h q1 q2 q3 u) ⟨hx, hb, hml, hown, hts⟩ (c0_valueY l hap wa u ) gX0_branch_X0_valueY rfl hdX0_valueY ⟨Nat.le_of_ble_eq_true rfl, Nat.le_of_ble_eq_true rfl⟩ hK rfl rfl hl.1 rfl (Nat.le_of_ble_eq_true rfl) dX0_branch_30 ⟨Nat.zero_le _, Nat.zero_le _⟩ hP hS (fun _ h => h) (fun H locs hP hS _ _ => ?_)
      refine pu_i (v := S0_holds (S0_fieldT wa) (S0_valueX wa u) (S0_valueY wa u)) (As := [.int (S0_fieldT wa), .int (S0_valueX wa u), .int (S0_valueY wa u)]) (rest := [.int (W_pc u), .ref h]) ⟨hx, hb, hml, hown, hts⟩ (c0_holds l (S0_fieldT wa) (S0_valueX wa u) (S0_valueY wa u) ) gX0_branch_X0_holds rfl hdX0_holds ⟨Nat.le_of_ble_eq_true rfl, Nat.le_of_ble_eq_true rfl⟩ hl.1 rfl (Nat.le_of_ble_eq_true rfl) dX0_branch_33 ⟨Nat.zero_le _, Nat.zero_le _⟩ hP hS (fun H locs hP hS => ?_)
      refine lv_if_eq (tgt := 46) hx hb dX0_branch_36 (by decide) (fun (c3 : (S0_holds (S0_fieldT wa) (S0_valueX wa u) (S0_valueY wa u)) = 0) => ?_) (fun (c3 : ¬ (S0_holds (S0_fieldT wa) (S0_valueX wa u) (S0_valueY wa u)) = 0) => ?_)
      · refine lv_iconst (v := 4) hx hb dX0_branch_46 (by decide) ?_
        refine lv_iadd hx hb dX0_branch_47 ?_
        refine va_put (D := D) (ci := 0) (v := .int ((W_pc u) + 4)) (ty := .int) (C := RX0) (T := TX0) (N := 6) hx hb hts iwX0_branch tyX0 tyX0_ok nmX0 hown hK hP (ap4_D hap) hS 0 rfl rfl 4 (by decide) (hts (.fieldLink RX0 23 "WordMachine" "pc" "I") flX0_branch_23) (fun _ h9 => h9) rfl (by decide +kernel) rfl rfl (Nat.le_of_ble_eq_true rfl) dX0_branch_48 (fun H locs hP _ hS => ?_)
        have hP : va_P D vwCl (ww0 cI h q1 q2 q3 (Wp_pc ((W_pc u) + 4) u)) H := hP
        refine lv_iconst (v := 0) hx hb dX0_branch_51 (by decide) ?_
        have e9 : S0_branch wa u = ((0 : Int32), Wp_pc ((W_pc u) + 4) u) := by rw [S0_branch, if_neg c1, if_neg c2, if_pos c3]
        exact W.iret (v := (0 : Int32)) hx hb hr (fun t ht hW => ⟨⟨(0 : Int32), (), rfl, by rw [e9], by show va_P _ _ _ t.heap; rw [e9, ht]; exact hP⟩, hS.F ht⟩) hS.2.2 dX0_branch_52
      · refine lv_iload_n hx hb dX0_branch_39 rfl (lv_at hl 2 rfl) ?_
        refine pu_i (v := S0_branchDistance wa) (As := [.int wa]) (rest := [.int (W_pc u), .ref h]) ⟨hx, hb, hml, hown, hts⟩ (c0_branchDistance l wa ) gX0_branch_X0_branchDistance rfl hdX0_branchDistance ⟨Nat.le_of_ble_eq_true rfl, Nat.le_of_ble_eq_true rfl⟩ hl.1 rfl (Nat.le_of_ble_eq_true rfl) dX0_branch_40 ⟨Nat.zero_le _, Nat.zero_le _⟩ hP hS (fun H locs hP hS => ?_)
        refine lv_goto (tgt := 47) hx hb dX0_branch_43 (by decide) ?_
        refine lv_iadd hx hb dX0_branch_47 ?_
        refine va_put (D := D) (ci := 0) (v := .int ((W_pc u) + (S0_branchDistance wa))) (ty := .int) (C := RX0) (T := TX0) (N := 6) hx hb hts iwX0_branch tyX0 tyX0_ok nmX0 hown hK hP (ap4_D hap) hS 0 rfl rfl 4 (by decide) (hts (.fieldLink RX0 23 "WordMachine" "pc" "I") flX0_branch_23) (fun _ h9 => h9) rfl (by decide +kernel) rfl rfl (Nat.le_of_ble_eq_true rfl) dX0_branch_48 (fun H locs hP _ hS => ?_)
        have hP : va_P D vwCl (ww0 cI h q1 q2 q3 (Wp_pc ((W_pc u) + (S0_branchDistance wa)) u)) H := hP
        refine lv_iconst (v := 0) hx hb dX0_branch_51 (by decide) ?_
        have e9 : S0_branch wa u = ((0 : Int32), Wp_pc ((W_pc u) + (S0_branchDistance wa)) u) := by rw [S0_branch, if_neg c1, if_neg c2, if_neg c3]
        exact W.iret (v := (0 : Int32)) hx hb hr (fun t ht hW => ⟨⟨(0 : Int32), (), rfl, by rw [e9], by show va_P _ _ _ t.heap; rw [e9, ht]; exact hP⟩, hS.F ht⟩) hS.2.2 dX0_branch_52
    · refine lv_iconst (v := 3) hx hb dX0_branch_15 (by decide) ?_
      have e9 : S0_branch wa u = ((3 : Int32), u) := by rw [S0_branch, if_neg c1, if_pos c2]
      exact W.iret (v := (3 : Int32)) hx hb hr (fun t ht hW => ⟨⟨(3 : Int32), (), rfl, by rw [e9], by show va_P _ _ _ t.heap; rw [e9, ht]; exact hP⟩, hS.F ht⟩) hS.2.2 dX0_branch_16
theorem iwX0_store : ∀ w ∈ wsX00, w ∈ wsX0_store := by decide +kernel
theorem flX0_store_23 : Cond.fieldLink RX0 23 "WordMachine" "pc" "I" ∈ wsX0_store := by decide +kernel
theorem hdX0_store : yX0_store.cls = RX0 ∧ yX0_store.cls ≠ "java/lang/invoke/MethodHandle" ∧ yX0_store.cls ≠ "java/lang/invoke/VarHandle" ∧ (parseMethodDescriptor yX0_store.desc).map (fun d => d.parameters.length) = some 1 := by decide +kernel
set_option maxHeartbeats 4000000 in
set_option maxRecDepth 100000 in
theorem c0_store (l : Launch) {D : va_G} {cI : ClassId} {h q1 q2 q3 : Nat} (hap : ap4 h q1 q2 q3) (wa : Int32) (u : WS)  : Ini l yX0_store wsX0_store 2 44 D (ty0 cI) (wa0 h q1 q2 q3) [.ref h, .int wa] (ww0 cI h q1 q2 q3 u) (ww0 cI h q1 q2 q3 (S0_store wa u).2) (S0_store wa u).1 := by
  refine Met.ofW (cc := cX0_store) (maxL := 4) (ret := (some .int)) (by decide) rfl ?_
  intro p e s m args below meth c s₁ B hml hv
  obtain ⟨rfl, hP, hK⟩ := hv
  have hx := B.exec
  have hb := B.bytes
  have hr := B.returns
  have hts := atoms_spec (ws := wsX0_store) B.pre
  have hown : s.vm.findClass RX0 = some m.cls := findClass_of_methodNamed B.named
  have hlocks := B.notSynchronized
  have hS : va_S (wa0 h q1 q2 q3) s.heap s.heap [] := va_S.rf
  have hl := lv_entry ([.ref h, .int wa]) (n := 4) (Nat.le_of_ble_eq_true rfl)
  rw [lg_entry_eq]
  generalize (lg_sl ([.ref h, .int wa]) ++ List.replicate (4 - (lg_sl ([.ref h, .int wa])).length) Slot.unset).toArray = ls at hl ⊢
  have hl : lv_has ls 4 [(0, .ref h), (1, .int wa)] := hl
  refine lv_iload_n hx hb dX0_store_0 rfl (lv_at hl 1 rfl) ?_
  refine pu_i (v := S0_fieldT wa) (As := [.int wa]) (rest := []) ⟨hx, hb, hml, hown, hts⟩ (c0_fieldT l wa ) gX0_store_X0_fieldT rfl hdX0_fieldT ⟨Nat.le_of_ble_eq_true rfl, Nat.le_of_ble_eq_true rfl⟩ hl.1 rfl (Nat.le_of_ble_eq_true rfl) dX0_store_1 ⟨Nat.zero_le _, Nat.zero_le _⟩ hP hS (fun H locs hP hS => ?_)
  refine lv_istore_n (lv' := [(2, .int (S0_fieldT wa)), (0, .ref h), (1, .int wa)]) hx hb dX0_store_4 rfl hl (by decide) rfl (fun ls hl => ?_)
  refine lv_iload_n hx hb dX0_store_5 rfl (lv_at hl 0 rfl) ?_
  refine lv_iconst (v := 2) hx hb dX0_store_6 (by decide) ?_
  refine lv_icmp_le (tgt := 12) hx hb dX0_store_7 (by decide) (fun (c1 : (S0_fieldT wa) ≤ 2) => ?_) (fun (c1 : ¬ (S0_fieldT wa) ≤ 2) => ?_)
  · refine lv_aload_n hx hb dX0_store_12 rfl (lv_at hl 1 rfl) ?_
    refine lv_iload_n hx hb dX0_store_13 rfl (lv_at hl 2 rfl) ?_
    refine in_i (v := S0_valueX wa u) (As := [.int wa]) (rest := []) (w1 := ww0 cI h q1 q2 q3 u) ⟨hx, hb, hml, hown, hts⟩ (c0_valueX l hap wa u ) gX0_store_X0_valueX rfl hdX0_valueX ⟨Nat.le_of_ble_eq_true rfl, Nat.le_of_ble_eq_true rfl⟩ hK rfl rfl hl.1 rfl (Nat.le_of_ble_eq_true rfl) dX0_store_14 ⟨Nat.zero_le _, Nat.zero_le _⟩ hP hS (fun _ h => h) (fun H locs hP hS _ _ => ?_)
    refine lv_iload_n hx hb dX0_store_17 rfl (lv_at hl 2 rfl) ?_
    refine pu_i (v := S0_storeDistance wa) (As := [.int wa]) (rest := [.int (S0_valueX wa u)]) ⟨hx, hb, hml, hown, hts⟩ (c0_storeDistance l wa ) gX0_store_X0_storeDistance rfl hdX0_storeDistance ⟨Nat.le_of_ble_eq_true rfl, Nat.le_of_ble_eq_true rfl⟩ hl.1 rfl (Nat.le_of_ble_eq_true rfl) dX0_store_18 ⟨Nat.zero_le _, Nat.zero_le _⟩ hP hS (fun H locs hP hS => ?_)
    refine lv_iadd hx hb dX0_store_21 ?_
    refine lv_istore_n (lv' := [(3, .int ((S0_valueX wa u) + (S0_storeDistance wa))), (2, .int (S0_fieldT wa)), (0, .ref h), (1, .int wa)]) hx hb dX0_store_22 rfl hl (by decide) rfl (fun ls hl => ?_)
    refine lv_iload_n hx hb dX0_store_23 rfl (lv_at hl 0 rfl) ?_
    refine lv_iload_n hx hb dX0_store_24 rfl (lv_at hl 1 rfl) ?_
    refine pu_i (v := S0_widthOf (S0_fieldT wa)) (As := [.int (S0_fieldT wa)]) (rest := [.int ((S0_valueX wa u) + (S0_storeDistance wa))]) ⟨hx, hb, hml, hown, hts⟩ (c0_widthOf l (S0_fieldT wa) ) gX0_store_X0_widthOf rfl hdX0_widthOf ⟨Nat.le_of_ble_eq_true rfl, Nat.le_of_ble_eq_true rfl⟩ hl.1 rfl (Nat.le_of_ble_eq_true rfl) dX0_store_25 ⟨Nat.zero_le _, Nat.zero_le _⟩ hP hS (fun H locs hP hS => ?_)
    refine pu_i (v := S0_isAddress ((S0_valueX wa u) + (S0_storeDistance wa)) (S0_widthOf (S0_fieldT wa))) (As := [.int ((S0_valueX wa u) + (S0_storeDistance wa)), .int (S0_widthOf (S0_fieldT wa))]) (rest := []) ⟨hx, hb, hml, hown, hts⟩ (c0_isAddress l ((S0_valueX wa u) + (S0_storeDistance wa)) (S0_widthOf (S0_fieldT wa)) ) gX0_store_X0_isAddress rfl hdX0_isAddress ⟨Nat.le_of_ble_eq_true rfl, Nat.le_of_ble_eq_true rfl⟩ hl.1 rfl (Nat.le_of_ble_eq_true rfl) dX0_store_28 ⟨Nat.zero_le _, Nat.zero_le _⟩ hP hS (fun H locs hP hS => ?_)
    refine lv_if_ne (tgt := 36) hx hb dX0_store_31 (by decide) (fun (c2 : ¬ (S0_isAddress ((S0_valueX wa u) + (S0_storeDistance wa)) (S0_widthOf (S0_fieldT wa))) = 0) => ?_) (fun (c2 : (S0_isAddress ((S0_valueX wa u) + (S0_storeDistance wa)) (S0_widthOf (S0_fieldT wa))) = 0) => ?_)
    · refine lv_aload_n hx hb dX0_store_36 rfl (lv_at hl 2 rfl) ?_
      refine lv_iload_n hx hb dX0_store_37 rfl (lv_at hl 0 rfl) ?_
      refine lv_iload_n hx hb dX0_store_38 rfl (lv_at hl 1 rfl) ?_
      refine pu_i (v := S0_storedBits (S0_fieldT wa)) (As := [.int (S0_fieldT wa)]) (rest := [.int ((S0_valueX wa u) + (S0_storeDistance wa)), .ref h]) ⟨hx, hb, hml, hown, hts⟩ (c0_storedBits l (S0_fieldT wa) ) gX0_store_X0_storedBits rfl hdX0_storedBits ⟨Nat.le_of_ble_eq_true rfl, Nat.le_of_ble_eq_true rfl⟩ hl.1 rfl (Nat.le_of_ble_eq_true rfl) dX0_store_39 ⟨Nat.zero_le _, Nat.zero_le _⟩ hP hS (fun H locs hP hS => ?_)
      refine lv_aload_n hx hb dX0_store_42 rfl (lv_at hl 2 rfl) ?_
      refine lv_iload_n hx hb dX0_store_43 rfl (lv_at hl 3 rfl) ?_
      refine in_i (v := S0_valueY wa u) (As := [.int wa]) (rest := [.int (S0_storedBits (S0_fieldT wa)), .int ((S0_valueX wa u) + (S0_storeDistance wa)), .ref h]) (w1 := ww0 cI h q1 q2 q3 u) ⟨hx, hb, hml, hown, hts⟩ (c0_valueY l hap wa u ) gX0_store_X0_valueY rfl hdX0_valueY ⟨Nat.le_of_ble_eq_true rfl, Nat.le_of_ble_eq_true rfl⟩ hK rfl rfl hl.1 rfl (Nat.le_of_ble_eq_true rfl) dX0_store_44 ⟨Nat.zero_le _, Nat.zero_le _⟩ hP hS (fun _ h => h) (fun H locs hP hS _ _ => ?_)
      refine in_v (As := [.int ((S0_valueX wa u) + (S0_storeDistance wa)), .int (S0_storedBits (S0_fieldT wa)), .int (S0_valueY wa u)]) (rest := []) (w1 := ww0 cI h q1 q2 q3 (S0_replaceBits ((S0_valueX wa u) + (S0_storeDistance wa)) (S0_storedBits (S0_fieldT wa)) (S0_valueY wa u) u)) ⟨hx, hb, hml, hown, hts⟩ (c0_replaceBits l hap ((S0_valueX wa u) + (S0_storeDistance wa)) (S0_storedBits (S0_fieldT wa)) (S0_valueY wa u) u (ix_addrW c2)) gX0_store_X0_replaceBits rfl hdX0_replaceBits ⟨Nat.le_of_ble_eq_true rfl, Nat.le_of_ble_eq_true rfl⟩ hK rfl rfl hl.1 rfl (Nat.le_of_ble_eq_true rfl) dX0_store_47 ⟨Nat.zero_le _, Nat.zero_le _⟩ hP hS (fun _ h => h) (fun H locs hP hS _ _ => ?_)
      refine lv_aload_n hx hb dX0_store_50 rfl (lv_at hl 2 rfl) ?_
      refine lv_dup hx hb dX0_store_51 rfl ?_
      refine va_get (D := D) (ci := 0) (v := .int (W_pc (S0_replaceBits ((S0_valueX wa u) + (S0_storeDistance wa)) (S0_storedBits (S0_fieldT wa)) (S0_valueY wa u) u))) (C := RX0) (T := TX0) (N := 6) hx hb hts iwX0_store hown hK hP 0 rfl rfl 4 (by decide) (hts (.fieldLink RX0 23 "WordMachine" "pc" "I") flX0_store_23) (fun _ h9 => h9) rfl dX0_store_52 ?_
      refine lv_iconst (v := 4) hx hb dX0_store_55 (by decide) ?_
      refine lv_iadd hx hb dX0_store_56 ?_
      refine va_put (D := D) (ci := 0) (v := .int ((W_pc (S0_replaceBits ((S0_valueX wa u) + (S0_storeDistance wa)) (S0_storedBits (S0_fieldT wa)) (S0_valueY wa u) u)) + 4)) (ty := .int) (C := RX0) (T := TX0) (N := 6) hx hb hts iwX0_store tyX0 tyX0_ok nmX0 hown hK hP (ap4_D hap) hS 0 rfl rfl 4 (by decide) (hts (.fieldLink RX0 23 "WordMachine" "pc" "I") flX0_store_23) (fun _ h9 => h9) rfl (by decide +kernel) rfl rfl (Nat.le_of_ble_eq_true rfl) dX0_store_57 (fun H locs hP _ hS => ?_)
      have hP : va_P D vwCl (ww0 cI h q1 q2 q3 (Wp_pc ((W_pc (S0_replaceBits ((S0_valueX wa u) + (S0_storeDistance wa)) (S0_storedBits (S0_fieldT wa)) (S0_valueY wa u) u)) + 4) (S0_replaceBits ((S0_valueX wa u) + (S0_storeDistance wa)) (S0_storedBits (S0_fieldT wa)) (S0_valueY wa u) u))) H := hP
      refine lv_iconst (v := 0) hx hb dX0_store_60 (by decide) ?_
      have e9 : S0_store wa u = ((0 : Int32), Wp_pc ((W_pc (S0_replaceBits ((S0_valueX wa u) + (S0_storeDistance wa)) (S0_storedBits (S0_fieldT wa)) (S0_valueY wa u) u)) + 4) (S0_replaceBits ((S0_valueX wa u) + (S0_storeDistance wa)) (S0_storedBits (S0_fieldT wa)) (S0_valueY wa u) u)) := by rw [S0_store, if_pos c1, if_neg c2]
      exact W.iret (v := (0 : Int32)) hx hb hr (fun t ht hW => ⟨⟨(0 : Int32), (), rfl, by rw [e9], by show va_P _ _ _ t.heap; rw [e9, ht]; exact hP⟩, hS.F ht⟩) hS.2.2 dX0_store_61
    · refine lv_iconst (v := 4) hx hb dX0_store_34 (by decide) ?_
      have e9 : S0_store wa u = ((4 : Int32), u) := by rw [S0_store, if_pos c1, if_pos c2]
      exact W.iret (v := (4 : Int32)) hx hb hr (fun t ht hW => ⟨⟨(4 : Int32), (), rfl, by rw [e9], by show va_P _ _ _ t.heap; rw [e9, ht]; exact hP⟩, hS.F ht⟩) hS.2.2 dX0_store_35
  · refine lv_iconst (v := 3) hx hb dX0_store_10 (by decide) ?_
    have e9 : S0_store wa u = ((3 : Int32), u) := by rw [S0_store, if_neg c1]
    exact W.iret (v := (3 : Int32)) hx hb hr (fun t ht hW => ⟨⟨(3 : Int32), (), rfl, by rw [e9], by show va_P _ _ _ t.heap; rw [e9, ht]; exact hP⟩, hS.F ht⟩) hS.2.2 dX0_store_11
theorem hdX0_load : yX0_load.cls = RX0 ∧ yX0_load.cls ≠ "java/lang/invoke/MethodHandle" ∧ yX0_load.cls ≠ "java/lang/invoke/VarHandle" ∧ (parseMethodDescriptor yX0_load.desc).map (fun d => d.parameters.length) = some 1 := by decide +kernel
set_option maxHeartbeats 4000000 in
set_option maxRecDepth 100000 in
theorem c0_load (l : Launch) {D : va_G} {cI : ClassId} {h q1 q2 q3 : Nat} (hap : ap4 h q1 q2 q3) (wa : Int32) (u : WS)  : Ini l yX0_load wsX0_load 2 44 D (ty0 cI) (wa0 h q1 q2 q3) [.ref h, .int wa] (ww0 cI h q1 q2 q3 u) (ww0 cI h q1 q2 q3 (S0_load wa u).2) (S0_load wa u).1 := by
  refine Met.ofW (cc := cX0_load) (maxL := 4) (ret := (some .int)) (by decide) rfl ?_
  intro p e s m args below meth c s₁ B hml hv
  obtain ⟨rfl, hP, hK⟩ := hv
  have hx := B.exec
  have hb := B.bytes
  have hr := B.returns
  have hts := atoms_spec (ws := wsX0_load) B.pre
  have hown : s.vm.findClass RX0 = some m.cls := findClass_of_methodNamed B.named
  have hlocks := B.notSynchronized
  have hS : va_S (wa0 h q1 q2 q3) s.heap s.heap [] := va_S.rf
  have hl := lv_entry ([.ref h, .int wa]) (n := 4) (Nat.le_of_ble_eq_true rfl)
  rw [lg_entry_eq]
  generalize (lg_sl ([.ref h, .int wa]) ++ List.replicate (4 - (lg_sl ([.ref h, .int wa])).length) Slot.unset).toArray = ls at hl ⊢
  have hl : lv_has ls 4 [(0, .ref h), (1, .int wa)] := hl
  refine lv_iload_n hx hb dX0_load_0 rfl (lv_at hl 1 rfl) ?_
  refine pu_i (v := S0_fieldT wa) (As := [.int wa]) (rest := []) ⟨hx, hb, hml, hown, hts⟩ (c0_fieldT l wa ) gX0_load_X0_fieldT rfl hdX0_fieldT ⟨Nat.le_of_ble_eq_true rfl, Nat.le_of_ble_eq_true rfl⟩ hl.1 rfl (Nat.le_of_ble_eq_true rfl) dX0_load_1 ⟨Nat.zero_le _, Nat.zero_le _⟩ hP hS (fun H locs hP hS => ?_)
  refine lv_istore_n (lv' := [(2, .int (S0_fieldT wa)), (0, .ref h), (1, .int wa)]) hx hb dX0_load_4 rfl hl (by decide) rfl (fun ls hl => ?_)
  refine lv_iload_n hx hb dX0_load_5 rfl (lv_at hl 0 rfl) ?_
  refine lv_iconst (v := 3) hx hb dX0_load_6 (by decide) ?_
  refine lv_icmp_eq (tgt := 15) hx hb dX0_load_7 (by decide) (fun (c1 : (S0_fieldT wa) = 3) => ?_) (fun (c1 : ¬ (S0_fieldT wa) = 3) => ?_)
  · refine lv_iconst (v := 3) hx hb dX0_load_15 (by decide) ?_
    have e9 : S0_load wa u = ((3 : Int32), u) := by rw [S0_load, if_pos c1]
    exact W.iret (v := (3 : Int32)) hx hb hr (fun t ht hW => ⟨⟨(3 : Int32), (), rfl, by rw [e9], by show va_P _ _ _ t.heap; rw [e9, ht]; exact hP⟩, hS.F ht⟩) hS.2.2 dX0_load_16
  · refine lv_iload_n hx hb dX0_load_10 rfl (lv_at hl 0 rfl) ?_
    refine lv_iconst (v := 5) hx hb dX0_load_11 (by decide) ?_
    refine lv_icmp_le (tgt := 17) hx hb dX0_load_12 (by decide) (fun (c2 : (S0_fieldT wa) ≤ 5) => ?_) (fun (c2 : ¬ (S0_fieldT wa) ≤ 5) => ?_)
    · refine lv_aload_n hx hb dX0_load_17 rfl (lv_at hl 1 rfl) ?_
      refine lv_iload_n hx hb dX0_load_18 rfl (lv_at hl 2 rfl) ?_
      refine in_i (v := S0_valueX wa u) (As := [.int wa]) (rest := []) (w1 := ww0 cI h q1 q2 q3 u) ⟨hx, hb, hml, hown, hts⟩ (c0_valueX l hap wa u ) gX0_load_X0_valueX rfl hdX0_valueX ⟨Nat.le_of_ble_eq_true rfl, Nat.le_of_ble_eq_true rfl⟩ hK rfl rfl hl.1 rfl (Nat.le_of_ble_eq_true rfl) dX0_load_19 ⟨Nat.zero_le _, Nat.zero_le _⟩ hP hS (fun _ h => h) (fun H locs hP hS _ _ => ?_)
      refine lv_iload_n hx hb dX0_load_22 rfl (lv_at hl 2 rfl) ?_
      refine pu_i (v := S0_numberI wa) (As := [.int wa]) (rest := [.int (S0_valueX wa u)]) ⟨hx, hb, hml, hown, hts⟩ (c0_numberI l wa ) gX0_load_X0_numberI rfl hdX0_numberI ⟨Nat.le_of_ble_eq_true rfl, Nat.le_of_ble_eq_true rfl⟩ hl.1 rfl (Nat.le_of_ble_eq_true rfl) dX0_load_23 ⟨Nat.zero_le _, Nat.zero_le _⟩ hP hS (fun H locs hP hS => ?_)
      refine lv_iadd hx hb dX0_load_26 ?_
      refine lv_istore_n (lv' := [(3, .int ((S0_valueX wa u) + (S0_numberI wa))), (2, .int (S0_fieldT wa)), (0, .ref h), (1, .int wa)]) hx hb dX0_load_27 rfl hl (by decide) rfl (fun ls hl => ?_)
      refine lv_iload_n hx hb dX0_load_28 rfl (lv_at hl 0 rfl) ?_
      refine lv_iload_n hx hb dX0_load_29 rfl (lv_at hl 1 rfl) ?_
      refine pu_i (v := S0_widthOf (S0_fieldT wa)) (As := [.int (S0_fieldT wa)]) (rest := [.int ((S0_valueX wa u) + (S0_numberI wa))]) ⟨hx, hb, hml, hown, hts⟩ (c0_widthOf l (S0_fieldT wa) ) gX0_load_X0_widthOf rfl hdX0_widthOf ⟨Nat.le_of_ble_eq_true rfl, Nat.le_of_ble_eq_true rfl⟩ hl.1 rfl (Nat.le_of_ble_eq_true rfl) dX0_load_30 ⟨Nat.zero_le _, Nat.zero_le _⟩ hP hS (fun H locs hP hS => ?_)
      refine pu_i (v := S0_isAddress ((S0_valueX wa u) + (S0_numberI wa)) (S0_widthOf (S0_fieldT wa))) (As := [.int ((S0_valueX wa u) + (S0_numberI wa)), .int (S0_widthOf (S0_fieldT wa))]) (rest := []) ⟨hx, hb, hml, hown, hts⟩ (c0_isAddress l ((S0_valueX wa u) + (S0_numberI wa)) (S0_widthOf (S0_fieldT wa)) ) gX0_load_X0_isAddress rfl hdX0_isAddress ⟨Nat.le_of_ble_eq_true rfl, Nat.le_of_ble_eq_true rfl⟩ hl.1 rfl (Nat.le_of_ble_eq_true rfl) dX0_load_33 ⟨Nat.zero_le _, Nat.zero_le _⟩ hP hS (fun H locs hP hS => ?_)
      refine lv_if_ne (tgt := 41) hx hb dX0_load_36 (by decide) (fun (c3 : ¬ (S0_isAddress ((S0_valueX wa u) + (S0_numberI wa)) (S0_widthOf (S0_fieldT wa))) = 0) => ?_) (fun (c3 : (S0_isAddress ((S0_valueX wa u) + (S0_numberI wa)) (S0_widthOf (S0_fieldT wa))) = 0) => ?_)
      · refine lv_aload_n hx hb dX0_load_41 rfl (lv_at hl 2 rfl) ?_
        refine lv_iload_n hx hb dX0_load_42 rfl (lv_at hl 3 rfl) ?_
        refine lv_iload_n hx hb dX0_load_43 rfl (lv_at hl 1 rfl) ?_
        refine lv_aload_n hx hb dX0_load_44 rfl (lv_at hl 2 rfl) ?_
        refine lv_iload_n hx hb dX0_load_45 rfl (lv_at hl 0 rfl) ?_
        refine in_i (v := S0_bitsFrom ((S0_valueX wa u) + (S0_numberI wa)) u) (As := [.int ((S0_valueX wa u) + (S0_numberI wa))]) (rest := [.int (S0_fieldT wa), .int wa, .ref h]) (w1 := ww0 cI h q1 q2 q3 u) ⟨hx, hb, hml, hown, hts⟩ (c0_bitsFrom l hap ((S0_valueX wa u) + (S0_numberI wa)) u (ix_addrW c3)) gX0_load_X0_bitsFrom rfl hdX0_bitsFrom ⟨Nat.le_of_ble_eq_true rfl, Nat.le_of_ble_eq_true rfl⟩ hK rfl rfl hl.1 rfl (Nat.le_of_ble_eq_true rfl) dX0_load_46 ⟨Nat.zero_le _, Nat.zero_le _⟩ hP hS (fun _ h => h) (fun H locs hP hS _ _ => ?_)
        refine pu_i (v := S0_loaded (S0_fieldT wa) (S0_bitsFrom ((S0_valueX wa u) + (S0_numberI wa)) u)) (As := [.int (S0_fieldT wa), .int (S0_bitsFrom ((S0_valueX wa u) + (S0_numberI wa)) u)]) (rest := [.int wa, .ref h]) ⟨hx, hb, hml, hown, hts⟩ (c0_loaded l (S0_fieldT wa) (S0_bitsFrom ((S0_valueX wa u) + (S0_numberI wa)) u) ) gX0_load_X0_loaded rfl hdX0_loaded ⟨Nat.le_of_ble_eq_true rfl, Nat.le_of_ble_eq_true rfl⟩ hl.1 rfl (Nat.le_of_ble_eq_true rfl) dX0_load_49 ⟨Nat.zero_le _, Nat.zero_le _⟩ hP hS (fun H locs hP hS => ?_)
        refine in_i (v := (S0_tell wa (S0_loaded (S0_fieldT wa) (S0_bitsFrom ((S0_valueX wa u) + (S0_numberI wa)) u)) u).1) (As := [.int wa, .int (S0_loaded (S0_fieldT wa) (S0_bitsFrom ((S0_valueX wa u) + (S0_numberI wa)) u))]) (rest := []) (w1 := ww0 cI h q1 q2 q3 ((S0_tell wa (S0_loaded (S0_fieldT wa) (S0_bitsFrom ((S0_valueX wa u) + (S0_numberI wa)) u)) u).2)) ⟨hx, hb, hml, hown, hts⟩ (c0_tell l hap wa (S0_loaded (S0_fieldT wa) (S0_bitsFrom ((S0_valueX wa u) + (S0_numberI wa)) u)) u ) gX0_load_X0_tell rfl hdX0_tell ⟨Nat.le_of_ble_eq_true rfl, Nat.le_of_ble_eq_true rfl⟩ hK rfl rfl hl.1 rfl (Nat.le_of_ble_eq_true rfl) dX0_load_52 ⟨Nat.zero_le _, Nat.zero_le _⟩ hP hS (fun _ h => h) (fun H locs hP hS _ _ => ?_)
        have e9 : S0_load wa u = ((S0_tell wa (S0_loaded (S0_fieldT wa) (S0_bitsFrom ((S0_valueX wa u) + (S0_numberI wa)) u)) u).1, (S0_tell wa (S0_loaded (S0_fieldT wa) (S0_bitsFrom ((S0_valueX wa u) + (S0_numberI wa)) u)) u).2) := by rw [S0_load, if_neg c1, if_pos c2, if_neg c3]
        exact W.iret (v := (S0_tell wa (S0_loaded (S0_fieldT wa) (S0_bitsFrom ((S0_valueX wa u) + (S0_numberI wa)) u)) u).1) hx hb hr (fun t ht hW => ⟨⟨(S0_tell wa (S0_loaded (S0_fieldT wa) (S0_bitsFrom ((S0_valueX wa u) + (S0_numberI wa)) u)) u).1, (), rfl, by rw [e9], by show va_P _ _ _ t.heap; rw [e9, ht]; exact hP⟩, hS.F ht⟩) hS.2.2 dX0_load_55
      · refine lv_iconst (v := 4) hx hb dX0_load_39 (by decide) ?_
        have e9 : S0_load wa u = ((4 : Int32), u) := by rw [S0_load, if_neg c1, if_pos c2, if_pos c3]
        exact W.iret (v := (4 : Int32)) hx hb hr (fun t ht hW => ⟨⟨(4 : Int32), (), rfl, by rw [e9], by show va_P _ _ _ t.heap; rw [e9, ht]; exact hP⟩, hS.F ht⟩) hS.2.2 dX0_load_40
    · refine lv_iconst (v := 3) hx hb dX0_load_15 (by decide) ?_
      have e9 : S0_load wa u = ((3 : Int32), u) := by rw [S0_load, if_neg c1, if_neg c2]
      exact W.iret (v := (3 : Int32)) hx hb hr (fun t ht hW => ⟨⟨(3 : Int32), (), rfl, by rw [e9], by show va_P _ _ _ t.heap; rw [e9, ht]; exact hP⟩, hS.F ht⟩) hS.2.2 dX0_load_16
theorem hdX0_calculateWithNumber : yX0_calculateWithNumber.cls = RX0 ∧ yX0_calculateWithNumber.cls ≠ "java/lang/invoke/MethodHandle" ∧ yX0_calculateWithNumber.cls ≠ "java/lang/invoke/VarHandle" ∧ (parseMethodDescriptor yX0_calculateWithNumber.desc).map (fun d => d.parameters.length) = some 1 := by decide +kernel
set_option maxHeartbeats 4000000 in
set_option maxRecDepth 100000 in
theorem c0_calculateWithNumber (l : Launch) {D : va_G} {cI : ClassId} {h q1 q2 q3 : Nat} (hap : ap4 h q1 q2 q3) (wa : Int32) (u : WS)  : Ini l yX0_calculateWithNumber wsX0_calculateWithNumber 2 44 D (ty0 cI) (wa0 h q1 q2 q3) [.ref h, .int wa] (ww0 cI h q1 q2 q3 u) (ww0 cI h q1 q2 q3 (S0_calculateWithNumber wa u).2) (S0_calculateWithNumber wa u).1 := by
  refine Met.ofW (cc := cX0_calculateWithNumber) (maxL := 4) (ret := (some .int)) (by decide) rfl ?_
  intro p e s m args below meth c s₁ B hml hv
  obtain ⟨rfl, hP, hK⟩ := hv
  have hx := B.exec
  have hb := B.bytes
  have hr := B.returns
  have hts := atoms_spec (ws := wsX0_calculateWithNumber) B.pre
  have hown : s.vm.findClass RX0 = some m.cls := findClass_of_methodNamed B.named
  have hlocks := B.notSynchronized
  have hS : va_S (wa0 h q1 q2 q3) s.heap s.heap [] := va_S.rf
  have hl := lv_entry ([.ref h, .int wa]) (n := 4) (Nat.le_of_ble_eq_true rfl)
  rw [lg_entry_eq]
  generalize (lg_sl ([.ref h, .int wa]) ++ List.replicate (4 - (lg_sl ([.ref h, .int wa])).length) Slot.unset).toArray = ls at hl ⊢
  have hl : lv_has ls 4 [(0, .ref h), (1, .int wa)] := hl
  refine lv_iload_n hx hb dX0_calculateWithNumber_0 rfl (lv_at hl 1 rfl) ?_
  refine pu_i (v := S0_fieldT wa) (As := [.int wa]) (rest := []) ⟨hx, hb, hml, hown, hts⟩ (c0_fieldT l wa ) gX0_calculateWithNumber_X0_fieldT rfl hdX0_fieldT ⟨Nat.le_of_ble_eq_true rfl, Nat.le_of_ble_eq_true rfl⟩ hl.1 rfl (Nat.le_of_ble_eq_true rfl) dX0_calculateWithNumber_1 ⟨Nat.zero_le _, Nat.zero_le _⟩ hP hS (fun H locs hP hS => ?_)
  refine lv_istore_n (lv' := [(2, .int (S0_fieldT wa)), (0, .ref h), (1, .int wa)]) hx hb dX0_calculateWithNumber_4 rfl hl (by decide) rfl (fun ls hl => ?_)
  refine lv_iload_n hx hb dX0_calculateWithNumber_5 rfl (lv_at hl 0 rfl) ?_
  refine lv_iconst (v := 1) hx hb dX0_calculateWithNumber_6 (by decide) ?_
  refine lv_icmp_eq (tgt := 34) hx hb dX0_calculateWithNumber_7 (by decide) (fun (c1 : (S0_fieldT wa) = 1) => ?_) (fun (c1 : ¬ (S0_fieldT wa) = 1) => ?_)
  · refine lv_iload_n hx hb dX0_calculateWithNumber_34 rfl (lv_at hl 2 rfl) ?_
    refine pu_i (v := S0_fieldS wa) (As := [.int wa]) (rest := []) ⟨hx, hb, hml, hown, hts⟩ (c0_fieldS l wa ) gX0_calculateWithNumber_X0_fieldS rfl hdX0_fieldS ⟨Nat.le_of_ble_eq_true rfl, Nat.le_of_ble_eq_true rfl⟩ hl.1 rfl (Nat.le_of_ble_eq_true rfl) dX0_calculateWithNumber_35 ⟨Nat.zero_le _, Nat.zero_le _⟩ hP hS (fun H locs hP hS => ?_)
    refine lv_istore_n (lv' := [(3, .int (S0_fieldS wa)), (2, .int (S0_fieldT wa)), (0, .ref h), (1, .int wa)]) hx hb dX0_calculateWithNumber_38 rfl hl (by decide) rfl (fun ls hl => ?_)
    refine lv_iload_n hx hb dX0_calculateWithNumber_39 rfl (lv_at hl 0 rfl) ?_
    refine lv_if_ne (tgt := 62) hx hb dX0_calculateWithNumber_40 (by decide) (fun (c2 : ¬ (S0_fieldS wa) = 0) => ?_) (fun (c2 : (S0_fieldS wa) = 0) => ?_)
    · refine lv_iload_n hx hb dX0_calculateWithNumber_62 rfl (lv_at hl 0 rfl) ?_
      refine lv_bipush (v := 32) hx hb dX0_calculateWithNumber_63 (by decide) ?_
      refine lv_icmp_ne (tgt := 91) hx hb dX0_calculateWithNumber_65 (by decide) (fun (c3 : ¬ (S0_fieldS wa) = 32) => ?_) (fun (c3 : (S0_fieldS wa) = 32) => ?_)
      · refine lv_iconst (v := 3) hx hb dX0_calculateWithNumber_91 (by decide) ?_
        have e9 : S0_calculateWithNumber wa u = ((3 : Int32), u) := by rw [S0_calculateWithNumber, if_pos c1, if_neg c2, if_neg c3]
        exact W.iret (v := (3 : Int32)) hx hb hr (fun t ht hW => ⟨⟨(3 : Int32), (), rfl, by rw [e9], by show va_P _ _ _ t.heap; rw [e9, ht]; exact hP⟩, hS.F ht⟩) hS.2.2 dX0_calculateWithNumber_92
      · refine lv_iload_n hx hb dX0_calculateWithNumber_68 rfl (lv_at hl 1 rfl) ?_
        refine lv_iconst (v := 5) hx hb dX0_calculateWithNumber_69 (by decide) ?_
        refine lv_icmp_ne (tgt := 91) hx hb dX0_calculateWithNumber_70 (by decide) (fun (c4 : ¬ (S0_fieldT wa) = 5) => ?_) (fun (c4 : (S0_fieldT wa) = 5) => ?_)
        · refine lv_iconst (v := 3) hx hb dX0_calculateWithNumber_91 (by decide) ?_
          have e9 : S0_calculateWithNumber wa u = ((3 : Int32), u) := by rw [S0_calculateWithNumber, if_pos c1, if_neg c2, if_pos c3, if_neg c4]
          exact W.iret (v := (3 : Int32)) hx hb hr (fun t ht hW => ⟨⟨(3 : Int32), (), rfl, by rw [e9], by show va_P _ _ _ t.heap; rw [e9, ht]; exact hP⟩, hS.F ht⟩) hS.2.2 dX0_calculateWithNumber_92
        · refine lv_aload_n hx hb dX0_calculateWithNumber_73 rfl (lv_at hl 2 rfl) ?_
          refine lv_iload_n hx hb dX0_calculateWithNumber_74 rfl (lv_at hl 3 rfl) ?_
          refine lv_aload_n hx hb dX0_calculateWithNumber_75 rfl (lv_at hl 2 rfl) ?_
          refine lv_iload_n hx hb dX0_calculateWithNumber_76 rfl (lv_at hl 3 rfl) ?_
          refine in_i (v := S0_valueX wa u) (As := [.int wa]) (rest := [.int wa, .ref h]) (w1 := ww0 cI h q1 q2 q3 u) ⟨hx, hb, hml, hown, hts⟩ (c0_valueX l hap wa u ) gX0_calculateWithNumber_X0_valueX rfl hdX0_valueX ⟨Nat.le_of_ble_eq_true rfl, Nat.le_of_ble_eq_true rfl⟩ hK rfl rfl hl.1 rfl (Nat.le_of_ble_eq_true rfl) dX0_calculateWithNumber_77 ⟨Nat.zero_le _, Nat.zero_le _⟩ hP hS (fun _ h => h) (fun H locs hP hS _ _ => ?_)
          refine lv_iload_n hx hb dX0_calculateWithNumber_80 rfl (lv_at hl 3 rfl) ?_
          refine pu_i (v := S0_fieldY wa) (As := [.int wa]) (rest := [.int (S0_valueX wa u), .int wa, .ref h]) ⟨hx, hb, hml, hown, hts⟩ (c0_fieldY l wa ) gX0_calculateWithNumber_X0_fieldY rfl hdX0_fieldY ⟨Nat.le_of_ble_eq_true rfl, Nat.le_of_ble_eq_true rfl⟩ hl.1 rfl (Nat.le_of_ble_eq_true rfl) dX0_calculateWithNumber_81 ⟨Nat.zero_le _, Nat.zero_le _⟩ hP hS (fun H locs hP hS => ?_)
          refine pu_i (v := S0_movedRightWithSign (S0_valueX wa u) (S0_fieldY wa)) (As := [.int (S0_valueX wa u), .int (S0_fieldY wa)]) (rest := [.int wa, .ref h]) ⟨hx, hb, hml, hown, hts⟩ (c0_movedRightWithSign l (S0_valueX wa u) (S0_fieldY wa) ) gX0_calculateWithNumber_X0_movedRightWithSign rfl hdX0_movedRightWithSign ⟨Nat.le_of_ble_eq_true rfl, Nat.le_of_ble_eq_true rfl⟩ hl.1 rfl (Nat.le_of_ble_eq_true rfl) dX0_calculateWithNumber_84 ⟨Nat.zero_le _, Nat.zero_le _⟩ hP hS (fun H locs hP hS => ?_)
          refine in_i (v := (S0_tell wa (S0_movedRightWithSign (S0_valueX wa u) (S0_fieldY wa)) u).1) (As := [.int wa, .int (S0_movedRightWithSign (S0_valueX wa u) (S0_fieldY wa))]) (rest := []) (w1 := ww0 cI h q1 q2 q3 ((S0_tell wa (S0_movedRightWithSign (S0_valueX wa u) (S0_fieldY wa)) u).2)) ⟨hx, hb, hml, hown, hts⟩ (c0_tell l hap wa (S0_movedRightWithSign (S0_valueX wa u) (S0_fieldY wa)) u ) gX0_calculateWithNumber_X0_tell rfl hdX0_tell ⟨Nat.le_of_ble_eq_true rfl, Nat.le_of_ble_eq_true rfl⟩ hK rfl rfl hl.1 rfl (Nat.le_of_ble_eq_true rfl) dX0_calculateWithNumber_87 ⟨Nat.zero_le _, Nat.zero_le _⟩ hP hS (fun _ h => h) (fun H locs hP hS _ _ => ?_)
          have e9 : S0_calculateWithNumber wa u = ((S0_tell wa (S0_movedRightWithSign (S0_valueX wa u) (S0_fieldY wa)) u).1, (S0_tell wa (S0_movedRightWithSign (S0_valueX wa u) (S0_fieldY wa)) u).2) := by rw [S0_calculateWithNumber, if_pos c1, if_neg c2, if_pos c3, if_pos c4]
          exact W.iret (v := (S0_tell wa (S0_movedRightWithSign (S0_valueX wa u) (S0_fieldY wa)) u).1) hx hb hr (fun t ht hW => ⟨⟨(S0_tell wa (S0_movedRightWithSign (S0_valueX wa u) (S0_fieldY wa)) u).1, (), rfl, by rw [e9], by show va_P _ _ _ t.heap; rw [e9, ht]; exact hP⟩, hS.F ht⟩) hS.2.2 dX0_calculateWithNumber_90
    · refine lv_aload_n hx hb dX0_calculateWithNumber_43 rfl (lv_at hl 2 rfl) ?_
      refine lv_iload_n hx hb dX0_calculateWithNumber_44 rfl (lv_at hl 3 rfl) ?_
      refine lv_iload_n hx hb dX0_calculateWithNumber_45 rfl (lv_at hl 1 rfl) ?_
      refine lv_aload_n hx hb dX0_calculateWithNumber_46 rfl (lv_at hl 2 rfl) ?_
      refine lv_iload_n hx hb dX0_calculateWithNumber_47 rfl (lv_at hl 3 rfl) ?_
      refine in_i (v := S0_valueX wa u) (As := [.int wa]) (rest := [.int (S0_fieldT wa), .int wa, .ref h]) (w1 := ww0 cI h q1 q2 q3 u) ⟨hx, hb, hml, hown, hts⟩ (c0_valueX l hap wa u ) gX0_calculateWithNumber_X0_valueX rfl hdX0_valueX ⟨Nat.le_of_ble_eq_true rfl, Nat.le_of_ble_eq_true rfl⟩ hK rfl rfl hl.1 rfl (Nat.le_of_ble_eq_true rfl) dX0_calculateWithNumber_48 ⟨Nat.zero_le _, Nat.zero_le _⟩ hP hS (fun _ h => h) (fun H locs hP hS _ _ => ?_)
      refine lv_iload_n hx hb dX0_calculateWithNumber_51 rfl (lv_at hl 3 rfl) ?_
      refine pu_i (v := S0_fieldY wa) (As := [.int wa]) (rest := [.int (S0_valueX wa u), .int (S0_fieldT wa), .int wa, .ref h]) ⟨hx, hb, hml, hown, hts⟩ (c0_fieldY l wa ) gX0_calculateWithNumber_X0_fieldY rfl hdX0_fieldY ⟨Nat.le_of_ble_eq_true rfl, Nat.le_of_ble_eq_true rfl⟩ hl.1 rfl (Nat.le_of_ble_eq_true rfl) dX0_calculateWithNumber_52 ⟨Nat.zero_le _, Nat.zero_le _⟩ hP hS (fun H locs hP hS => ?_)
      refine pu_i (v := S0_plain (S0_fieldT wa) (S0_valueX wa u) (S0_fieldY wa)) (As := [.int (S0_fieldT wa), .int (S0_valueX wa u), .int (S0_fieldY wa)]) (rest := [.int wa, .ref h]) ⟨hx, hb, hml, hown, hts⟩ (c0_plain l (S0_fieldT wa) (S0_valueX wa u) (S0_fieldY wa) ) gX0_calculateWithNumber_X0_plain rfl hdX0_plain ⟨Nat.le_of_ble_eq_true rfl, Nat.le_of_ble_eq_true rfl⟩ hl.1 rfl (Nat.le_of_ble_eq_true rfl) dX0_calculateWithNumber_55 ⟨Nat.zero_le _, Nat.zero_le _⟩ hP hS (fun H locs hP hS => ?_)
      refine in_i (v := (S0_tell wa (S0_plain (S0_fieldT wa) (S0_valueX wa u) (S0_fieldY wa)) u).1) (As := [.int wa, .int (S0_plain (S0_fieldT wa) (S0_valueX wa u) (S0_fieldY wa))]) (rest := []) (w1 := ww0 cI h q1 q2 q3 ((S0_tell wa (S0_plain (S0_fieldT wa) (S0_valueX wa u) (S0_fieldY wa)) u).2)) ⟨hx, hb, hml, hown, hts⟩ (c0_tell l hap wa (S0_plain (S0_fieldT wa) (S0_valueX wa u) (S0_fieldY wa)) u ) gX0_calculateWithNumber_X0_tell rfl hdX0_tell ⟨Nat.le_of_ble_eq_true rfl, Nat.le_of_ble_eq_true rfl⟩ hK rfl rfl hl.1 rfl (Nat.le_of_ble_eq_true rfl) dX0_calculateWithNumber_58 ⟨Nat.zero_le _, Nat.zero_le _⟩ hP hS (fun _ h => h) (fun H locs hP hS _ _ => ?_)
      have e9 : S0_calculateWithNumber wa u = ((S0_tell wa (S0_plain (S0_fieldT wa) (S0_valueX wa u) (S0_fieldY wa)) u).1, (S0_tell wa (S0_plain (S0_fieldT wa) (S0_valueX wa u) (S0_fieldY wa)) u).2) := by rw [S0_calculateWithNumber, if_pos c1, if_pos c2]
      exact W.iret (v := (S0_tell wa (S0_plain (S0_fieldT wa) (S0_valueX wa u) (S0_fieldY wa)) u).1) hx hb hr (fun t ht hW => ⟨⟨(S0_tell wa (S0_plain (S0_fieldT wa) (S0_valueX wa u) (S0_fieldY wa)) u).1, (), rfl, by rw [e9], by show va_P _ _ _ t.heap; rw [e9, ht]; exact hP⟩, hS.F ht⟩) hS.2.2 dX0_calculateWithNumber_61
  · refine lv_iload_n hx hb dX0_calculateWithNumber_10 rfl (lv_at hl 0 rfl) ?_
    refine lv_iconst (v := 5) hx hb dX0_calculateWithNumber_11 (by decide) ?_
    refine lv_icmp_eq (tgt := 34) hx hb dX0_calculateWithNumber_12 (by decide) (fun (c5 : (S0_fieldT wa) = 5) => ?_) (fun (c5 : ¬ (S0_fieldT wa) = 5) => ?_)
    · refine lv_iload_n hx hb dX0_calculateWithNumber_34 rfl (lv_at hl 2 rfl) ?_
      refine pu_i (v := S0_fieldS wa) (As := [.int wa]) (rest := []) ⟨hx, hb, hml, hown, hts⟩ (c0_fieldS l wa ) gX0_calculateWithNumber_X0_fieldS rfl hdX0_fieldS ⟨Nat.le_of_ble_eq_true rfl, Nat.le_of_ble_eq_true rfl⟩ hl.1 rfl (Nat.le_of_ble_eq_true rfl) dX0_calculateWithNumber_35 ⟨Nat.zero_le _, Nat.zero_le _⟩ hP hS (fun H locs hP hS => ?_)
      refine lv_istore_n (lv' := [(3, .int (S0_fieldS wa)), (2, .int (S0_fieldT wa)), (0, .ref h), (1, .int wa)]) hx hb dX0_calculateWithNumber_38 rfl hl (by decide) rfl (fun ls hl => ?_)
      refine lv_iload_n hx hb dX0_calculateWithNumber_39 rfl (lv_at hl 0 rfl) ?_
      refine lv_if_ne (tgt := 62) hx hb dX0_calculateWithNumber_40 (by decide) (fun (c6 : ¬ (S0_fieldS wa) = 0) => ?_) (fun (c6 : (S0_fieldS wa) = 0) => ?_)
      · refine lv_iload_n hx hb dX0_calculateWithNumber_62 rfl (lv_at hl 0 rfl) ?_
        refine lv_bipush (v := 32) hx hb dX0_calculateWithNumber_63 (by decide) ?_
        refine lv_icmp_ne (tgt := 91) hx hb dX0_calculateWithNumber_65 (by decide) (fun (c7 : ¬ (S0_fieldS wa) = 32) => ?_) (fun (c7 : (S0_fieldS wa) = 32) => ?_)
        · refine lv_iconst (v := 3) hx hb dX0_calculateWithNumber_91 (by decide) ?_
          have e9 : S0_calculateWithNumber wa u = ((3 : Int32), u) := by rw [S0_calculateWithNumber, if_neg c1, if_pos c5, if_neg c6, if_neg c7]
          exact W.iret (v := (3 : Int32)) hx hb hr (fun t ht hW => ⟨⟨(3 : Int32), (), rfl, by rw [e9], by show va_P _ _ _ t.heap; rw [e9, ht]; exact hP⟩, hS.F ht⟩) hS.2.2 dX0_calculateWithNumber_92
        · refine lv_iload_n hx hb dX0_calculateWithNumber_68 rfl (lv_at hl 1 rfl) ?_
          refine lv_iconst (v := 5) hx hb dX0_calculateWithNumber_69 (by decide) ?_
          refine lv_icmp_ne (tgt := 91) hx hb dX0_calculateWithNumber_70 (by decide) (fun (c8 : ¬ (S0_fieldT wa) = 5) => ?_) (fun (c8 : (S0_fieldT wa) = 5) => ?_)
          · refine lv_iconst (v := 3) hx hb dX0_calculateWithNumber_91 (by decide) ?_
            have e9 : S0_calculateWithNumber wa u = ((3 : Int32), u) := by rw [S0_calculateWithNumber, if_neg c1, if_pos c5, if_neg c6, if_pos c7, if_neg c8]
            exact W.iret (v := (3 : Int32)) hx hb hr (fun t ht hW => ⟨⟨(3 : Int32), (), rfl, by rw [e9], by show va_P _ _ _ t.heap; rw [e9, ht]; exact hP⟩, hS.F ht⟩) hS.2.2 dX0_calculateWithNumber_92
          · refine lv_aload_n hx hb dX0_calculateWithNumber_73 rfl (lv_at hl 2 rfl) ?_
            refine lv_iload_n hx hb dX0_calculateWithNumber_74 rfl (lv_at hl 3 rfl) ?_
            refine lv_aload_n hx hb dX0_calculateWithNumber_75 rfl (lv_at hl 2 rfl) ?_
            refine lv_iload_n hx hb dX0_calculateWithNumber_76 rfl (lv_at hl 3 rfl) ?_
            refine in_i (v := S0_valueX wa u) (As := [.int wa]) (rest := [.int wa, .ref h]) (w1 := ww0 cI h q1 q2 q3 u) ⟨hx, hb, hml, hown, hts⟩ (c0_valueX l hap wa u ) gX0_calculateWithNumber_X0_valueX rfl hdX0_valueX ⟨Nat.le_of_ble_eq_true rfl, Nat.le_of_ble_eq_true rfl⟩ hK rfl rfl hl.1 rfl (Nat.le_of_ble_eq_true rfl) dX0_calculateWithNumber_77 ⟨Nat.zero_le _, Nat.zero_le _⟩ hP hS (fun _ h => h) (fun H locs hP hS _ _ => ?_)
            refine lv_iload_n hx hb dX0_calculateWithNumber_80 rfl (lv_at hl 3 rfl) ?_
            refine pu_i (v := S0_fieldY wa) (As := [.int wa]) (rest := [.int (S0_valueX wa u), .int wa, .ref h]) ⟨hx, hb, hml, hown, hts⟩ (c0_fieldY l wa ) gX0_calculateWithNumber_X0_fieldY rfl hdX0_fieldY ⟨Nat.le_of_ble_eq_true rfl, Nat.le_of_ble_eq_true rfl⟩ hl.1 rfl (Nat.le_of_ble_eq_true rfl) dX0_calculateWithNumber_81 ⟨Nat.zero_le _, Nat.zero_le _⟩ hP hS (fun H locs hP hS => ?_)
            refine pu_i (v := S0_movedRightWithSign (S0_valueX wa u) (S0_fieldY wa)) (As := [.int (S0_valueX wa u), .int (S0_fieldY wa)]) (rest := [.int wa, .ref h]) ⟨hx, hb, hml, hown, hts⟩ (c0_movedRightWithSign l (S0_valueX wa u) (S0_fieldY wa) ) gX0_calculateWithNumber_X0_movedRightWithSign rfl hdX0_movedRightWithSign ⟨Nat.le_of_ble_eq_true rfl, Nat.le_of_ble_eq_true rfl⟩ hl.1 rfl (Nat.le_of_ble_eq_true rfl) dX0_calculateWithNumber_84 ⟨Nat.zero_le _, Nat.zero_le _⟩ hP hS (fun H locs hP hS => ?_)
            refine in_i (v := (S0_tell wa (S0_movedRightWithSign (S0_valueX wa u) (S0_fieldY wa)) u).1) (As := [.int wa, .int (S0_movedRightWithSign (S0_valueX wa u) (S0_fieldY wa))]) (rest := []) (w1 := ww0 cI h q1 q2 q3 ((S0_tell wa (S0_movedRightWithSign (S0_valueX wa u) (S0_fieldY wa)) u).2)) ⟨hx, hb, hml, hown, hts⟩ (c0_tell l hap wa (S0_movedRightWithSign (S0_valueX wa u) (S0_fieldY wa)) u ) gX0_calculateWithNumber_X0_tell rfl hdX0_tell ⟨Nat.le_of_ble_eq_true rfl, Nat.le_of_ble_eq_true rfl⟩ hK rfl rfl hl.1 rfl (Nat.le_of_ble_eq_true rfl) dX0_calculateWithNumber_87 ⟨Nat.zero_le _, Nat.zero_le _⟩ hP hS (fun _ h => h) (fun H locs hP hS _ _ => ?_)
            have e9 : S0_calculateWithNumber wa u = ((S0_tell wa (S0_movedRightWithSign (S0_valueX wa u) (S0_fieldY wa)) u).1, (S0_tell wa (S0_movedRightWithSign (S0_valueX wa u) (S0_fieldY wa)) u).2) := by rw [S0_calculateWithNumber, if_neg c1, if_pos c5, if_neg c6, if_pos c7, if_pos c8]
            exact W.iret (v := (S0_tell wa (S0_movedRightWithSign (S0_valueX wa u) (S0_fieldY wa)) u).1) hx hb hr (fun t ht hW => ⟨⟨(S0_tell wa (S0_movedRightWithSign (S0_valueX wa u) (S0_fieldY wa)) u).1, (), rfl, by rw [e9], by show va_P _ _ _ t.heap; rw [e9, ht]; exact hP⟩, hS.F ht⟩) hS.2.2 dX0_calculateWithNumber_90
      · refine lv_aload_n hx hb dX0_calculateWithNumber_43 rfl (lv_at hl 2 rfl) ?_
        refine lv_iload_n hx hb dX0_calculateWithNumber_44 rfl (lv_at hl 3 rfl) ?_
        refine lv_iload_n hx hb dX0_calculateWithNumber_45 rfl (lv_at hl 1 rfl) ?_
        refine lv_aload_n hx hb dX0_calculateWithNumber_46 rfl (lv_at hl 2 rfl) ?_
        refine lv_iload_n hx hb dX0_calculateWithNumber_47 rfl (lv_at hl 3 rfl) ?_
        refine in_i (v := S0_valueX wa u) (As := [.int wa]) (rest := [.int (S0_fieldT wa), .int wa, .ref h]) (w1 := ww0 cI h q1 q2 q3 u) ⟨hx, hb, hml, hown, hts⟩ (c0_valueX l hap wa u ) gX0_calculateWithNumber_X0_valueX rfl hdX0_valueX ⟨Nat.le_of_ble_eq_true rfl, Nat.le_of_ble_eq_true rfl⟩ hK rfl rfl hl.1 rfl (Nat.le_of_ble_eq_true rfl) dX0_calculateWithNumber_48 ⟨Nat.zero_le _, Nat.zero_le _⟩ hP hS (fun _ h => h) (fun H locs hP hS _ _ => ?_)
        refine lv_iload_n hx hb dX0_calculateWithNumber_51 rfl (lv_at hl 3 rfl) ?_
        refine pu_i (v := S0_fieldY wa) (As := [.int wa]) (rest := [.int (S0_valueX wa u), .int (S0_fieldT wa), .int wa, .ref h]) ⟨hx, hb, hml, hown, hts⟩ (c0_fieldY l wa ) gX0_calculateWithNumber_X0_fieldY rfl hdX0_fieldY ⟨Nat.le_of_ble_eq_true rfl, Nat.le_of_ble_eq_true rfl⟩ hl.1 rfl (Nat.le_of_ble_eq_true rfl) dX0_calculateWithNumber_52 ⟨Nat.zero_le _, Nat.zero_le _⟩ hP hS (fun H locs hP hS => ?_)
        refine pu_i (v := S0_plain (S0_fieldT wa) (S0_valueX wa u) (S0_fieldY wa)) (As := [.int (S0_fieldT wa), .int (S0_valueX wa u), .int (S0_fieldY wa)]) (rest := [.int wa, .ref h]) ⟨hx, hb, hml, hown, hts⟩ (c0_plain l (S0_fieldT wa) (S0_valueX wa u) (S0_fieldY wa) ) gX0_calculateWithNumber_X0_plain rfl hdX0_plain ⟨Nat.le_of_ble_eq_true rfl, Nat.le_of_ble_eq_true rfl⟩ hl.1 rfl (Nat.le_of_ble_eq_true rfl) dX0_calculateWithNumber_55 ⟨Nat.zero_le _, Nat.zero_le _⟩ hP hS (fun H locs hP hS => ?_)
        refine in_i (v := (S0_tell wa (S0_plain (S0_fieldT wa) (S0_valueX wa u) (S0_fieldY wa)) u).1) (As := [.int wa, .int (S0_plain (S0_fieldT wa) (S0_valueX wa u) (S0_fieldY wa))]) (rest := []) (w1 := ww0 cI h q1 q2 q3 ((S0_tell wa (S0_plain (S0_fieldT wa) (S0_valueX wa u) (S0_fieldY wa)) u).2)) ⟨hx, hb, hml, hown, hts⟩ (c0_tell l hap wa (S0_plain (S0_fieldT wa) (S0_valueX wa u) (S0_fieldY wa)) u ) gX0_calculateWithNumber_X0_tell rfl hdX0_tell ⟨Nat.le_of_ble_eq_true rfl, Nat.le_of_ble_eq_true rfl⟩ hK rfl rfl hl.1 rfl (Nat.le_of_ble_eq_true rfl) dX0_calculateWithNumber_58 ⟨Nat.zero_le _, Nat.zero_le _⟩ hP hS (fun _ h => h) (fun H locs hP hS _ _ => ?_)
        have e9 : S0_calculateWithNumber wa u = ((S0_tell wa (S0_plain (S0_fieldT wa) (S0_valueX wa u) (S0_fieldY wa)) u).1, (S0_tell wa (S0_plain (S0_fieldT wa) (S0_valueX wa u) (S0_fieldY wa)) u).2) := by rw [S0_calculateWithNumber, if_neg c1, if_pos c5, if_pos c6]
        exact W.iret (v := (S0_tell wa (S0_plain (S0_fieldT wa) (S0_valueX wa u) (S0_fieldY wa)) u).1) hx hb hr (fun t ht hW => ⟨⟨(S0_tell wa (S0_plain (S0_fieldT wa) (S0_valueX wa u) (S0_fieldY wa)) u).1, (), rfl, by rw [e9], by show va_P _ _ _ t.heap; rw [e9, ht]; exact hP⟩, hS.F ht⟩) hS.2.2 dX0_calculateWithNumber_61
    · refine lv_aload_n hx hb dX0_calculateWithNumber_15 rfl (lv_at hl 1 rfl) ?_
      refine lv_iload_n hx hb dX0_calculateWithNumber_16 rfl (lv_at hl 2 rfl) ?_
      refine lv_iload_n hx hb dX0_calculateWithNumber_17 rfl (lv_at hl 0 rfl) ?_
      refine lv_aload_n hx hb dX0_calculateWithNumber_18 rfl (lv_at hl 1 rfl) ?_
      refine lv_iload_n hx hb dX0_calculateWithNumber_19 rfl (lv_at hl 2 rfl) ?_
      refine in_i (v := S0_valueX wa u) (As := [.int wa]) (rest := [.int (S0_fieldT wa), .int wa, .ref h]) (w1 := ww0 cI h q1 q2 q3 u) ⟨hx, hb, hml, hown, hts⟩ (c0_valueX l hap wa u ) gX0_calculateWithNumber_X0_valueX rfl hdX0_valueX ⟨Nat.le_of_ble_eq_true rfl, Nat.le_of_ble_eq_true rfl⟩ hK rfl rfl hl.1 rfl (Nat.le_of_ble_eq_true rfl) dX0_calculateWithNumber_20 ⟨Nat.zero_le _, Nat.zero_le _⟩ hP hS (fun _ h => h) (fun H locs hP hS _ _ => ?_)
      refine lv_iload_n hx hb dX0_calculateWithNumber_23 rfl (lv_at hl 2 rfl) ?_
      refine pu_i (v := S0_numberI wa) (As := [.int wa]) (rest := [.int (S0_valueX wa u), .int (S0_fieldT wa), .int wa, .ref h]) ⟨hx, hb, hml, hown, hts⟩ (c0_numberI l wa ) gX0_calculateWithNumber_X0_numberI rfl hdX0_numberI ⟨Nat.le_of_ble_eq_true rfl, Nat.le_of_ble_eq_true rfl⟩ hl.1 rfl (Nat.le_of_ble_eq_true rfl) dX0_calculateWithNumber_24 ⟨Nat.zero_le _, Nat.zero_le _⟩ hP hS (fun H locs hP hS => ?_)
      refine pu_i (v := S0_plain (S0_fieldT wa) (S0_valueX wa u) (S0_numberI wa)) (As := [.int (S0_fieldT wa), .int (S0_valueX wa u), .int (S0_numberI wa)]) (rest := [.int wa, .ref h]) ⟨hx, hb, hml, hown, hts⟩ (c0_plain l (S0_fieldT wa) (S0_valueX wa u) (S0_numberI wa) ) gX0_calculateWithNumber_X0_plain rfl hdX0_plain ⟨Nat.le_of_ble_eq_true rfl, Nat.le_of_ble_eq_true rfl⟩ hl.1 rfl (Nat.le_of_ble_eq_true rfl) dX0_calculateWithNumber_27 ⟨Nat.zero_le _, Nat.zero_le _⟩ hP hS (fun H locs hP hS => ?_)
      refine in_i (v := (S0_tell wa (S0_plain (S0_fieldT wa) (S0_valueX wa u) (S0_numberI wa)) u).1) (As := [.int wa, .int (S0_plain (S0_fieldT wa) (S0_valueX wa u) (S0_numberI wa))]) (rest := []) (w1 := ww0 cI h q1 q2 q3 ((S0_tell wa (S0_plain (S0_fieldT wa) (S0_valueX wa u) (S0_numberI wa)) u).2)) ⟨hx, hb, hml, hown, hts⟩ (c0_tell l hap wa (S0_plain (S0_fieldT wa) (S0_valueX wa u) (S0_numberI wa)) u ) gX0_calculateWithNumber_X0_tell rfl hdX0_tell ⟨Nat.le_of_ble_eq_true rfl, Nat.le_of_ble_eq_true rfl⟩ hK rfl rfl hl.1 rfl (Nat.le_of_ble_eq_true rfl) dX0_calculateWithNumber_30 ⟨Nat.zero_le _, Nat.zero_le _⟩ hP hS (fun _ h => h) (fun H locs hP hS _ _ => ?_)
      have e9 : S0_calculateWithNumber wa u = ((S0_tell wa (S0_plain (S0_fieldT wa) (S0_valueX wa u) (S0_numberI wa)) u).1, (S0_tell wa (S0_plain (S0_fieldT wa) (S0_valueX wa u) (S0_numberI wa)) u).2) := by rw [S0_calculateWithNumber, if_neg c1, if_neg c5]
      exact W.iret (v := (S0_tell wa (S0_plain (S0_fieldT wa) (S0_valueX wa u) (S0_numberI wa)) u).1) hx hb hr (fun t ht hW => ⟨⟨(S0_tell wa (S0_plain (S0_fieldT wa) (S0_valueX wa u) (S0_numberI wa)) u).1, (), rfl, by rw [e9], by show va_P _ _ _ t.heap; rw [e9, ht]; exact hP⟩, hS.F ht⟩) hS.2.2 dX0_calculateWithNumber_33
theorem hdX0_calculateWithRegister : yX0_calculateWithRegister.cls = RX0 ∧ yX0_calculateWithRegister.cls ≠ "java/lang/invoke/MethodHandle" ∧ yX0_calculateWithRegister.cls ≠ "java/lang/invoke/VarHandle" ∧ (parseMethodDescriptor yX0_calculateWithRegister.desc).map (fun d => d.parameters.length) = some 1 := by decide +kernel
set_option maxHeartbeats 4000000 in
set_option maxRecDepth 100000 in
theorem c0_calculateWithRegister (l : Launch) {D : va_G} {cI : ClassId} {h q1 q2 q3 : Nat} (hap : ap4 h q1 q2 q3) (wa : Int32) (u : WS)  : Ini l yX0_calculateWithRegister wsX0_calculateWithRegister 2 45 D (ty0 cI) (wa0 h q1 q2 q3) [.ref h, .int wa] (ww0 cI h q1 q2 q3 u) (ww0 cI h q1 q2 q3 (S0_calculateWithRegister wa u).2) (S0_calculateWithRegister wa u).1 := by
  refine Met.ofW (cc := cX0_calculateWithRegister) (maxL := 5) (ret := (some .int)) (by decide) rfl ?_
  intro p e s m args below meth c s₁ B hml hv
  obtain ⟨rfl, hP, hK⟩ := hv
  have hx := B.exec
  have hb := B.bytes
  have hr := B.returns
  have hts := atoms_spec (ws := wsX0_calculateWithRegister) B.pre
  have hown : s.vm.findClass RX0 = some m.cls := findClass_of_methodNamed B.named
  have hlocks := B.notSynchronized
  have hS : va_S (wa0 h q1 q2 q3) s.heap s.heap [] := va_S.rf
  have hl := lv_entry ([.ref h, .int wa]) (n := 5) (Nat.le_of_ble_eq_true rfl)
  rw [lg_entry_eq]
  generalize (lg_sl ([.ref h, .int wa]) ++ List.replicate (5 - (lg_sl ([.ref h, .int wa])).length) Slot.unset).toArray = ls at hl ⊢
  have hl : lv_has ls 5 [(0, .ref h), (1, .int wa)] := hl
  refine lv_iload_n hx hb dX0_calculateWithRegister_0 rfl (lv_at hl 1 rfl) ?_
  refine pu_i (v := S0_fieldT wa) (As := [.int wa]) (rest := []) ⟨hx, hb, hml, hown, hts⟩ (c0_fieldT l wa ) gX0_calculateWithRegister_X0_fieldT rfl hdX0_fieldT ⟨Nat.le_of_ble_eq_true rfl, Nat.le_of_ble_eq_true rfl⟩ hl.1 rfl (Nat.le_of_ble_eq_true rfl) dX0_calculateWithRegister_1 ⟨Nat.zero_le _, Nat.zero_le _⟩ hP hS (fun H locs hP hS => ?_)
  refine lv_istore_n (lv' := [(2, .int (S0_fieldT wa)), (0, .ref h), (1, .int wa)]) hx hb dX0_calculateWithRegister_4 rfl hl (by decide) rfl (fun ls hl => ?_)
  refine lv_aload_n hx hb dX0_calculateWithRegister_5 rfl (lv_at hl 1 rfl) ?_
  refine lv_iload_n hx hb dX0_calculateWithRegister_6 rfl (lv_at hl 2 rfl) ?_
  refine in_i (v := S0_valueX wa u) (As := [.int wa]) (rest := []) (w1 := ww0 cI h q1 q2 q3 u) ⟨hx, hb, hml, hown, hts⟩ (c0_valueX l hap wa u ) gX0_calculateWithRegister_X0_valueX rfl hdX0_valueX ⟨Nat.le_of_ble_eq_true rfl, Nat.le_of_ble_eq_true rfl⟩ hK rfl rfl hl.1 rfl (Nat.le_of_ble_eq_true rfl) dX0_calculateWithRegister_7 ⟨Nat.zero_le _, Nat.zero_le _⟩ hP hS (fun _ h => h) (fun H locs hP hS _ _ => ?_)
  refine lv_istore_n (lv' := [(3, .int (S0_valueX wa u)), (2, .int (S0_fieldT wa)), (0, .ref h), (1, .int wa)]) hx hb dX0_calculateWithRegister_10 rfl hl (by decide) rfl (fun ls hl => ?_)
  refine lv_aload_n hx hb dX0_calculateWithRegister_11 rfl (lv_at hl 2 rfl) ?_
  refine lv_iload_n hx hb dX0_calculateWithRegister_12 rfl (lv_at hl 3 rfl) ?_
  refine in_i (v := S0_valueY wa u) (As := [.int wa]) (rest := []) (w1 := ww0 cI h q1 q2 q3 u) ⟨hx, hb, hml, hown, hts⟩ (c0_valueY l hap wa u ) gX0_calculateWithRegister_X0_valueY rfl hdX0_valueY ⟨Nat.le_of_ble_eq_true rfl, Nat.le_of_ble_eq_true rfl⟩ hK rfl rfl hl.1 rfl (Nat.le_of_ble_eq_true rfl) dX0_calculateWithRegister_13 ⟨Nat.zero_le _, Nat.zero_le _⟩ hP hS (fun _ h => h) (fun H locs hP hS _ _ => ?_)
  refine lv_istore (lv' := [(4, .int (S0_valueY wa u)), (3, .int (S0_valueX wa u)), (2, .int (S0_fieldT wa)), (0, .ref h), (1, .int wa)]) hx hb dX0_calculateWithRegister_16 hl (by decide) rfl (fun ls hl => ?_)
  refine lv_iload_n hx hb dX0_calculateWithRegister_18 rfl (lv_at hl 4 rfl) ?_
  refine pu_i (v := S0_fieldS wa) (As := [.int wa]) (rest := []) ⟨hx, hb, hml, hown, hts⟩ (c0_fieldS l wa ) gX0_calculateWithRegister_X0_fieldS rfl hdX0_fieldS ⟨Nat.le_of_ble_eq_true rfl, Nat.le_of_ble_eq_true rfl⟩ hl.1 rfl (Nat.le_of_ble_eq_true rfl) dX0_calculateWithRegister_19 ⟨Nat.zero_le _, Nat.zero_le _⟩ hP hS (fun H locs hP hS => ?_)
  by_cases c1 : (S0_fieldS wa) = 0
  · refine lv_lookup (off := 34) (tgt := 56) hx hb dX0_calculateWithRegister_22 (by decide) (by rw [c1] <;> rfl) (by decide) ?_
    refine lv_aload_n hx hb dX0_calculateWithRegister_56 rfl (lv_at hl 3 rfl) ?_
    refine lv_iload_n hx hb dX0_calculateWithRegister_57 rfl (lv_at hl 4 rfl) ?_
    refine lv_iload_n hx hb dX0_calculateWithRegister_58 rfl (lv_at hl 2 rfl) ?_
    refine lv_iload_n hx hb dX0_calculateWithRegister_59 rfl (lv_at hl 1 rfl) ?_
    refine lv_iload hx hb dX0_calculateWithRegister_60 (lv_at hl 0 rfl) ?_
    refine pu_i (v := S0_plain (S0_fieldT wa) (S0_valueX wa u) (S0_valueY wa u)) (As := [.int (S0_fieldT wa), .int (S0_valueX wa u), .int (S0_valueY wa u)]) (rest := [.int wa, .ref h]) ⟨hx, hb, hml, hown, hts⟩ (c0_plain l (S0_fieldT wa) (S0_valueX wa u) (S0_valueY wa u) ) gX0_calculateWithRegister_X0_plain rfl hdX0_plain ⟨Nat.le_of_ble_eq_true rfl, Nat.le_of_ble_eq_true rfl⟩ hl.1 rfl (Nat.le_of_ble_eq_true rfl) dX0_calculateWithRegister_62 ⟨Nat.zero_le _, Nat.zero_le _⟩ hP hS (fun H locs hP hS => ?_)
    refine in_i (v := (S0_tell wa (S0_plain (S0_fieldT wa) (S0_valueX wa u) (S0_valueY wa u)) u).1) (As := [.int wa, .int (S0_plain (S0_fieldT wa) (S0_valueX wa u) (S0_valueY wa u))]) (rest := []) (w1 := ww0 cI h q1 q2 q3 ((S0_tell wa (S0_plain (S0_fieldT wa) (S0_valueX wa u) (S0_valueY wa u)) u).2)) ⟨hx, hb, hml, hown, hts⟩ (c0_tell l hap wa (S0_plain (S0_fieldT wa) (S0_valueX wa u) (S0_valueY wa u)) u ) gX0_calculateWithRegister_X0_tell rfl hdX0_tell ⟨Nat.le_of_ble_eq_true rfl, Nat.le_of_ble_eq_true rfl⟩ hK rfl rfl hl.1 rfl (Nat.le_of_ble_eq_true rfl) dX0_calculateWithRegister_65 ⟨Nat.zero_le _, Nat.zero_le _⟩ hP hS (fun _ h => h) (fun H locs hP hS _ _ => ?_)
    have e9 : S0_calculateWithRegister wa u = ((S0_tell wa (S0_plain (S0_fieldT wa) (S0_valueX wa u) (S0_valueY wa u)) u).1, (S0_tell wa (S0_plain (S0_fieldT wa) (S0_valueX wa u) (S0_valueY wa u)) u).2) := by rw [S0_calculateWithRegister, if_pos c1]
    exact W.iret (v := (S0_tell wa (S0_plain (S0_fieldT wa) (S0_valueX wa u) (S0_valueY wa u)) u).1) hx hb hr (fun t ht hW => ⟨⟨(S0_tell wa (S0_plain (S0_fieldT wa) (S0_valueX wa u) (S0_valueY wa u)) u).1, (), rfl, by rw [e9], by show va_P _ _ _ t.heap; rw [e9, ht]; exact hP⟩, hS.F ht⟩) hS.2.2 dX0_calculateWithRegister_68
  · skip
    by_cases c2 : (S0_fieldS wa) = 1
    · refine lv_lookup (off := 47) (tgt := 69) hx hb dX0_calculateWithRegister_22 (by decide) (by rw [c2] <;> rfl) (by decide) ?_
      refine lv_aload_n hx hb dX0_calculateWithRegister_69 rfl (lv_at hl 3 rfl) ?_
      refine lv_iload_n hx hb dX0_calculateWithRegister_70 rfl (lv_at hl 4 rfl) ?_
      refine lv_iload_n hx hb dX0_calculateWithRegister_71 rfl (lv_at hl 2 rfl) ?_
      refine lv_iload_n hx hb dX0_calculateWithRegister_72 rfl (lv_at hl 1 rfl) ?_
      refine lv_iload hx hb dX0_calculateWithRegister_73 (lv_at hl 0 rfl) ?_
      refine pu_i (v := S0_productOrQuotient (S0_fieldT wa) (S0_valueX wa u) (S0_valueY wa u)) (As := [.int (S0_fieldT wa), .int (S0_valueX wa u), .int (S0_valueY wa u)]) (rest := [.int wa, .ref h]) ⟨hx, hb, hml, hown, hts⟩ (c0_productOrQuotient l (S0_fieldT wa) (S0_valueX wa u) (S0_valueY wa u) ) gX0_calculateWithRegister_X0_productOrQuotient rfl hdX0_productOrQuotient ⟨Nat.le_of_ble_eq_true rfl, Nat.le_of_ble_eq_true rfl⟩ hl.1 rfl (Nat.le_of_ble_eq_true rfl) dX0_calculateWithRegister_75 ⟨Nat.zero_le _, Nat.zero_le _⟩ hP hS (fun H locs hP hS => ?_)
      refine in_i (v := (S0_tell wa (S0_productOrQuotient (S0_fieldT wa) (S0_valueX wa u) (S0_valueY wa u)) u).1) (As := [.int wa, .int (S0_productOrQuotient (S0_fieldT wa) (S0_valueX wa u) (S0_valueY wa u))]) (rest := []) (w1 := ww0 cI h q1 q2 q3 ((S0_tell wa (S0_productOrQuotient (S0_fieldT wa) (S0_valueX wa u) (S0_valueY wa u)) u).2)) ⟨hx, hb, hml, hown, hts⟩ (c0_tell l hap wa (S0_productOrQuotient (S0_fieldT wa) (S0_valueX wa u) (S0_valueY wa u)) u ) gX0_calculateWithRegister_X0_tell rfl hdX0_tell ⟨Nat.le_of_ble_eq_true rfl, Nat.le_of_ble_eq_true rfl⟩ hK rfl rfl hl.1 rfl (Nat.le_of_ble_eq_true rfl) dX0_calculateWithRegister_78 ⟨Nat.zero_le _, Nat.zero_le _⟩ hP hS (fun _ h => h) (fun H locs hP hS _ _ => ?_)
      have e9 : S0_calculateWithRegister wa u = ((S0_tell wa (S0_productOrQuotient (S0_fieldT wa) (S0_valueX wa u) (S0_valueY wa u)) u).1, (S0_tell wa (S0_productOrQuotient (S0_fieldT wa) (S0_valueX wa u) (S0_valueY wa u)) u).2) := by rw [S0_calculateWithRegister, if_neg c1, if_pos c2]
      exact W.iret (v := (S0_tell wa (S0_productOrQuotient (S0_fieldT wa) (S0_valueX wa u) (S0_valueY wa u)) u).1) hx hb hr (fun t ht hW => ⟨⟨(S0_tell wa (S0_productOrQuotient (S0_fieldT wa) (S0_valueX wa u) (S0_valueY wa u)) u).1, (), rfl, by rw [e9], by show va_P _ _ _ t.heap; rw [e9, ht]; exact hP⟩, hS.F ht⟩) hS.2.2 dX0_calculateWithRegister_81
    · skip
      by_cases c3 : (S0_fieldS wa) = 32
      · refine lv_lookup (off := 60) (tgt := 82) hx hb dX0_calculateWithRegister_22 (by decide) (by rw [c3] <;> rfl) (by decide) ?_
        refine lv_iload_n hx hb dX0_calculateWithRegister_82 rfl (lv_at hl 2 rfl) ?_
        refine lv_if_ne (tgt := 96) hx hb dX0_calculateWithRegister_83 (by decide) (fun (c4 : ¬ (S0_fieldT wa) = 0) => ?_) (fun (c4 : (S0_fieldT wa) = 0) => ?_)
        · refine lv_iload_n hx hb dX0_calculateWithRegister_96 rfl (lv_at hl 2 rfl) ?_
          refine lv_iconst (v := 5) hx hb dX0_calculateWithRegister_97 (by decide) ?_
          refine lv_icmp_ne (tgt := 115) hx hb dX0_calculateWithRegister_98 (by decide) (fun (c5 : ¬ (S0_fieldT wa) = 5) => ?_) (fun (c5 : (S0_fieldT wa) = 5) => ?_)
          · refine lv_iconst (v := 3) hx hb dX0_calculateWithRegister_115 (by decide) ?_
            have e9 : S0_calculateWithRegister wa u = ((3 : Int32), u) := by rw [S0_calculateWithRegister, if_neg c1, if_neg c2, if_pos c3, if_neg c4, if_neg c5]
            exact W.iret (v := (3 : Int32)) hx hb hr (fun t ht hW => ⟨⟨(3 : Int32), (), rfl, by rw [e9], by show va_P _ _ _ t.heap; rw [e9, ht]; exact hP⟩, hS.F ht⟩) hS.2.2 dX0_calculateWithRegister_116
          · refine lv_aload_n hx hb dX0_calculateWithRegister_101 rfl (lv_at hl 3 rfl) ?_
            refine lv_iload_n hx hb dX0_calculateWithRegister_102 rfl (lv_at hl 4 rfl) ?_
            refine lv_iload_n hx hb dX0_calculateWithRegister_103 rfl (lv_at hl 1 rfl) ?_
            refine lv_iload hx hb dX0_calculateWithRegister_104 (lv_at hl 0 rfl) ?_
            refine pu_i (v := S0_movedRightWithSign (S0_valueX wa u) (S0_valueY wa u)) (As := [.int (S0_valueX wa u), .int (S0_valueY wa u)]) (rest := [.int wa, .ref h]) ⟨hx, hb, hml, hown, hts⟩ (c0_movedRightWithSign l (S0_valueX wa u) (S0_valueY wa u) ) gX0_calculateWithRegister_X0_movedRightWithSign rfl hdX0_movedRightWithSign ⟨Nat.le_of_ble_eq_true rfl, Nat.le_of_ble_eq_true rfl⟩ hl.1 rfl (Nat.le_of_ble_eq_true rfl) dX0_calculateWithRegister_106 ⟨Nat.zero_le _, Nat.zero_le _⟩ hP hS (fun H locs hP hS => ?_)
            refine in_i (v := (S0_tell wa (S0_movedRightWithSign (S0_valueX wa u) (S0_valueY wa u)) u).1) (As := [.int wa, .int (S0_movedRightWithSign (S0_valueX wa u) (S0_valueY wa u))]) (rest := []) (w1 := ww0 cI h q1 q2 q3 ((S0_tell wa (S0_movedRightWithSign (S0_valueX wa u) (S0_valueY wa u)) u).2)) ⟨hx, hb, hml, hown, hts⟩ (c0_tell l hap wa (S0_movedRightWithSign (S0_valueX wa u) (S0_valueY wa u)) u ) gX0_calculateWithRegister_X0_tell rfl hdX0_tell ⟨Nat.le_of_ble_eq_true rfl, Nat.le_of_ble_eq_true rfl⟩ hK rfl rfl hl.1 rfl (Nat.le_of_ble_eq_true rfl) dX0_calculateWithRegister_109 ⟨Nat.zero_le _, Nat.zero_le _⟩ hP hS (fun _ h => h) (fun H locs hP hS _ _ => ?_)
            refine lv_goto (tgt := 116) hx hb dX0_calculateWithRegister_112 (by decide) ?_
            have e9 : S0_calculateWithRegister wa u = ((S0_tell wa (S0_movedRightWithSign (S0_valueX wa u) (S0_valueY wa u)) u).1, (S0_tell wa (S0_movedRightWithSign (S0_valueX wa u) (S0_valueY wa u)) u).2) := by rw [S0_calculateWithRegister, if_neg c1, if_neg c2, if_pos c3, if_neg c4, if_pos c5]
            exact W.iret (v := (S0_tell wa (S0_movedRightWithSign (S0_valueX wa u) (S0_valueY wa u)) u).1) hx hb hr (fun t ht hW => ⟨⟨(S0_tell wa (S0_movedRightWithSign (S0_valueX wa u) (S0_valueY wa u)) u).1, (), rfl, by rw [e9], by show va_P _ _ _ t.heap; rw [e9, ht]; exact hP⟩, hS.F ht⟩) hS.2.2 dX0_calculateWithRegister_116
        · refine lv_aload_n hx hb dX0_calculateWithRegister_86 rfl (lv_at hl 3 rfl) ?_
          refine lv_iload_n hx hb dX0_calculateWithRegister_87 rfl (lv_at hl 4 rfl) ?_
          refine lv_iload_n hx hb dX0_calculateWithRegister_88 rfl (lv_at hl 1 rfl) ?_
          refine lv_iload hx hb dX0_calculateWithRegister_89 (lv_at hl 0 rfl) ?_
          refine lv_isub hx hb dX0_calculateWithRegister_91 ?_
          refine in_i (v := (S0_tell wa ((S0_valueX wa u) - (S0_valueY wa u)) u).1) (As := [.int wa, .int ((S0_valueX wa u) - (S0_valueY wa u))]) (rest := []) (w1 := ww0 cI h q1 q2 q3 ((S0_tell wa ((S0_valueX wa u) - (S0_valueY wa u)) u).2)) ⟨hx, hb, hml, hown, hts⟩ (c0_tell l hap wa ((S0_valueX wa u) - (S0_valueY wa u)) u ) gX0_calculateWithRegister_X0_tell rfl hdX0_tell ⟨Nat.le_of_ble_eq_true rfl, Nat.le_of_ble_eq_true rfl⟩ hK rfl rfl hl.1 rfl (Nat.le_of_ble_eq_true rfl) dX0_calculateWithRegister_92 ⟨Nat.zero_le _, Nat.zero_le _⟩ hP hS (fun _ h => h) (fun H locs hP hS _ _ => ?_)
          have e9 : S0_calculateWithRegister wa u = ((S0_tell wa ((S0_valueX wa u) - (S0_valueY wa u)) u).1, (S0_tell wa ((S0_valueX wa u) - (S0_valueY wa u)) u).2) := by rw [S0_calculateWithRegister, if_neg c1, if_neg c2, if_pos c3, if_pos c4]
          exact W.iret (v := (S0_tell wa ((S0_valueX wa u) - (S0_valueY wa u)) u).1) hx hb hr (fun t ht hW => ⟨⟨(S0_tell wa ((S0_valueX wa u) - (S0_valueY wa u)) u).1, (), rfl, by rw [e9], by show va_P _ _ _ t.heap; rw [e9, ht]; exact hP⟩, hS.F ht⟩) hS.2.2 dX0_calculateWithRegister_95
      · skip
        refine lv_lookup (off := 95) (tgt := 117) hx hb dX0_calculateWithRegister_22 (by decide) (by rw [lv_osw c1 (show (0 : Int32).toInt = 0 from by decide), lv_osw c2 (show (1 : Int32).toInt = 1 from by decide), lv_osw c3 (show (32 : Int32).toInt = 32 from by decide)] <;> rfl) (by decide) ?_
        refine lv_iconst (v := 3) hx hb dX0_calculateWithRegister_117 (by decide) ?_
        have e9 : S0_calculateWithRegister wa u = ((3 : Int32), u) := by rw [S0_calculateWithRegister, if_neg c1, if_neg c2, if_neg c3]
        exact W.iret (v := (3 : Int32)) hx hb hr (fun t ht hW => ⟨⟨(3 : Int32), (), rfl, by rw [e9], by show va_P _ _ _ t.heap; rw [e9, ht]; exact hP⟩, hS.F ht⟩) hS.2.2 dX0_calculateWithRegister_118
theorem iwX0_perform : ∀ w ∈ wsX00, w ∈ wsX0_perform := by decide +kernel
theorem flX0_perform_23 : Cond.fieldLink RX0 23 "WordMachine" "pc" "I" ∈ wsX0_perform := by decide +kernel
theorem hdX0_perform : yX0_perform.cls = RX0 ∧ yX0_perform.cls ≠ "java/lang/invoke/MethodHandle" ∧ yX0_perform.cls ≠ "java/lang/invoke/VarHandle" ∧ (parseMethodDescriptor yX0_perform.desc).map (fun d => d.parameters.length) = some 1 := by decide +kernel
set_option maxHeartbeats 4000000 in
set_option maxRecDepth 100000 in
theorem c0_perform (l : Launch) {D : va_G} {cI : ClassId} {h q1 q2 q3 : Nat} (hap : ap4 h q1 q2 q3) (wa : Int32) (u : WS)  : Ini l yX0_perform wsX0_perform 3 69 D (ty0 cI) (wa0 h q1 q2 q3) [.ref h, .int wa] (ww0 cI h q1 q2 q3 u) (ww0 cI h q1 q2 q3 (S0_perform wa u).2) (S0_perform wa u).1 := by
  refine Met.ofW (cc := cX0_perform) (maxL := 2) (ret := (some .int)) (by decide) rfl ?_
  intro p e s m args below meth c s₁ B hml hv
  obtain ⟨rfl, hP, hK⟩ := hv
  have hx := B.exec
  have hb := B.bytes
  have hr := B.returns
  have hts := atoms_spec (ws := wsX0_perform) B.pre
  have hown : s.vm.findClass RX0 = some m.cls := findClass_of_methodNamed B.named
  have hlocks := B.notSynchronized
  have hS : va_S (wa0 h q1 q2 q3) s.heap s.heap [] := va_S.rf
  have hl := lv_entry ([.ref h, .int wa]) (n := 2) (Nat.le_of_ble_eq_true rfl)
  rw [lg_entry_eq]
  generalize (lg_sl ([.ref h, .int wa]) ++ List.replicate (2 - (lg_sl ([.ref h, .int wa])).length) Slot.unset).toArray = ls at hl ⊢
  have hl : lv_has ls 2 [(0, .ref h), (1, .int wa)] := hl
  refine lv_iload_n hx hb dX0_perform_0 rfl (lv_at hl 1 rfl) ?_
  refine pu_i (v := S0_fieldOp wa) (As := [.int wa]) (rest := []) ⟨hx, hb, hml, hown, hts⟩ (c0_fieldOp l wa ) gX0_perform_X0_fieldOp rfl hdX0_fieldOp ⟨Nat.le_of_ble_eq_true rfl, Nat.le_of_ble_eq_true rfl⟩ hl.1 rfl (Nat.le_of_ble_eq_true rfl) dX0_perform_1 ⟨Nat.zero_le _, Nat.zero_le _⟩ hP hS (fun H locs hP hS => ?_)
  by_cases c1 : (S0_fieldOp wa) = 3
  · refine lv_lookup (off := 131) (tgt := 135) hx hb dX0_perform_4 (by decide) (by rw [c1] <;> rfl) (by decide) ?_
    refine lv_aload_n hx hb dX0_perform_135 rfl (lv_at hl 0 rfl) ?_
    refine lv_iload_n hx hb dX0_perform_136 rfl (lv_at hl 1 rfl) ?_
    refine in_i (v := (S0_load wa u).1) (As := [.int wa]) (rest := []) (w1 := ww0 cI h q1 q2 q3 ((S0_load wa u).2)) ⟨hx, hb, hml, hown, hts⟩ (c0_load l hap wa u ) gX0_perform_X0_load rfl hdX0_load ⟨Nat.le_of_ble_eq_true rfl, Nat.le_of_ble_eq_true rfl⟩ hK rfl rfl hl.1 rfl (Nat.le_of_ble_eq_true rfl) dX0_perform_137 ⟨Nat.zero_le _, Nat.zero_le _⟩ hP hS (fun _ h => h) (fun H locs hP hS _ _ => ?_)
    have e9 : S0_perform wa u = ((S0_load wa u).1, (S0_load wa u).2) := by rw [S0_perform, if_pos c1]
    exact W.iret (v := (S0_load wa u).1) hx hb hr (fun t ht hW => ⟨⟨(S0_load wa u).1, (), rfl, by rw [e9], by show va_P _ _ _ t.heap; rw [e9, ht]; exact hP⟩, hS.F ht⟩) hS.2.2 dX0_perform_140
  · skip
    by_cases c2 : (S0_fieldOp wa) = 19
    · refine lv_lookup (off := 92) (tgt := 96) hx hb dX0_perform_4 (by decide) (by rw [c2] <;> rfl) (by decide) ?_
      refine lv_aload_n hx hb dX0_perform_96 rfl (lv_at hl 0 rfl) ?_
      refine lv_iload_n hx hb dX0_perform_97 rfl (lv_at hl 1 rfl) ?_
      refine in_i (v := (S0_calculateWithNumber wa u).1) (As := [.int wa]) (rest := []) (w1 := ww0 cI h q1 q2 q3 ((S0_calculateWithNumber wa u).2)) ⟨hx, hb, hml, hown, hts⟩ (c0_calculateWithNumber l hap wa u ) gX0_perform_X0_calculateWithNumber rfl hdX0_calculateWithNumber ⟨Nat.le_of_ble_eq_true rfl, Nat.le_of_ble_eq_true rfl⟩ hK rfl rfl hl.1 rfl (Nat.le_of_ble_eq_true rfl) dX0_perform_98 ⟨Nat.zero_le _, Nat.zero_le _⟩ hP hS (fun _ h => h) (fun H locs hP hS _ _ => ?_)
      have e9 : S0_perform wa u = ((S0_calculateWithNumber wa u).1, (S0_calculateWithNumber wa u).2) := by rw [S0_perform, if_neg c1, if_pos c2]
      exact W.iret (v := (S0_calculateWithNumber wa u).1) hx hb hr (fun t ht hW => ⟨⟨(S0_calculateWithNumber wa u).1, (), rfl, by rw [e9], by show va_P _ _ _ t.heap; rw [e9, ht]; exact hP⟩, hS.F ht⟩) hS.2.2 dX0_perform_101
    · skip
      by_cases c3 : (S0_fieldOp wa) = 23
      · refine lv_lookup (off := 115) (tgt := 119) hx hb dX0_perform_4 (by decide) (by rw [c3] <;> rfl) (by decide) ?_
        refine lv_aload_n hx hb dX0_perform_119 rfl (lv_at hl 0 rfl) ?_
        refine lv_iload_n hx hb dX0_perform_120 rfl (lv_at hl 1 rfl) ?_
        refine lv_aload_n hx hb dX0_perform_121 rfl (lv_at hl 0 rfl) ?_
        refine va_get (D := D) (ci := 0) (v := .int (W_pc u)) (C := RX0) (T := TX0) (N := 6) hx hb hts iwX0_perform hown hK hP 0 rfl rfl 4 (by decide) (hts (.fieldLink RX0 23 "WordMachine" "pc" "I") flX0_perform_23) (fun _ h9 => h9) rfl dX0_perform_122 ?_
        refine lv_iload_n hx hb dX0_perform_125 rfl (lv_at hl 1 rfl) ?_
        refine lv_sipush (v := (-4096)) hx hb dX0_perform_126 (by decide) ?_
        refine lv_iand hx hb dX0_perform_129 ?_
        refine lv_iadd hx hb dX0_perform_130 ?_
        refine in_i (v := (S0_tell wa ((W_pc u) + (wa &&& (-4096))) u).1) (As := [.int wa, .int ((W_pc u) + (wa &&& (-4096)))]) (rest := []) (w1 := ww0 cI h q1 q2 q3 ((S0_tell wa ((W_pc u) + (wa &&& (-4096))) u).2)) ⟨hx, hb, hml, hown, hts⟩ (c0_tell l hap wa ((W_pc u) + (wa &&& (-4096))) u ) gX0_perform_X0_tell rfl hdX0_tell ⟨Nat.le_of_ble_eq_true rfl, Nat.le_of_ble_eq_true rfl⟩ hK rfl rfl hl.1 rfl (Nat.le_of_ble_eq_true rfl) dX0_perform_131 ⟨Nat.zero_le _, Nat.zero_le _⟩ hP hS (fun _ h => h) (fun H locs hP hS _ _ => ?_)
        have e9 : S0_perform wa u = ((S0_tell wa ((W_pc u) + (wa &&& (-4096))) u).1, (S0_tell wa ((W_pc u) + (wa &&& (-4096))) u).2) := by rw [S0_perform, if_neg c1, if_neg c2, if_pos c3]
        exact W.iret (v := (S0_tell wa ((W_pc u) + (wa &&& (-4096))) u).1) hx hb hr (fun t ht hW => ⟨⟨(S0_tell wa ((W_pc u) + (wa &&& (-4096))) u).1, (), rfl, by rw [e9], by show va_P _ _ _ t.heap; rw [e9, ht]; exact hP⟩, hS.F ht⟩) hS.2.2 dX0_perform_134
      · skip
        by_cases c4 : (S0_fieldOp wa) = 35
        · refine lv_lookup (off := 137) (tgt := 141) hx hb dX0_perform_4 (by decide) (by rw [c4] <;> rfl) (by decide) ?_
          refine lv_aload_n hx hb dX0_perform_141 rfl (lv_at hl 0 rfl) ?_
          refine lv_iload_n hx hb dX0_perform_142 rfl (lv_at hl 1 rfl) ?_
          refine in_i (v := (S0_store wa u).1) (As := [.int wa]) (rest := []) (w1 := ww0 cI h q1 q2 q3 ((S0_store wa u).2)) ⟨hx, hb, hml, hown, hts⟩ (c0_store l hap wa u ) gX0_perform_X0_store rfl hdX0_store ⟨Nat.le_of_ble_eq_true rfl, Nat.le_of_ble_eq_true rfl⟩ hK rfl rfl hl.1 rfl (Nat.le_of_ble_eq_true rfl) dX0_perform_143 ⟨Nat.zero_le _, Nat.zero_le _⟩ hP hS (fun _ h => h) (fun H locs hP hS _ _ => ?_)
          have e9 : S0_perform wa u = ((S0_store wa u).1, (S0_store wa u).2) := by rw [S0_perform, if_neg c1, if_neg c2, if_neg c3, if_pos c4]
          exact W.iret (v := (S0_store wa u).1) hx hb hr (fun t ht hW => ⟨⟨(S0_store wa u).1, (), rfl, by rw [e9], by show va_P _ _ _ t.heap; rw [e9, ht]; exact hP⟩, hS.F ht⟩) hS.2.2 dX0_perform_146
        · skip
          by_cases c5 : (S0_fieldOp wa) = 51
          · refine lv_lookup (off := 98) (tgt := 102) hx hb dX0_perform_4 (by decide) (by rw [c5] <;> rfl) (by decide) ?_
            refine lv_aload_n hx hb dX0_perform_102 rfl (lv_at hl 0 rfl) ?_
            refine lv_iload_n hx hb dX0_perform_103 rfl (lv_at hl 1 rfl) ?_
            refine in_i (v := (S0_calculateWithRegister wa u).1) (As := [.int wa]) (rest := []) (w1 := ww0 cI h q1 q2 q3 ((S0_calculateWithRegister wa u).2)) ⟨hx, hb, hml, hown, hts⟩ (c0_calculateWithRegister l hap wa u ) gX0_perform_X0_calculateWithRegister rfl hdX0_calculateWithRegister ⟨Nat.le_of_ble_eq_true rfl, Nat.le_of_ble_eq_true rfl⟩ hK rfl rfl hl.1 rfl (Nat.le_of_ble_eq_true rfl) dX0_perform_104 ⟨Nat.zero_le _, Nat.zero_le _⟩ hP hS (fun _ h => h) (fun H locs hP hS _ _ => ?_)
            have e9 : S0_perform wa u = ((S0_calculateWithRegister wa u).1, (S0_calculateWithRegister wa u).2) := by rw [S0_perform, if_neg c1, if_neg c2, if_neg c3, if_neg c4, if_pos c5]
            exact W.iret (v := (S0_calculateWithRegister wa u).1) hx hb hr (fun t ht hW => ⟨⟨(S0_calculateWithRegister wa u).1, (), rfl, by rw [e9], by show va_P _ _ _ t.heap; rw [e9, ht]; exact hP⟩, hS.F ht⟩) hS.2.2 dX0_perform_107
          · skip
            by_cases c6 : (S0_fieldOp wa) = 55
            · refine lv_lookup (off := 104) (tgt := 108) hx hb dX0_perform_4 (by decide) (by rw [c6] <;> rfl) (by decide) ?_
              refine lv_aload_n hx hb dX0_perform_108 rfl (lv_at hl 0 rfl) ?_
              refine lv_iload_n hx hb dX0_perform_109 rfl (lv_at hl 1 rfl) ?_
              refine lv_iload_n hx hb dX0_perform_110 rfl (lv_at hl 1 rfl) ?_
              refine lv_sipush (v := (-4096)) hx hb dX0_perform_111 (by decide) ?_
              refine lv_iand hx hb dX0_perform_114 ?_
              refine in_i (v := (S0_tell wa (wa &&& (-4096)) u).1) (As := [.int wa, .int (wa &&& (-4096))]) (rest := []) (w1 := ww0 cI h q1 q2 q3 ((S0_tell wa (wa &&& (-4096)) u).2)) ⟨hx, hb, hml, hown, hts⟩ (c0_tell l hap wa (wa &&& (-4096)) u ) gX0_perform_X0_tell rfl hdX0_tell ⟨Nat.le_of_ble_eq_true rfl, Nat.le_of_ble_eq_true rfl⟩ hK rfl rfl hl.1 rfl (Nat.le_of_ble_eq_true rfl) dX0_perform_115 ⟨Nat.zero_le _, Nat.zero_le _⟩ hP hS (fun _ h => h) (fun H locs hP hS _ _ => ?_)
              have e9 : S0_perform wa u = ((S0_tell wa (wa &&& (-4096)) u).1, (S0_tell wa (wa &&& (-4096)) u).2) := by rw [S0_perform, if_neg c1, if_neg c2, if_neg c3, if_neg c4, if_neg c5, if_pos c6]
              exact W.iret (v := (S0_tell wa (wa &&& (-4096)) u).1) hx hb hr (fun t ht hW => ⟨⟨(S0_tell wa (wa &&& (-4096)) u).1, (), rfl, by rw [e9], by show va_P _ _ _ t.heap; rw [e9, ht]; exact hP⟩, hS.F ht⟩) hS.2.2 dX0_perform_118
            · skip
              by_cases c7 : (S0_fieldOp wa) = 99
              · refine lv_lookup (off := 143) (tgt := 147) hx hb dX0_perform_4 (by decide) (by rw [c7] <;> rfl) (by decide) ?_
                refine lv_aload_n hx hb dX0_perform_147 rfl (lv_at hl 0 rfl) ?_
                refine lv_iload_n hx hb dX0_perform_148 rfl (lv_at hl 1 rfl) ?_
                refine in_i (v := (S0_branch wa u).1) (As := [.int wa]) (rest := []) (w1 := ww0 cI h q1 q2 q3 ((S0_branch wa u).2)) ⟨hx, hb, hml, hown, hts⟩ (c0_branch l hap wa u ) gX0_perform_X0_branch rfl hdX0_branch ⟨Nat.le_of_ble_eq_true rfl, Nat.le_of_ble_eq_true rfl⟩ hK rfl rfl hl.1 rfl (Nat.le_of_ble_eq_true rfl) dX0_perform_149 ⟨Nat.zero_le _, Nat.zero_le _⟩ hP hS (fun _ h => h) (fun H locs hP hS _ _ => ?_)
                have e9 : S0_perform wa u = ((S0_branch wa u).1, (S0_branch wa u).2) := by rw [S0_perform, if_neg c1, if_neg c2, if_neg c3, if_neg c4, if_neg c5, if_neg c6, if_pos c7]
                exact W.iret (v := (S0_branch wa u).1) hx hb hr (fun t ht hW => ⟨⟨(S0_branch wa u).1, (), rfl, by rw [e9], by show va_P _ _ _ t.heap; rw [e9, ht]; exact hP⟩, hS.F ht⟩) hS.2.2 dX0_perform_152
              · skip
                by_cases c8 : (S0_fieldOp wa) = 103
                · refine lv_lookup (off := 164) (tgt := 168) hx hb dX0_perform_4 (by decide) (by rw [c8] <;> rfl) (by decide) ?_
                  refine lv_aload_n hx hb dX0_perform_168 rfl (lv_at hl 0 rfl) ?_
                  refine lv_iload_n hx hb dX0_perform_169 rfl (lv_at hl 1 rfl) ?_
                  refine in_i (v := (S0_jumpToRegister wa u).1) (As := [.int wa]) (rest := []) (w1 := ww0 cI h q1 q2 q3 ((S0_jumpToRegister wa u).2)) ⟨hx, hb, hml, hown, hts⟩ (c0_jumpToRegister l hap wa u ) gX0_perform_X0_jumpToRegister rfl hdX0_jumpToRegister ⟨Nat.le_of_ble_eq_true rfl, Nat.le_of_ble_eq_true rfl⟩ hK rfl rfl hl.1 rfl (Nat.le_of_ble_eq_true rfl) dX0_perform_170 ⟨Nat.zero_le _, Nat.zero_le _⟩ hP hS (fun _ h => h) (fun H locs hP hS _ _ => ?_)
                  have e9 : S0_perform wa u = ((S0_jumpToRegister wa u).1, (S0_jumpToRegister wa u).2) := by rw [S0_perform, if_neg c1, if_neg c2, if_neg c3, if_neg c4, if_neg c5, if_neg c6, if_neg c7, if_pos c8]
                  exact W.iret (v := (S0_jumpToRegister wa u).1) hx hb hr (fun t ht hW => ⟨⟨(S0_jumpToRegister wa u).1, (), rfl, by rw [e9], by show va_P _ _ _ t.heap; rw [e9, ht]; exact hP⟩, hS.F ht⟩) hS.2.2 dX0_perform_173
                · skip
                  by_cases c9 : (S0_fieldOp wa) = 111
                  · refine lv_lookup (off := 149) (tgt := 153) hx hb dX0_perform_4 (by decide) (by rw [c9] <;> rfl) (by decide) ?_
                    refine lv_aload_n hx hb dX0_perform_153 rfl (lv_at hl 0 rfl) ?_
                    refine lv_iload_n hx hb dX0_perform_154 rfl (lv_at hl 1 rfl) ?_
                    refine lv_aload_n hx hb dX0_perform_155 rfl (lv_at hl 0 rfl) ?_
                    refine va_get (D := D) (ci := 0) (v := .int (W_pc u)) (C := RX0) (T := TX0) (N := 6) hx hb hts iwX0_perform hown hK hP 0 rfl rfl 4 (by decide) (hts (.fieldLink RX0 23 "WordMachine" "pc" "I") flX0_perform_23) (fun _ h9 => h9) rfl dX0_perform_156 ?_
                    refine lv_iload_n hx hb dX0_perform_159 rfl (lv_at hl 1 rfl) ?_
                    refine pu_i (v := S0_jumpDistance wa) (As := [.int wa]) (rest := [.int (W_pc u), .int wa, .ref h]) ⟨hx, hb, hml, hown, hts⟩ (c0_jumpDistance l wa ) gX0_perform_X0_jumpDistance rfl hdX0_jumpDistance ⟨Nat.le_of_ble_eq_true rfl, Nat.le_of_ble_eq_true rfl⟩ hl.1 rfl (Nat.le_of_ble_eq_true rfl) dX0_perform_160 ⟨Nat.zero_le _, Nat.zero_le _⟩ hP hS (fun H locs hP hS => ?_)
                    refine lv_iadd hx hb dX0_perform_163 ?_
                    refine in_i (v := (S0_jump wa ((W_pc u) + (S0_jumpDistance wa)) u).1) (As := [.int wa, .int ((W_pc u) + (S0_jumpDistance wa))]) (rest := []) (w1 := ww0 cI h q1 q2 q3 ((S0_jump wa ((W_pc u) + (S0_jumpDistance wa)) u).2)) ⟨hx, hb, hml, hown, hts⟩ (c0_jump l hap wa ((W_pc u) + (S0_jumpDistance wa)) u ) gX0_perform_X0_jump rfl hdX0_jump ⟨Nat.le_of_ble_eq_true rfl, Nat.le_of_ble_eq_true rfl⟩ hK rfl rfl hl.1 rfl (Nat.le_of_ble_eq_true rfl) dX0_perform_164 ⟨Nat.zero_le _, Nat.zero_le _⟩ hP hS (fun _ h => h) (fun H locs hP hS _ _ => ?_)
                    have e9 : S0_perform wa u = ((S0_jump wa ((W_pc u) + (S0_jumpDistance wa)) u).1, (S0_jump wa ((W_pc u) + (S0_jumpDistance wa)) u).2) := by rw [S0_perform, if_neg c1, if_neg c2, if_neg c3, if_neg c4, if_neg c5, if_neg c6, if_neg c7, if_neg c8, if_pos c9]
                    exact W.iret (v := (S0_jump wa ((W_pc u) + (S0_jumpDistance wa)) u).1) hx hb hr (fun t ht hW => ⟨⟨(S0_jump wa ((W_pc u) + (S0_jumpDistance wa)) u).1, (), rfl, by rw [e9], by show va_P _ _ _ t.heap; rw [e9, ht]; exact hP⟩, hS.F ht⟩) hS.2.2 dX0_perform_167
                  · skip
                    by_cases c10 : (S0_fieldOp wa) = 115
                    · refine lv_lookup (off := 170) (tgt := 174) hx hb dX0_perform_4 (by decide) (by rw [c10] <;> rfl) (by decide) ?_
                      refine lv_aload_n hx hb dX0_perform_174 rfl (lv_at hl 0 rfl) ?_
                      refine lv_iload_n hx hb dX0_perform_175 rfl (lv_at hl 1 rfl) ?_
                      refine in_i (v := (S0_ask wa u).1) (As := [.int wa]) (rest := []) (w1 := ww0 cI h q1 q2 q3 ((S0_ask wa u).2)) ⟨hx, hb, hml, hown, hts⟩ (c0_ask l hap wa u ) gX0_perform_X0_ask rfl hdX0_ask ⟨Nat.le_of_ble_eq_true rfl, Nat.le_of_ble_eq_true rfl⟩ hK rfl rfl hl.1 rfl (Nat.le_of_ble_eq_true rfl) dX0_perform_176 ⟨Nat.zero_le _, Nat.zero_le _⟩ hP hS (fun _ h => h) (fun H locs hP hS _ _ => ?_)
                      have e9 : S0_perform wa u = ((S0_ask wa u).1, (S0_ask wa u).2) := by rw [S0_perform, if_neg c1, if_neg c2, if_neg c3, if_neg c4, if_neg c5, if_neg c6, if_neg c7, if_neg c8, if_neg c9, if_pos c10]
                      exact W.iret (v := (S0_ask wa u).1) hx hb hr (fun t ht hW => ⟨⟨(S0_ask wa u).1, (), rfl, by rw [e9], by show va_P _ _ _ t.heap; rw [e9, ht]; exact hP⟩, hS.F ht⟩) hS.2.2 dX0_perform_179
                    · skip
                      refine lv_lookup (off := 176) (tgt := 180) hx hb dX0_perform_4 (by decide) (by rw [lv_osw c1 (show (3 : Int32).toInt = 3 from by decide), lv_osw c2 (show (19 : Int32).toInt = 19 from by decide), lv_osw c3 (show (23 : Int32).toInt = 23 from by decide), lv_osw c4 (show (35 : Int32).toInt = 35 from by decide), lv_osw c5 (show (51 : Int32).toInt = 51 from by decide), lv_osw c6 (show (55 : Int32).toInt = 55 from by decide), lv_osw c7 (show (99 : Int32).toInt = 99 from by decide), lv_osw c8 (show (103 : Int32).toInt = 103 from by decide), lv_osw c9 (show (111 : Int32).toInt = 111 from by decide), lv_osw c10 (show (115 : Int32).toInt = 115 from by decide)] <;> rfl) (by decide) ?_
                      refine lv_iconst (v := 3) hx hb dX0_perform_180 (by decide) ?_
                      have e9 : S0_perform wa u = ((3 : Int32), u) := by rw [S0_perform, if_neg c1, if_neg c2, if_neg c3, if_neg c4, if_neg c5, if_neg c6, if_neg c7, if_neg c8, if_neg c9, if_neg c10]
                      exact W.iret (v := (3 : Int32)) hx hb hr (fun t ht hW => ⟨⟨(3 : Int32), (), rfl, by rw [e9], by show va_P _ _ _ t.heap; rw [e9, ht]; exact hP⟩, hS.F ht⟩) hS.2.2 dX0_perform_181
theorem iwX0_step : ∀ w ∈ wsX00, w ∈ wsX0_step := by decide +kernel
theorem flX0_step_9 : Cond.fieldLink RX0 9 "WordMachine" "code" "[I" ∈ wsX0_step := by decide +kernel
theorem flX0_step_23 : Cond.fieldLink RX0 23 "WordMachine" "pc" "I" ∈ wsX0_step := by decide +kernel
theorem flX0_step_26 : Cond.fieldLink RX0 26 "WordMachine" "stepsDone" "I" ∈ wsX0_step := by decide +kernel
theorem hdX0_step : yX0_step.cls = RX0 ∧ yX0_step.cls ≠ "java/lang/invoke/MethodHandle" ∧ yX0_step.cls ≠ "java/lang/invoke/VarHandle" ∧ (parseMethodDescriptor yX0_step.desc).map (fun d => d.parameters.length) = some 0 := by decide +kernel
set_option maxHeartbeats 4000000 in
set_option maxRecDepth 100000 in
theorem c0_step (l : Launch) {D : va_G} {cI : ClassId} {h q1 q2 q3 : Nat} (hap : ap4 h q1 q2 q3)  (u : WS) (hw : W_wc u ≤ 1024) : Ini l yX0_step wsX0_step 4 90 D (ty0 cI) (wa0 h q1 q2 q3) [.ref h] (ww0 cI h q1 q2 q3 u) (ww0 cI h q1 q2 q3 (S0_step u).2) (S0_step u).1 := by
  refine Met.ofW (cc := cX0_step) (maxL := 2) (ret := (some .int)) (by decide) rfl ?_
  intro p e s m args below meth c s₁ B hml hv
  obtain ⟨rfl, hP, hK⟩ := hv
  have hx := B.exec
  have hb := B.bytes
  have hr := B.returns
  have hts := atoms_spec (ws := wsX0_step) B.pre
  have hown : s.vm.findClass RX0 = some m.cls := findClass_of_methodNamed B.named
  have hlocks := B.notSynchronized
  have hS : va_S (wa0 h q1 q2 q3) s.heap s.heap [] := va_S.rf
  have hl := lv_entry ([.ref h]) (n := 2) (Nat.le_of_ble_eq_true rfl)
  rw [lg_entry_eq]
  generalize (lg_sl ([.ref h]) ++ List.replicate (2 - (lg_sl ([.ref h])).length) Slot.unset).toArray = ls at hl ⊢
  have hl : lv_has ls 2 [(0, .ref h)] := hl
  refine lv_aload_n hx hb dX0_step_0 rfl (lv_at hl 0 rfl) ?_
  refine lv_aload_n hx hb dX0_step_1 rfl (lv_at hl 0 rfl) ?_
  refine va_get (D := D) (ci := 0) (v := .int (W_pc u)) (C := RX0) (T := TX0) (N := 6) hx hb hts iwX0_step hown hK hP 0 rfl rfl 4 (by decide) (hts (.fieldLink RX0 23 "WordMachine" "pc" "I") flX0_step_23) (fun _ h9 => h9) rfl dX0_step_2 ?_
  refine in_i (v := S0_isPlaceOfWord (W_pc u) u) (As := [.int (W_pc u)]) (rest := []) (w1 := ww0 cI h q1 q2 q3 u) ⟨hx, hb, hml, hown, hts⟩ (c0_isPlaceOfWord l hap (W_pc u) u ) gX0_step_X0_isPlaceOfWord rfl hdX0_isPlaceOfWord ⟨Nat.le_of_ble_eq_true rfl, Nat.le_of_ble_eq_true rfl⟩ hK rfl rfl hl.1 rfl (Nat.le_of_ble_eq_true rfl) dX0_step_5 ⟨Nat.zero_le _, Nat.zero_le _⟩ hP hS (fun _ h => h) (fun H locs hP hS _ _ => ?_)
  refine lv_if_ne (tgt := 13) hx hb dX0_step_8 (by decide) (fun (c1 : ¬ (S0_isPlaceOfWord (W_pc u) u) = 0) => ?_) (fun (c1 : (S0_isPlaceOfWord (W_pc u) u) = 0) => ?_)
  · refine lv_aload_n hx hb dX0_step_13 rfl (lv_at hl 0 rfl) ?_
    refine lv_aload_n hx hb dX0_step_14 rfl (lv_at hl 0 rfl) ?_
    refine va_get (D := D) (ci := 0) (v := .ref q1) (C := RX0) (T := TX0) (N := 6) hx hb hts iwX0_step hown hK hP 0 rfl rfl 0 (by decide) (hts (.fieldLink RX0 9 "WordMachine" "code" "[I") flX0_step_9) (fun _ h9 => h9) rfl dX0_step_15 ?_
    refine lv_aload_n hx hb dX0_step_18 rfl (lv_at hl 0 rfl) ?_
    refine va_get (D := D) (ci := 0) (v := .int (W_pc u)) (C := RX0) (T := TX0) (N := 6) hx hb hts iwX0_step hown hK hP 0 rfl rfl 4 (by decide) (hts (.fieldLink RX0 23 "WordMachine" "pc" "I") flX0_step_23) (fun _ h9 => h9) rfl dX0_step_19 ?_
    refine lv_iconst (v := 4) hx hb dX0_step_22 (by decide) ?_
    refine lv_idiv hx hb dX0_step_23 (by decide) ?_
    refine va_iald hx hb hK hP 1 0 rfl rfl (ix_place c1 hw) dX0_step_24 ?_
    refine in_i (v := (S0_perform (W_code u ((W_pc u) / 4).toNatClampNeg) u).1) (As := [.int (W_code u ((W_pc u) / 4).toNatClampNeg)]) (rest := []) (w1 := ww0 cI h q1 q2 q3 ((S0_perform (W_code u ((W_pc u) / 4).toNatClampNeg) u).2)) ⟨hx, hb, hml, hown, hts⟩ (c0_perform l hap (W_code u ((W_pc u) / 4).toNatClampNeg) u ) gX0_step_X0_perform rfl hdX0_perform ⟨Nat.le_of_ble_eq_true rfl, Nat.le_of_ble_eq_true rfl⟩ hK rfl rfl hl.1 rfl (Nat.le_of_ble_eq_true rfl) dX0_step_25 ⟨Nat.zero_le _, Nat.zero_le _⟩ hP hS (fun _ h => h) (fun H locs hP hS _ _ => ?_)
    refine lv_istore_n (lv' := [(1, .int ((S0_perform (W_code u ((W_pc u) / 4).toNatClampNeg) u).1)), (0, .ref h)]) hx hb dX0_step_28 rfl hl (by decide) rfl (fun ls hl => ?_)
    refine lv_iload_n hx hb dX0_step_29 rfl (lv_at hl 0 rfl) ?_
    refine lv_if_eq (tgt := 38) hx hb dX0_step_30 (by decide) (fun (c2 : ((S0_perform (W_code u ((W_pc u) / 4).toNatClampNeg) u).1) = 0) => ?_) (fun (c2 : ¬ ((S0_perform (W_code u ((W_pc u) / 4).toNatClampNeg) u).1) = 0) => ?_)
    · refine lv_aload_n hx hb dX0_step_38 rfl (lv_at hl 1 rfl) ?_
      refine lv_dup hx hb dX0_step_39 rfl ?_
      refine va_get (D := D) (ci := 0) (v := .int (W_st ((S0_perform (W_code u ((W_pc u) / 4).toNatClampNeg) u).2))) (C := RX0) (T := TX0) (N := 6) hx hb hts iwX0_step hown hK hP 0 rfl rfl 5 (by decide) (hts (.fieldLink RX0 26 "WordMachine" "stepsDone" "I") flX0_step_26) (fun _ h9 => h9) rfl dX0_step_40 ?_
      refine lv_iconst (v := 1) hx hb dX0_step_43 (by decide) ?_
      refine lv_iadd hx hb dX0_step_44 ?_
      refine va_put (D := D) (ci := 0) (v := .int ((W_st ((S0_perform (W_code u ((W_pc u) / 4).toNatClampNeg) u).2)) + 1)) (ty := .int) (C := RX0) (T := TX0) (N := 6) hx hb hts iwX0_step tyX0 tyX0_ok nmX0 hown hK hP (ap4_D hap) hS 0 rfl rfl 5 (by decide) (hts (.fieldLink RX0 26 "WordMachine" "stepsDone" "I") flX0_step_26) (fun _ h9 => h9) rfl (by decide +kernel) rfl rfl (Nat.le_of_ble_eq_true rfl) dX0_step_45 (fun H locs hP _ hS => ?_)
      have hP : va_P D vwCl (ww0 cI h q1 q2 q3 (Wp_st ((W_st ((S0_perform (W_code u ((W_pc u) / 4).toNatClampNeg) u).2)) + 1) ((S0_perform (W_code u ((W_pc u) / 4).toNatClampNeg) u).2))) H := hP
      refine lv_iload_n hx hb dX0_step_48 rfl (lv_at hl 0 rfl) ?_
      have e9 : S0_step u = ((S0_perform (W_code u ((W_pc u) / 4).toNatClampNeg) u).1, Wp_st ((W_st ((S0_perform (W_code u ((W_pc u) / 4).toNatClampNeg) u).2)) + 1) ((S0_perform (W_code u ((W_pc u) / 4).toNatClampNeg) u).2)) := by rw [S0_step, if_neg c1, if_pos c2]
      exact W.iret (v := (S0_perform (W_code u ((W_pc u) / 4).toNatClampNeg) u).1) hx hb hr (fun t ht hW => ⟨⟨(S0_perform (W_code u ((W_pc u) / 4).toNatClampNeg) u).1, (), rfl, by rw [e9], by show va_P _ _ _ t.heap; rw [e9, ht]; exact hP⟩, hS.F ht⟩) hS.2.2 dX0_step_49
    · refine lv_iload_n hx hb dX0_step_33 rfl (lv_at hl 0 rfl) ?_
      refine lv_iconst (v := 1) hx hb dX0_step_34 (by decide) ?_
      refine lv_icmp_ne (tgt := 48) hx hb dX0_step_35 (by decide) (fun (c3 : ¬ ((S0_perform (W_code u ((W_pc u) / 4).toNatClampNeg) u).1) = 1) => ?_) (fun (c3 : ((S0_perform (W_code u ((W_pc u) / 4).toNatClampNeg) u).1) = 1) => ?_)
      · refine lv_iload_n hx hb dX0_step_48 rfl (lv_at hl 0 rfl) ?_
        have e9 : S0_step u = ((S0_perform (W_code u ((W_pc u) / 4).toNatClampNeg) u).1, (S0_perform (W_code u ((W_pc u) / 4).toNatClampNeg) u).2) := by rw [S0_step, if_neg c1, if_neg c2, if_neg c3]
        exact W.iret (v := (S0_perform (W_code u ((W_pc u) / 4).toNatClampNeg) u).1) hx hb hr (fun t ht hW => ⟨⟨(S0_perform (W_code u ((W_pc u) / 4).toNatClampNeg) u).1, (), rfl, by rw [e9], by show va_P _ _ _ t.heap; rw [e9, ht]; exact hP⟩, hS.F ht⟩) hS.2.2 dX0_step_49
      · refine lv_aload_n hx hb dX0_step_38 rfl (lv_at hl 1 rfl) ?_
        refine lv_dup hx hb dX0_step_39 rfl ?_
        refine va_get (D := D) (ci := 0) (v := .int (W_st ((S0_perform (W_code u ((W_pc u) / 4).toNatClampNeg) u).2))) (C := RX0) (T := TX0) (N := 6) hx hb hts iwX0_step hown hK hP 0 rfl rfl 5 (by decide) (hts (.fieldLink RX0 26 "WordMachine" "stepsDone" "I") flX0_step_26) (fun _ h9 => h9) rfl dX0_step_40 ?_
        refine lv_iconst (v := 1) hx hb dX0_step_43 (by decide) ?_
        refine lv_iadd hx hb dX0_step_44 ?_
        refine va_put (D := D) (ci := 0) (v := .int ((W_st ((S0_perform (W_code u ((W_pc u) / 4).toNatClampNeg) u).2)) + 1)) (ty := .int) (C := RX0) (T := TX0) (N := 6) hx hb hts iwX0_step tyX0 tyX0_ok nmX0 hown hK hP (ap4_D hap) hS 0 rfl rfl 5 (by decide) (hts (.fieldLink RX0 26 "WordMachine" "stepsDone" "I") flX0_step_26) (fun _ h9 => h9) rfl (by decide +kernel) rfl rfl (Nat.le_of_ble_eq_true rfl) dX0_step_45 (fun H locs hP _ hS => ?_)
        have hP : va_P D vwCl (ww0 cI h q1 q2 q3 (Wp_st ((W_st ((S0_perform (W_code u ((W_pc u) / 4).toNatClampNeg) u).2)) + 1) ((S0_perform (W_code u ((W_pc u) / 4).toNatClampNeg) u).2))) H := hP
        refine lv_iload_n hx hb dX0_step_48 rfl (lv_at hl 0 rfl) ?_
        have e9 : S0_step u = ((S0_perform (W_code u ((W_pc u) / 4).toNatClampNeg) u).1, Wp_st ((W_st ((S0_perform (W_code u ((W_pc u) / 4).toNatClampNeg) u).2)) + 1) ((S0_perform (W_code u ((W_pc u) / 4).toNatClampNeg) u).2)) := by rw [S0_step, if_neg c1, if_neg c2, if_pos c3]
        exact W.iret (v := (S0_perform (W_code u ((W_pc u) / 4).toNatClampNeg) u).1) hx hb hr (fun t ht hW => ⟨⟨(S0_perform (W_code u ((W_pc u) / 4).toNatClampNeg) u).1, (), rfl, by rw [e9], by show va_P _ _ _ t.heap; rw [e9, ht]; exact hP⟩, hS.F ht⟩) hS.2.2 dX0_step_49
  · refine lv_iconst (v := 2) hx hb dX0_step_11 (by decide) ?_
    have e9 : S0_step u = ((2 : Int32), u) := by rw [S0_step, if_pos c1]
    exact W.iret (v := (2 : Int32)) hx hb hr (fun t ht hW => ⟨⟨(2 : Int32), (), rfl, by rw [e9], by show va_P _ _ _ t.heap; rw [e9, ht]; exact hP⟩, hS.F ht⟩) hS.2.2 dX0_step_12
