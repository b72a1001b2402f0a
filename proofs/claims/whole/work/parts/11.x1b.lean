theorem iwX1_give : ∀ w ∈ wsX10, w ∈ wsX1_give := by decide +kernel
theorem flX1_give_13 : Cond.fieldLink RX1 13 "WordMachineModel" "registers" "[J" ∈ wsX1_give := by decide +kernel
theorem hdX1_give : yX1_give.cls = RX1 ∧ yX1_give.cls ≠ "java/lang/invoke/MethodHandle" ∧ yX1_give.cls ≠ "java/lang/invoke/VarHandle" ∧ (parseMethodDescriptor yX1_give.desc).map (fun d => d.parameters.length) = some 2 := by decide +kernel
set_option maxHeartbeats 4000000 in
set_option maxRecDepth 100000 in
theorem c1_give (l : Launch) {D : va_G} {cI cJ cB : ClassId} {h q1 q2 q3 : Nat} (hap : ap4 h q1 q2 q3) (ra : Int32) (va : Int64) (u : MS) (hr32 : ra < 32) : Inv l yX1_give wsX1_give 1 21 D (ty1 cI cJ cB) (wa0 h q1 q2 q3) [.ref h, .int ra, .long va] (ww1 cI cJ cB h q1 q2 q3 u) (ww1 cI cJ cB h q1 q2 q3 (S1_give ra va u))  := by
  refine Met.ofW (cc := cX1_give) (maxL := 4) (ret := none) (by decide) rfl ?_
  intro p e s m args below meth c s₁ B hml hv
  obtain ⟨rfl, hP, hK⟩ := hv
  have hx := B.exec
  have hb := B.bytes
  have hr := B.returns
  have hts := atoms_spec (ws := wsX1_give) B.pre
  have hown : s.vm.findClass RX1 = some m.cls := findClass_of_methodNamed B.named
  have hlocks := B.notSynchronized
  have hS : va_S (wa0 h q1 q2 q3) s.heap s.heap [] := va_S.rf
  have hl := lv_entry ([.ref h, .int ra, .long va]) (n := 4) (Nat.le_of_ble_eq_true rfl)
  rw [lg_entry_eq]
  generalize (lg_sl ([.ref h, .int ra, .long va]) ++ List.replicate (4 - (lg_sl ([.ref h, .int ra, .long va])).length) Slot.unset).toArray = ls at hl ⊢
  have hl : lv_has ls 4 [(0, .ref h), (1, .int ra), (2, .long va)] := hl
  refine lv_iload_n hx hb dX1_give_0 rfl (lv_at hl 1 rfl) ?_
  refine lv_if_le (tgt := 14) hx hb dX1_give_1 (by decide) (fun (c1 : ra ≤ 0) => ?_) (fun (c1 : ¬ ra ≤ 0) => ?_)
  · have e9 : S1_give ra va u = u := by rw [S1_give, if_pos c1]
    exact W.vret hx hb hr (fun t ht hW => ⟨⟨(), rfl, trivial, by show va_P _ _ _ t.heap; rw [e9, ht]; exact hP⟩, hS.F ht⟩) hS.2.2 dX1_give_14
  · refine lv_aload_n hx hb dX1_give_4 rfl (lv_at hl 0 rfl) ?_
    refine va_get (D := D) (ci := 1) (v := .ref q2) (C := RX1) (T := TX1) (N := 12) hx hb hts iwX1_give hown hK hP 0 rfl rfl 4 (by decide) (hts (.fieldLink RX1 13 "WordMachineModel" "registers" "[J") flX1_give_13) (fun _ h9 => h9) rfl dX1_give_5 ?_
    refine lv_iload_n hx hb dX1_give_8 rfl (lv_at hl 1 rfl) ?_
    refine lv_lload_n hx hb dX1_give_9 rfl (lv_at hl 2 rfl) ?_
    refine pu_l (v := S1_plain va) (As := [.long va]) (rest := [.int ra, .ref q2]) ⟨hx, hb, hml, hown, hts⟩ (c1_plain l va ) gX1_give_X1_plain rfl hdX1_plain ⟨Nat.le_of_ble_eq_true rfl, Nat.le_of_ble_eq_true rfl⟩ hl.1 rfl (Nat.le_of_ble_eq_true rfl) dX1_give_10 ⟨Nat.zero_le _, Nat.zero_le _⟩ hP hS (fun H locs hP hS => ?_)
    refine va_last hx hb hK hP (ap4_D hap) hS 2 1 rfl rfl (ix_give c1 hr32) dX1_give_13 (fun H locs hP _ hS => ?_)
    have hP : va_P D vwCl (ww1 cI cJ cB h q1 q2 q3 (Mp_regs (vp_updL (M_regs u) ra.toNatClampNeg (S1_plain va)) u)) H := hP
    have e9 : S1_give ra va u = Mp_regs (vp_updL (M_regs u) ra.toNatClampNeg (S1_plain va)) u := by rw [S1_give, if_neg c1]
    exact W.vret hx hb hr (fun t ht hW => ⟨⟨(), rfl, trivial, by show va_P _ _ _ t.heap; rw [e9, ht]; exact hP⟩, hS.F ht⟩) hS.2.2 dX1_give_14
theorem iwX1_word : ∀ w ∈ wsX10, w ∈ wsX1_word := by decide +kernel
theorem flX1_word_7 : Cond.fieldLink RX1 7 "WordMachineModel" "code" "[I" ∈ wsX1_word := by decide +kernel
theorem flX1_word_21 : Cond.fieldLink RX1 21 "WordMachineModel" "words" "I" ∈ wsX1_word := by decide +kernel
theorem hdX1_word : yX1_word.cls = RX1 ∧ yX1_word.cls ≠ "java/lang/invoke/MethodHandle" ∧ yX1_word.cls ≠ "java/lang/invoke/VarHandle" ∧ (parseMethodDescriptor yX1_word.desc).map (fun d => d.parameters.length) = some 1 := by decide +kernel
set_option maxHeartbeats 4000000 in
set_option maxRecDepth 100000 in
theorem c1_word (l : Launch) {D : va_G} {cI cJ cB : ClassId} {h q1 q2 q3 : Nat} (hap : ap4 h q1 q2 q3) (wa : Int32) (u : MS) (h0 : 0 ≤ M_wc u) (h1 : M_wc u ≤ 1024) : Ini l yX1_word wsX1_word 0 0 D (ty1 cI cJ cB) (wa0 h q1 q2 q3) [.ref h, .int wa] (ww1 cI cJ cB h q1 q2 q3 u) (ww1 cI cJ cB h q1 q2 q3 (S1_word wa u).2) (S1_word wa u).1 := by
  refine Met.ofW (cc := cX1_word) (maxL := 2) (ret := (some .int)) (by decide) rfl ?_
  intro p e s m args below meth c s₁ B hml hv
  obtain ⟨rfl, hP, hK⟩ := hv
  have hx := B.exec
  have hb := B.bytes
  have hr := B.returns
  have hts := atoms_spec (ws := wsX1_word) B.pre
  have hown : s.vm.findClass RX1 = some m.cls := findClass_of_methodNamed B.named
  have hlocks := B.notSynchronized
  have hS : va_S (wa0 h q1 q2 q3) s.heap s.heap [] := va_S.rf
  have hl := lv_entry ([.ref h, .int wa]) (n := 2) (Nat.le_of_ble_eq_true rfl)
  rw [lg_entry_eq]
  generalize (lg_sl ([.ref h, .int wa]) ++ List.replicate (2 - (lg_sl ([.ref h, .int wa])).length) Slot.unset).toArray = ls at hl ⊢
  have hl : lv_has ls 2 [(0, .ref h), (1, .int wa)] := hl
  refine lv_aload_n hx hb dX1_word_0 rfl (lv_at hl 0 rfl) ?_
  refine va_get (D := D) (ci := 1) (v := .int (M_wc u)) (C := RX1) (T := TX1) (N := 12) hx hb hts iwX1_word hown hK hP 0 rfl rfl 1 (by decide) (hts (.fieldLink RX1 21 "WordMachineModel" "words" "I") flX1_word_21) (fun _ h9 => h9) rfl dX1_word_1 ?_
  refine lv_sipush (v := 1024) hx hb dX1_word_4 (by decide) ?_
  refine lv_icmp_ne (tgt := 12) hx hb dX1_word_7 (by decide) (fun (c1 : ¬ (M_wc u) = 1024) => ?_) (fun (c1 : (M_wc u) = 1024) => ?_)
  · refine lv_aload_n hx hb dX1_word_12 rfl (lv_at hl 0 rfl) ?_
    refine va_get (D := D) (ci := 1) (v := .ref q1) (C := RX1) (T := TX1) (N := 12) hx hb hts iwX1_word hown hK hP 0 rfl rfl 0 (by decide) (hts (.fieldLink RX1 7 "WordMachineModel" "code" "[I") flX1_word_7) (fun _ h9 => h9) rfl dX1_word_13 ?_
    refine lv_aload_n hx hb dX1_word_16 rfl (lv_at hl 0 rfl) ?_
    refine va_get (D := D) (ci := 1) (v := .int (M_wc u)) (C := RX1) (T := TX1) (N := 12) hx hb hts iwX1_word hown hK hP 0 rfl rfl 1 (by decide) (hts (.fieldLink RX1 21 "WordMachineModel" "words" "I") flX1_word_21) (fun _ h9 => h9) rfl dX1_word_17 ?_
    refine lv_iload_n hx hb dX1_word_20 rfl (lv_at hl 1 rfl) ?_
    refine va_iast hx hb hK hP (ap4_D hap) hS 1 0 rfl rfl (ix_word1 h0 h1 c1) dX1_word_21 (fun H locs hP _ hS => ?_)
    have hP : va_P D vwCl (ww1 cI cJ cB h q1 q2 q3 (Mp_code (upd (M_code u) (M_wc u).toNatClampNeg wa) u)) H := hP
    refine lv_aload_n hx hb dX1_word_22 rfl (lv_at hl 0 rfl) ?_
    refine lv_dup hx hb dX1_word_23 rfl ?_
    refine va_get (D := D) (ci := 1) (v := .int (M_wc (Mp_code (upd (M_code u) (M_wc u).toNatClampNeg wa) u))) (C := RX1) (T := TX1) (N := 12) hx hb hts iwX1_word hown hK hP 0 rfl rfl 1 (by decide) (hts (.fieldLink RX1 21 "WordMachineModel" "words" "I") flX1_word_21) (fun _ h9 => h9) rfl dX1_word_24 ?_
    refine lv_iconst (v := 1) hx hb dX1_word_27 (by decide) ?_
    refine lv_iadd hx hb dX1_word_28 ?_
    refine va_put (D := D) (ci := 1) (v := .int ((M_wc (Mp_code (upd (M_code u) (M_wc u).toNatClampNeg wa) u)) + 1)) (ty := .int) (C := RX1) (T := TX1) (N := 12) hx hb hts iwX1_word tyX1 tyX1_ok nmX1 hown hK hP (ap4_D hap) hS 0 rfl rfl 1 (by decide) (hts (.fieldLink RX1 21 "WordMachineModel" "words" "I") flX1_word_21) (fun _ h9 => h9) rfl (by decide +kernel) rfl rfl (Nat.le_of_ble_eq_true rfl) dX1_word_29 (fun H locs hP _ hS => ?_)
    have hP : va_P D vwCl (ww1 cI cJ cB h q1 q2 q3 (Mp_wc ((M_wc (Mp_code (upd (M_code u) (M_wc u).toNatClampNeg wa) u)) + 1) (Mp_code (upd (M_code u) (M_wc u).toNatClampNeg wa) u))) H := hP
    refine lv_aload_n hx hb dX1_word_32 rfl (lv_at hl 0 rfl) ?_
    refine va_get (D := D) (ci := 1) (v := .int (M_wc (Mp_wc ((M_wc (Mp_code (upd (M_code u) (M_wc u).toNatClampNeg wa) u)) + 1) (Mp_code (upd (M_code u) (M_wc u).toNatClampNeg wa) u)))) (C := RX1) (T := TX1) (N := 12) hx hb hts iwX1_word hown hK hP 0 rfl rfl 1 (by decide) (hts (.fieldLink RX1 21 "WordMachineModel" "words" "I") flX1_word_21) (fun _ h9 => h9) rfl dX1_word_33 ?_
    have e9 : S1_word wa u = (M_wc (Mp_wc ((M_wc (Mp_code (upd (M_code u) (M_wc u).toNatClampNeg wa) u)) + 1) (Mp_code (upd (M_code u) (M_wc u).toNatClampNeg wa) u)), Mp_wc ((M_wc (Mp_code (upd (M_code u) (M_wc u).toNatClampNeg wa) u)) + 1) (Mp_code (upd (M_code u) (M_wc u).toNatClampNeg wa) u)) := by rw [S1_word, if_neg c1]
    exact W.iret (v := M_wc (Mp_wc ((M_wc (Mp_code (upd (M_code u) (M_wc u).toNatClampNeg wa) u)) + 1) (Mp_code (upd (M_code u) (M_wc u).toNatClampNeg wa) u))) hx hb hr (fun t ht hW => ⟨⟨M_wc (Mp_wc ((M_wc (Mp_code (upd (M_code u) (M_wc u).toNatClampNeg wa) u)) + 1) (Mp_code (upd (M_code u) (M_wc u).toNatClampNeg wa) u)), (), rfl, by rw [e9], by show va_P _ _ _ t.heap; rw [e9, ht]; exact hP⟩, hS.F ht⟩) hS.2.2 dX1_word_36
  · refine lv_iconst (v := (-1)) hx hb dX1_word_10 (by decide) ?_
    have e9 : S1_word wa u = (((-1) : Int32), u) := by rw [S1_word, if_pos c1]
    exact W.iret (v := ((-1) : Int32)) hx hb hr (fun t ht hW => ⟨⟨((-1) : Int32), (), rfl, by rw [e9], by show va_P _ _ _ t.heap; rw [e9, ht]; exact hP⟩, hS.F ht⟩) hS.2.2 dX1_word_11
theorem hdX1_put : yX1_put.cls = RX1 ∧ yX1_put.cls ≠ "java/lang/invoke/MethodHandle" ∧ yX1_put.cls ≠ "java/lang/invoke/VarHandle" ∧ (parseMethodDescriptor yX1_put.desc).map (fun d => d.parameters.length) = some 2 := by decide +kernel
set_option maxHeartbeats 4000000 in
set_option maxRecDepth 100000 in
theorem c1_put (l : Launch) {D : va_G} {cI cJ cB : ClassId} {h q1 q2 q3 : Nat} (hap : ap4 h q1 q2 q3) (ra : Int32) (va : Int32) (u : MS)  : Ini l yX1_put wsX1_put 2 44 D (ty1 cI cJ cB) (wa0 h q1 q2 q3) [.ref h, .int ra, .int va] (ww1 cI cJ cB h q1 q2 q3 u) (ww1 cI cJ cB h q1 q2 q3 (S1_put ra va u).2) (S1_put ra va u).1 := by
  refine Met.ofW (cc := cX1_put) (maxL := 3) (ret := (some .boolean)) (by decide) rfl ?_
  intro p e s m args below meth c s₁ B hml hv
  obtain ⟨rfl, hP, hK⟩ := hv
  have hx := B.exec
  have hb := B.bytes
  have hr := B.returns
  have hts := atoms_spec (ws := wsX1_put) B.pre
  have hown : s.vm.findClass RX1 = some m.cls := findClass_of_methodNamed B.named
  have hlocks := B.notSynchronized
  have hS : va_S (wa0 h q1 q2 q3) s.heap s.heap [] := va_S.rf
  have hl := lv_entry ([.ref h, .int ra, .int va]) (n := 3) (Nat.le_of_ble_eq_true rfl)
  rw [lg_entry_eq]
  generalize (lg_sl ([.ref h, .int ra, .int va]) ++ List.replicate (3 - (lg_sl ([.ref h, .int ra, .int va])).length) Slot.unset).toArray = ls at hl ⊢
  have hl : lv_has ls 3 [(0, .ref h), (1, .int ra), (2, .int va)] := hl
  refine lv_iload_n hx hb dX1_put_0 rfl (lv_at hl 1 rfl) ?_
  refine lv_if_lt (tgt := 10) hx hb dX1_put_1 (by decide) (fun (c1 : ra < 0) => ?_) (fun (c1 : ¬ ra < 0) => ?_)
  · refine lv_iconst (v := 0) hx hb dX1_put_10 (by decide) ?_
    have e9 : S1_put ra va u = ((0 : Int32), u) := by rw [S1_put, if_pos c1]
    exact W.zret (v := (0 : Int32)) hx hb hr rfl (fun t ht hW => ⟨⟨(0 : Int32), (), rfl, by rw [e9], by show va_P _ _ _ t.heap; rw [e9, ht]; exact hP⟩, hS.F ht⟩) hS.2.2 dX1_put_11
  · refine lv_iload_n hx hb dX1_put_4 rfl (lv_at hl 1 rfl) ?_
    refine lv_bipush (v := 31) hx hb dX1_put_5 (by decide) ?_
    refine lv_icmp_le (tgt := 12) hx hb dX1_put_7 (by decide) (fun (c2 : ra ≤ 31) => ?_) (fun (c2 : ¬ ra ≤ 31) => ?_)
    · refine lv_aload_n hx hb dX1_put_12 rfl (lv_at hl 0 rfl) ?_
      refine lv_iload_n hx hb dX1_put_13 rfl (lv_at hl 1 rfl) ?_
      refine lv_iload_n hx hb dX1_put_14 rfl (lv_at hl 2 rfl) ?_
      refine lv_i2l (v := va.toInt64) hx hb dX1_put_15 rfl ?_
      refine in_v (As := [.int ra, .long va.toInt64]) (rest := []) (w1 := ww1 cI cJ cB h q1 q2 q3 (S1_give ra va.toInt64 u)) ⟨hx, hb, hml, hown, hts⟩ (c1_give l hap ra va.toInt64 u (lt32 c2)) gX1_put_X1_give rfl hdX1_give ⟨Nat.le_of_ble_eq_true rfl, Nat.le_of_ble_eq_true rfl⟩ hK rfl rfl hl.1 rfl (Nat.le_of_ble_eq_true rfl) dX1_put_16 ⟨Nat.zero_le _, Nat.zero_le _⟩ hP hS (fun _ h => h) (fun H locs hP hS _ _ => ?_)
      refine lv_iconst (v := 1) hx hb dX1_put_19 (by decide) ?_
      have e9 : S1_put ra va u = ((1 : Int32), S1_give ra va.toInt64 u) := by rw [S1_put, if_neg c1, if_pos c2]
      exact W.zret (v := (1 : Int32)) hx hb hr rfl (fun t ht hW => ⟨⟨(1 : Int32), (), rfl, by rw [e9], by show va_P _ _ _ t.heap; rw [e9, ht]; exact hP⟩, hS.F ht⟩) hS.2.2 dX1_put_20
    · refine lv_iconst (v := 0) hx hb dX1_put_10 (by decide) ?_
      have e9 : S1_put ra va u = ((0 : Int32), u) := by rw [S1_put, if_neg c1, if_neg c2]
      exact W.zret (v := (0 : Int32)) hx hb hr rfl (fun t ht hW => ⟨⟨(0 : Int32), (), rfl, by rw [e9], by show va_P _ _ _ t.heap; rw [e9, ht]; exact hP⟩, hS.F ht⟩) hS.2.2 dX1_put_11
theorem iwX1_get : ∀ w ∈ wsX10, w ∈ wsX1_get := by decide +kernel
theorem flX1_get_13 : Cond.fieldLink RX1 13 "WordMachineModel" "registers" "[J" ∈ wsX1_get := by decide +kernel
theorem hdX1_get : yX1_get.cls = RX1 ∧ yX1_get.cls ≠ "java/lang/invoke/MethodHandle" ∧ yX1_get.cls ≠ "java/lang/invoke/VarHandle" ∧ (parseMethodDescriptor yX1_get.desc).map (fun d => d.parameters.length) = some 1 := by decide +kernel
set_option maxHeartbeats 4000000 in
set_option maxRecDepth 100000 in
theorem c1_get (l : Launch) {D : va_G} {cI cJ cB : ClassId} {h q1 q2 q3 : Nat} (hap : ap4 h q1 q2 q3) (ra : Int32) (u : MS)  : Ini l yX1_get wsX1_get 0 0 D (ty1 cI cJ cB) (wa0 h q1 q2 q3) [.ref h, .int ra] (ww1 cI cJ cB h q1 q2 q3 u) (ww1 cI cJ cB h q1 q2 q3 u) (S1_get ra u) := by
  refine Met.ofW (cc := cX1_get) (maxL := 2) (ret := (some .int)) (by decide) rfl ?_
  intro p e s m args below meth c s₁ B hml hv
  obtain ⟨rfl, hP, hK⟩ := hv
  have hx := B.exec
  have hb := B.bytes
  have hr := B.returns
  have hts := atoms_spec (ws := wsX1_get) B.pre
  have hown : s.vm.findClass RX1 = some m.cls := findClass_of_methodNamed B.named
  have hlocks := B.notSynchronized
  have hS : va_S (wa0 h q1 q2 q3) s.heap s.heap [] := va_S.rf
  have hl := lv_entry ([.ref h, .int ra]) (n := 2) (Nat.le_of_ble_eq_true rfl)
  rw [lg_entry_eq]
  generalize (lg_sl ([.ref h, .int ra]) ++ List.replicate (2 - (lg_sl ([.ref h, .int ra])).length) Slot.unset).toArray = ls at hl ⊢
  have hl : lv_has ls 2 [(0, .ref h), (1, .int ra)] := hl
  refine lv_iload_n hx hb dX1_get_0 rfl (lv_at hl 1 rfl) ?_
  refine lv_if_lt (tgt := 20) hx hb dX1_get_1 (by decide) (fun (c1 : ra < 0) => ?_) (fun (c1 : ¬ ra < 0) => ?_)
  · refine lv_iconst (v := 0) hx hb dX1_get_20 (by decide) ?_
    have e9 : S1_get ra u = (0 : Int32) := by rw [S1_get, if_pos c1]
    exact W.iret (v := (0 : Int32)) hx hb hr (fun t ht hW => ⟨⟨(0 : Int32), (), rfl, e9.symm, (by show va_P _ _ _ t.heap; rw [ht]; exact hP)⟩, hS.F ht⟩) hS.2.2 dX1_get_21
  · refine lv_iload_n hx hb dX1_get_4 rfl (lv_at hl 1 rfl) ?_
    refine lv_bipush (v := 32) hx hb dX1_get_5 (by decide) ?_
    refine lv_icmp_ge (tgt := 20) hx hb dX1_get_7 (by decide) (fun (c2 : 32 ≤ ra) => ?_) (fun (c2 : ¬ 32 ≤ ra) => ?_)
    · refine lv_iconst (v := 0) hx hb dX1_get_20 (by decide) ?_
      have e9 : S1_get ra u = (0 : Int32) := by rw [S1_get, if_neg c1, if_pos c2]
      exact W.iret (v := (0 : Int32)) hx hb hr (fun t ht hW => ⟨⟨(0 : Int32), (), rfl, e9.symm, (by show va_P _ _ _ t.heap; rw [ht]; exact hP)⟩, hS.F ht⟩) hS.2.2 dX1_get_21
    · refine lv_aload_n hx hb dX1_get_10 rfl (lv_at hl 0 rfl) ?_
      refine va_get (D := D) (ci := 1) (v := .ref q2) (C := RX1) (T := TX1) (N := 12) hx hb hts iwX1_get hown hK hP 0 rfl rfl 4 (by decide) (hts (.fieldLink RX1 13 "WordMachineModel" "registers" "[J") flX1_get_13) (fun _ h9 => h9) rfl dX1_get_11 ?_
      refine lv_iload_n hx hb dX1_get_14 rfl (lv_at hl 1 rfl) ?_
      refine va_lald hx hb hK hP 2 1 rfl rfl (ix_get c1 c2) dX1_get_15 ?_
      refine lv_l2i (v := (M_regs u ra.toNatClampNeg).toInt32) hx hb dX1_get_16 rfl ?_
      refine lv_goto (tgt := 21) hx hb dX1_get_17 (by decide) ?_
      have e9 : S1_get ra u = (M_regs u ra.toNatClampNeg).toInt32 := by rw [S1_get, if_neg c1, if_neg c2]
      exact W.iret (v := (M_regs u ra.toNatClampNeg).toInt32) hx hb hr (fun t ht hW => ⟨⟨(M_regs u ra.toNatClampNeg).toInt32, (), rfl, e9.symm, (by show va_P _ _ _ t.heap; rw [ht]; exact hP)⟩, hS.F ht⟩) hS.2.2 dX1_get_21
theorem iwX1_poke : ∀ w ∈ wsX10, w ∈ wsX1_poke := by decide +kernel
theorem flX1_poke_17 : Cond.fieldLink RX1 17 "WordMachineModel" "memory" "[B" ∈ wsX1_poke := by decide +kernel
theorem hdX1_poke : yX1_poke.cls = RX1 ∧ yX1_poke.cls ≠ "java/lang/invoke/MethodHandle" ∧ yX1_poke.cls ≠ "java/lang/invoke/VarHandle" ∧ (parseMethodDescriptor yX1_poke.desc).map (fun d => d.parameters.length) = some 2 := by decide +kernel
set_option maxHeartbeats 4000000 in
set_option maxRecDepth 100000 in
theorem c1_poke (l : Launch) {D : va_G} {cI cJ cB : ClassId} {h q1 q2 q3 : Nat} (hap : ap4 h q1 q2 q3) (aa : Int32) (va : Int32) (u : MS)  : Ini l yX1_poke wsX1_poke 0 0 D (ty1 cI cJ cB) (wa0 h q1 q2 q3) [.ref h, .int aa, .int va] (ww1 cI cJ cB h q1 q2 q3 u) (ww1 cI cJ cB h q1 q2 q3 (S1_poke aa va u).2) (S1_poke aa va u).1 := by
  refine Met.ofW (cc := cX1_poke) (maxL := 3) (ret := (some .boolean)) (by decide) rfl ?_
  intro p e s m args below meth c s₁ B hml hv
  obtain ⟨rfl, hP, hK⟩ := hv
  have hx := B.exec
  have hb := B.bytes
  have hr := B.returns
  have hts := atoms_spec (ws := wsX1_poke) B.pre
  have hown : s.vm.findClass RX1 = some m.cls := findClass_of_methodNamed B.named
  have hlocks := B.notSynchronized
  have hS : va_S (wa0 h q1 q2 q3) s.heap s.heap [] := va_S.rf
  have hl := lv_entry ([.ref h, .int aa, .int va]) (n := 3) (Nat.le_of_ble_eq_true rfl)
  rw [lg_entry_eq]
  generalize (lg_sl ([.ref h, .int aa, .int va]) ++ List.replicate (3 - (lg_sl ([.ref h, .int aa, .int va])).length) Slot.unset).toArray = ls at hl ⊢
  have hl : lv_has ls 3 [(0, .ref h), (1, .int aa), (2, .int va)] := hl
  refine lv_iload_n hx hb dX1_poke_0 rfl (lv_at hl 1 rfl) ?_
  refine lv_if_lt (tgt := 11) hx hb dX1_poke_1 (by decide) (fun (c1 : aa < 0) => ?_) (fun (c1 : ¬ aa < 0) => ?_)
  · refine lv_iconst (v := 0) hx hb dX1_poke_11 (by decide) ?_
    have e9 : S1_poke aa va u = ((0 : Int32), u) := by rw [S1_poke, if_pos c1]
    exact W.zret (v := (0 : Int32)) hx hb hr rfl (fun t ht hW => ⟨⟨(0 : Int32), (), rfl, by rw [e9], by show va_P _ _ _ t.heap; rw [e9, ht]; exact hP⟩, hS.F ht⟩) hS.2.2 dX1_poke_12
  · refine lv_iload_n hx hb dX1_poke_4 rfl (lv_at hl 1 rfl) ?_
    refine lv_sipush (v := 4095) hx hb dX1_poke_5 (by decide) ?_
    refine lv_icmp_le (tgt := 13) hx hb dX1_poke_8 (by decide) (fun (c2 : aa ≤ 4095) => ?_) (fun (c2 : ¬ aa ≤ 4095) => ?_)
    · refine lv_aload_n hx hb dX1_poke_13 rfl (lv_at hl 0 rfl) ?_
      refine va_get (D := D) (ci := 1) (v := .ref q3) (C := RX1) (T := TX1) (N := 12) hx hb hts iwX1_poke hown hK hP 0 rfl rfl 5 (by decide) (hts (.fieldLink RX1 17 "WordMachineModel" "memory" "[B") flX1_poke_17) (fun _ h9 => h9) rfl dX1_poke_14 ?_
      refine lv_iload_n hx hb dX1_poke_17 rfl (lv_at hl 1 rfl) ?_
      refine lv_iload_n hx hb dX1_poke_18 rfl (lv_at hl 2 rfl) ?_
      refine lv_i2b (v := va.toInt8.toInt32) hx hb dX1_poke_19 rfl ?_
      refine va_bast hx hb hK hP (ap4_D hap) hS 3 2 rfl rfl (ix_poke c1 c2) dX1_poke_20 (fun H locs hP _ hS => ?_)
      have hP : va_P D vwCl (ww1 cI cJ cB h q1 q2 q3 (Mp_mem (upd (M_mem u) aa.toNatClampNeg (vp_nar .byte va.toInt8.toInt32)) u)) H := hP
      refine lv_iconst (v := 1) hx hb dX1_poke_21 (by decide) ?_
      have e9 : S1_poke aa va u = ((1 : Int32), Mp_mem (upd (M_mem u) aa.toNatClampNeg (vp_nar .byte va.toInt8.toInt32)) u) := by rw [S1_poke, if_neg c1, if_pos c2]
      exact W.zret (v := (1 : Int32)) hx hb hr rfl (fun t ht hW => ⟨⟨(1 : Int32), (), rfl, by rw [e9], by show va_P _ _ _ t.heap; rw [e9, ht]; exact hP⟩, hS.F ht⟩) hS.2.2 dX1_poke_22
    · refine lv_iconst (v := 0) hx hb dX1_poke_11 (by decide) ?_
      have e9 : S1_poke aa va u = ((0 : Int32), u) := by rw [S1_poke, if_neg c1, if_neg c2]
      exact W.zret (v := (0 : Int32)) hx hb hr rfl (fun t ht hW => ⟨⟨(0 : Int32), (), rfl, by rw [e9], by show va_P _ _ _ t.heap; rw [e9, ht]; exact hP⟩, hS.F ht⟩) hS.2.2 dX1_poke_12
theorem iwX1_peek : ∀ w ∈ wsX10, w ∈ wsX1_peek := by decide +kernel
theorem flX1_peek_17 : Cond.fieldLink RX1 17 "WordMachineModel" "memory" "[B" ∈ wsX1_peek := by decide +kernel
theorem hdX1_peek : yX1_peek.cls = RX1 ∧ yX1_peek.cls ≠ "java/lang/invoke/MethodHandle" ∧ yX1_peek.cls ≠ "java/lang/invoke/VarHandle" ∧ (parseMethodDescriptor yX1_peek.desc).map (fun d => d.parameters.length) = some 1 := by decide +kernel
set_option maxHeartbeats 4000000 in
set_option maxRecDepth 100000 in
theorem c1_peek (l : Launch) {D : va_G} {cI cJ cB : ClassId} {h q1 q2 q3 : Nat} (hap : ap4 h q1 q2 q3) (aa : Int32) (u : MS)  : Ini l yX1_peek wsX1_peek 0 0 D (ty1 cI cJ cB) (wa0 h q1 q2 q3) [.ref h, .int aa] (ww1 cI cJ cB h q1 q2 q3 u) (ww1 cI cJ cB h q1 q2 q3 u) (S1_peek aa u) := by
  refine Met.ofW (cc := cX1_peek) (maxL := 2) (ret := (some .int)) (by decide) rfl ?_
  intro p e s m args below meth c s₁ B hml hv
  obtain ⟨rfl, hP, hK⟩ := hv
  have hx := B.exec
  have hb := B.bytes
  have hr := B.returns
  have hts := atoms_spec (ws := wsX1_peek) B.pre
  have hown : s.vm.findClass RX1 = some m.cls := findClass_of_methodNamed B.named
  have hlocks := B.notSynchronized
  have hS : va_S (wa0 h q1 q2 q3) s.heap s.heap [] := va_S.rf
  have hl := lv_entry ([.ref h, .int aa]) (n := 2) (Nat.le_of_ble_eq_true rfl)
  rw [lg_entry_eq]
  generalize (lg_sl ([.ref h, .int aa]) ++ List.replicate (2 - (lg_sl ([.ref h, .int aa])).length) Slot.unset).toArray = ls at hl ⊢
  have hl : lv_has ls 2 [(0, .ref h), (1, .int aa)] := hl
  refine lv_iload_n hx hb dX1_peek_0 rfl (lv_at hl 1 rfl) ?_
  refine lv_if_lt (tgt := 24) hx hb dX1_peek_1 (by decide) (fun (c1 : aa < 0) => ?_) (fun (c1 : ¬ aa < 0) => ?_)
  · refine lv_iconst (v := (-1)) hx hb dX1_peek_24 (by decide) ?_
    have e9 : S1_peek aa u = ((-1) : Int32) := by rw [S1_peek, if_pos c1]
    exact W.iret (v := ((-1) : Int32)) hx hb hr (fun t ht hW => ⟨⟨((-1) : Int32), (), rfl, e9.symm, (by show va_P _ _ _ t.heap; rw [ht]; exact hP)⟩, hS.F ht⟩) hS.2.2 dX1_peek_25
  · refine lv_iload_n hx hb dX1_peek_4 rfl (lv_at hl 1 rfl) ?_
    refine lv_sipush (v := 4096) hx hb dX1_peek_5 (by decide) ?_
    refine lv_icmp_ge (tgt := 24) hx hb dX1_peek_8 (by decide) (fun (c2 : 4096 ≤ aa) => ?_) (fun (c2 : ¬ 4096 ≤ aa) => ?_)
    · refine lv_iconst (v := (-1)) hx hb dX1_peek_24 (by decide) ?_
      have e9 : S1_peek aa u = ((-1) : Int32) := by rw [S1_peek, if_neg c1, if_pos c2]
      exact W.iret (v := ((-1) : Int32)) hx hb hr (fun t ht hW => ⟨⟨((-1) : Int32), (), rfl, e9.symm, (by show va_P _ _ _ t.heap; rw [ht]; exact hP)⟩, hS.F ht⟩) hS.2.2 dX1_peek_25
    · refine lv_aload_n hx hb dX1_peek_11 rfl (lv_at hl 0 rfl) ?_
      refine va_get (D := D) (ci := 1) (v := .ref q3) (C := RX1) (T := TX1) (N := 12) hx hb hts iwX1_peek hown hK hP 0 rfl rfl 5 (by decide) (hts (.fieldLink RX1 17 "WordMachineModel" "memory" "[B") flX1_peek_17) (fun _ h9 => h9) rfl dX1_peek_12 ?_
      refine lv_iload_n hx hb dX1_peek_15 rfl (lv_at hl 1 rfl) ?_
      refine va_bald hx hb hK hP 3 2 rfl rfl (ix_peek c1 c2) dX1_peek_16 ?_
      refine lv_sipush (v := 255) hx hb dX1_peek_17 (by decide) ?_
      refine lv_iand hx hb dX1_peek_20 ?_
      refine lv_goto (tgt := 25) hx hb dX1_peek_21 (by decide) ?_
      have e9 : S1_peek aa u = (M_mem u aa.toNatClampNeg) &&& 255 := by rw [S1_peek, if_neg c1, if_neg c2]
      exact W.iret (v := (M_mem u aa.toNatClampNeg) &&& 255) hx hb hr (fun t ht hW => ⟨⟨(M_mem u aa.toNatClampNeg) &&& 255, (), rfl, e9.symm, (by show va_P _ _ _ t.heap; rw [ht]; exact hP)⟩, hS.F ht⟩) hS.2.2 dX1_peek_25
theorem iwX1_go : ∀ w ∈ wsX10, w ∈ wsX1_go := by decide +kernel
theorem flX1_go_39 : Cond.fieldLink RX1 39 "WordMachineModel" "pc" "I" ∈ wsX1_go := by decide +kernel
theorem hdX1_go : yX1_go.cls = RX1 ∧ yX1_go.cls ≠ "java/lang/invoke/MethodHandle" ∧ yX1_go.cls ≠ "java/lang/invoke/VarHandle" ∧ (parseMethodDescriptor yX1_go.desc).map (fun d => d.parameters.length) = some 1 := by decide +kernel
set_option maxHeartbeats 4000000 in
set_option maxRecDepth 100000 in
theorem c1_go (l : Launch) {D : va_G} {cI cJ cB : ClassId} {h q1 q2 q3 : Nat} (hap : ap4 h q1 q2 q3) (aa : Int32) (u : MS)  : Ini l yX1_go wsX1_go 0 0 D (ty1 cI cJ cB) (wa0 h q1 q2 q3) [.ref h, .int aa] (ww1 cI cJ cB h q1 q2 q3 u) (ww1 cI cJ cB h q1 q2 q3 (S1_go aa u).2) (S1_go aa u).1 := by
  refine Met.ofW (cc := cX1_go) (maxL := 2) (ret := (some .boolean)) (by decide) rfl ?_
  intro p e s m args below meth c s₁ B hml hv
  obtain ⟨rfl, hP, hK⟩ := hv
  have hx := B.exec
  have hb := B.bytes
  have hr := B.returns
  have hts := atoms_spec (ws := wsX1_go) B.pre
  have hown : s.vm.findClass RX1 = some m.cls := findClass_of_methodNamed B.named
  have hlocks := B.notSynchronized
  have hS : va_S (wa0 h q1 q2 q3) s.heap s.heap [] := va_S.rf
  have hl := lv_entry ([.ref h, .int aa]) (n := 2) (Nat.le_of_ble_eq_true rfl)
  rw [lg_entry_eq]
  generalize (lg_sl ([.ref h, .int aa]) ++ List.replicate (2 - (lg_sl ([.ref h, .int aa])).length) Slot.unset).toArray = ls at hl ⊢
  have hl : lv_has ls 2 [(0, .ref h), (1, .int aa)] := hl
  refine lv_iload_n hx hb dX1_go_0 rfl (lv_at hl 1 rfl) ?_
  refine lv_iconst (v := 4) hx hb dX1_go_1 (by decide) ?_
  refine lv_irem hx hb dX1_go_2 (by decide) ?_
  refine lv_if_eq (tgt := 8) hx hb dX1_go_3 (by decide) (fun (c1 : (aa - aa / 4 * 4) = 0) => ?_) (fun (c1 : ¬ (aa - aa / 4 * 4) = 0) => ?_)
  · refine lv_aload_n hx hb dX1_go_8 rfl (lv_at hl 0 rfl) ?_
    refine lv_iload_n hx hb dX1_go_9 rfl (lv_at hl 1 rfl) ?_
    refine va_put (D := D) (ci := 1) (v := .int aa) (ty := .int) (C := RX1) (T := TX1) (N := 12) hx hb hts iwX1_go tyX1 tyX1_ok nmX1 hown hK hP (ap4_D hap) hS 0 rfl rfl 2 (by decide) (hts (.fieldLink RX1 39 "WordMachineModel" "pc" "I") flX1_go_39) (fun _ h9 => h9) rfl (by decide +kernel) rfl rfl (Nat.le_of_ble_eq_true rfl) dX1_go_10 (fun H locs hP _ hS => ?_)
    have hP : va_P D vwCl (ww1 cI cJ cB h q1 q2 q3 (Mp_pc aa u)) H := hP
    refine lv_iconst (v := 1) hx hb dX1_go_13 (by decide) ?_
    have e9 : S1_go aa u = ((1 : Int32), Mp_pc aa u) := by rw [S1_go, if_pos c1]
    exact W.zret (v := (1 : Int32)) hx hb hr rfl (fun t ht hW => ⟨⟨(1 : Int32), (), rfl, by rw [e9], by show va_P _ _ _ t.heap; rw [e9, ht]; exact hP⟩, hS.F ht⟩) hS.2.2 dX1_go_14
  · refine lv_iconst (v := 0) hx hb dX1_go_6 (by decide) ?_
    have e9 : S1_go aa u = ((0 : Int32), u) := by rw [S1_go, if_neg c1]
    exact W.zret (v := (0 : Int32)) hx hb hr rfl (fun t ht hW => ⟨⟨(0 : Int32), (), rfl, by rw [e9], by show va_P _ _ _ t.heap; rw [e9, ht]; exact hP⟩, hS.F ht⟩) hS.2.2 dX1_go_7
theorem iwX1_pc : ∀ w ∈ wsX10, w ∈ wsX1_pc := by decide +kernel
theorem flX1_pc_39 : Cond.fieldLink RX1 39 "WordMachineModel" "pc" "I" ∈ wsX1_pc := by decide +kernel
theorem hdX1_pc : yX1_pc.cls = RX1 ∧ yX1_pc.cls ≠ "java/lang/invoke/MethodHandle" ∧ yX1_pc.cls ≠ "java/lang/invoke/VarHandle" ∧ (parseMethodDescriptor yX1_pc.desc).map (fun d => d.parameters.length) = some 0 := by decide +kernel
set_option maxHeartbeats 4000000 in
set_option maxRecDepth 100000 in
theorem c1_pc (l : Launch) {D : va_G} {cI cJ cB : ClassId} {h q1 q2 q3 : Nat} (hap : ap4 h q1 q2 q3)  (u : MS)  : Ini l yX1_pc wsX1_pc 0 0 D (ty1 cI cJ cB) (wa0 h q1 q2 q3) [.ref h] (ww1 cI cJ cB h q1 q2 q3 u) (ww1 cI cJ cB h q1 q2 q3 u) (S1_pc u) := by
  refine Met.ofW (cc := cX1_pc) (maxL := 1) (ret := (some .int)) (by decide) rfl ?_
  intro p e s m args below meth c s₁ B hml hv
  obtain ⟨rfl, hP, hK⟩ := hv
  have hx := B.exec
  have hb := B.bytes
  have hr := B.returns
  have hts := atoms_spec (ws := wsX1_pc) B.pre
  have hown : s.vm.findClass RX1 = some m.cls := findClass_of_methodNamed B.named
  have hlocks := B.notSynchronized
  have hS : va_S (wa0 h q1 q2 q3) s.heap s.heap [] := va_S.rf
  have hl := lv_entry ([.ref h]) (n := 1) (Nat.le_of_ble_eq_true rfl)
  rw [lg_entry_eq]
  generalize (lg_sl ([.ref h]) ++ List.replicate (1 - (lg_sl ([.ref h])).length) Slot.unset).toArray = ls at hl ⊢
  have hl : lv_has ls 1 [(0, .ref h)] := hl
  refine lv_aload_n hx hb dX1_pc_0 rfl (lv_at hl 0 rfl) ?_
  refine va_get (D := D) (ci := 1) (v := .int (M_pc u)) (C := RX1) (T := TX1) (N := 12) hx hb hts iwX1_pc hown hK hP 0 rfl rfl 2 (by decide) (hts (.fieldLink RX1 39 "WordMachineModel" "pc" "I") flX1_pc_39) (fun _ h9 => h9) rfl dX1_pc_1 ?_
  have e9 : S1_pc u = M_pc u := by rw [S1_pc]
  exact W.iret (v := M_pc u) hx hb hr (fun t ht hW => ⟨⟨M_pc u, (), rfl, e9.symm, (by show va_P _ _ _ t.heap; rw [ht]; exact hP)⟩, hS.F ht⟩) hS.2.2 dX1_pc_4
theorem iwX1_steps : ∀ w ∈ wsX10, w ∈ wsX1_steps := by decide +kernel
theorem flX1_steps_42 : Cond.fieldLink RX1 42 "WordMachineModel" "steps" "I" ∈ wsX1_steps := by decide +kernel
theorem hdX1_steps : yX1_steps.cls = RX1 ∧ yX1_steps.cls ≠ "java/lang/invoke/MethodHandle" ∧ yX1_steps.cls ≠ "java/lang/invoke/VarHandle" ∧ (parseMethodDescriptor yX1_steps.desc).map (fun d => d.parameters.length) = some 0 := by decide +kernel
set_option maxHeartbeats 4000000 in
set_option maxRecDepth 100000 in
theorem c1_steps (l : Launch) {D : va_G} {cI cJ cB : ClassId} {h q1 q2 q3 : Nat} (hap : ap4 h q1 q2 q3)  (u : MS)  : Ini l yX1_steps wsX1_steps 0 0 D (ty1 cI cJ cB) (wa0 h q1 q2 q3) [.ref h] (ww1 cI cJ cB h q1 q2 q3 u) (ww1 cI cJ cB h q1 q2 q3 u) (S1_steps u) := by
  refine Met.ofW (cc := cX1_steps) (maxL := 1) (ret := (some .int)) (by decide) rfl ?_
  intro p e s m args below meth c s₁ B hml hv
  obtain ⟨rfl, hP, hK⟩ := hv
  have hx := B.exec
  have hb := B.bytes
  have hr := B.returns
  have hts := atoms_spec (ws := wsX1_steps) B.pre
  have hown : s.vm.findClass RX1 = some m.cls := findClass_of_methodNamed B.named
  have hlocks := B.notSynchronized
  have hS : va_S (wa0 h q1 q2 q3) s.heap s.heap [] := va_S.rf
  have hl := lv_entry ([.ref h]) (n := 1) (Nat.le_of_ble_eq_true rfl)
  rw [lg_entry_eq]
  generalize (lg_sl ([.ref h]) ++ List.replicate (1 - (lg_sl ([.ref h])).length) Slot.unset).toArray = ls at hl ⊢
  have hl : lv_has ls 1 [(0, .ref h)] := hl
  refine lv_aload_n hx hb dX1_steps_0 rfl (lv_at hl 0 rfl) ?_
  refine va_get (D := D) (ci := 1) (v := .int (M_st u)) (C := RX1) (T := TX1) (N := 12) hx hb hts iwX1_steps hown hK hP 0 rfl rfl 3 (by decide) (hts (.fieldLink RX1 42 "WordMachineModel" "steps" "I") flX1_steps_42) (fun _ h9 => h9) rfl dX1_steps_1 ?_
  have e9 : S1_steps u = M_st u := by rw [S1_steps]
  exact W.iret (v := M_st u) hx hb hr (fun t ht hW => ⟨⟨M_st u, (), rfl, e9.symm, (by show va_P _ _ _ t.heap; rw [ht]; exact hP)⟩, hS.F ht⟩) hS.2.2 dX1_steps_4
theorem iwX1_width : ∀ w ∈ wsX10, w ∈ wsX1_width := by decide +kernel
theorem flX1_width_56 : Cond.fieldLink RX1 56 "WordMachineModel" "t" "I" ∈ wsX1_width := by decide +kernel
theorem hdX1_width : yX1_width.cls = RX1 ∧ yX1_width.cls ≠ "java/lang/invoke/MethodHandle" ∧ yX1_width.cls ≠ "java/lang/invoke/VarHandle" ∧ (parseMethodDescriptor yX1_width.desc).map (fun d => d.parameters.length) = some 1 := by decide +kernel
set_option maxHeartbeats 4000000 in
set_option maxRecDepth 100000 in
theorem c1_width (l : Launch) {D : va_G} {cI cJ cB : ClassId} {h q1 q2 q3 : Nat} (hap : ap4 h q1 q2 q3) (la : Int32) (u : MS)  : Ini l yX1_width wsX1_width 0 0 D (ty1 cI cJ cB) (wa0 h q1 q2 q3) [.ref h, .int la] (ww1 cI cJ cB h q1 q2 q3 u) (ww1 cI cJ cB h q1 q2 q3 u) (S1_width la u) := by
  refine Met.ofW (cc := cX1_width) (maxL := 2) (ret := (some .int)) (by decide) rfl ?_
  intro p e s m args below meth c s₁ B hml hv
  obtain ⟨rfl, hP, hK⟩ := hv
  have hx := B.exec
  have hb := B.bytes
  have hr := B.returns
  have hts := atoms_spec (ws := wsX1_width) B.pre
  have hown : s.vm.findClass RX1 = some m.cls := findClass_of_methodNamed B.named
  have hlocks := B.notSynchronized
  have hS : va_S (wa0 h q1 q2 q3) s.heap s.heap [] := va_S.rf
  have hl := lv_entry ([.ref h, .int la]) (n := 2) (Nat.le_of_ble_eq_true rfl)
  rw [lg_entry_eq]
  generalize (lg_sl ([.ref h, .int la]) ++ List.replicate (2 - (lg_sl ([.ref h, .int la])).length) Slot.unset).toArray = ls at hl ⊢
  have hl : lv_has ls 2 [(0, .ref h), (1, .int la)] := hl
  refine lv_aload_n hx hb dX1_width_0 rfl (lv_at hl 0 rfl) ?_
  refine va_get (D := D) (ci := 1) (v := .int (M_t u)) (C := RX1) (T := TX1) (N := 12) hx hb hts iwX1_width hown hK hP 0 rfl rfl 7 (by decide) (hts (.fieldLink RX1 56 "WordMachineModel" "t" "I") flX1_width_56) (fun _ h9 => h9) rfl dX1_width_1 ?_
  refine lv_if_eq (tgt := 19) hx hb dX1_width_4 (by decide) (fun (c1 : (M_t u) = 0) => ?_) (fun (c1 : ¬ (M_t u) = 0) => ?_)
  · refine lv_iconst (v := 1) hx hb dX1_width_19 (by decide) ?_
    refine lv_goto (tgt := 60) hx hb dX1_width_20 (by decide) ?_
    have e9 : S1_width la u = (1 : Int32) := by rw [S1_width, if_pos c1]
    exact W.iret (v := (1 : Int32)) hx hb hr (fun t ht hW => ⟨⟨(1 : Int32), (), rfl, e9.symm, (by show va_P _ _ _ t.heap; rw [ht]; exact hP)⟩, hS.F ht⟩) hS.2.2 dX1_width_60
  · refine lv_iload_n hx hb dX1_width_7 rfl (lv_at hl 1 rfl) ?_
    refine lv_if_eq (tgt := 23) hx hb dX1_width_8 (by decide) (fun (c2 : la = 0) => ?_) (fun (c2 : ¬ la = 0) => ?_)
    · refine lv_aload_n hx hb dX1_width_23 rfl (lv_at hl 0 rfl) ?_
      refine va_get (D := D) (ci := 1) (v := .int (M_t u)) (C := RX1) (T := TX1) (N := 12) hx hb hts iwX1_width hown hK hP 0 rfl rfl 7 (by decide) (hts (.fieldLink RX1 56 "WordMachineModel" "t" "I") flX1_width_56) (fun _ h9 => h9) rfl dX1_width_24 ?_
      refine lv_iconst (v := 1) hx hb dX1_width_27 (by decide) ?_
      refine lv_icmp_eq (tgt := 43) hx hb dX1_width_28 (by decide) (fun (c3 : (M_t u) = 1) => ?_) (fun (c3 : ¬ (M_t u) = 1) => ?_)
      · refine lv_iconst (v := 2) hx hb dX1_width_43 (by decide) ?_
        refine lv_goto (tgt := 60) hx hb dX1_width_44 (by decide) ?_
        have e9 : S1_width la u = (2 : Int32) := by rw [S1_width, if_neg c1, if_pos c2, if_pos c3]
        exact W.iret (v := (2 : Int32)) hx hb hr (fun t ht hW => ⟨⟨(2 : Int32), (), rfl, e9.symm, (by show va_P _ _ _ t.heap; rw [ht]; exact hP)⟩, hS.F ht⟩) hS.2.2 dX1_width_60
      · refine lv_iload_n hx hb dX1_width_31 rfl (lv_at hl 1 rfl) ?_
        refine lv_if_eq (tgt := 47) hx hb dX1_width_32 (by decide) (fun (c4 : la = 0) => ?_) (fun (c4 : ¬ la = 0) => ?_)
        · refine lv_aload_n hx hb dX1_width_47 rfl (lv_at hl 0 rfl) ?_
          refine va_get (D := D) (ci := 1) (v := .int (M_t u)) (C := RX1) (T := TX1) (N := 12) hx hb hts iwX1_width hown hK hP 0 rfl rfl 7 (by decide) (hts (.fieldLink RX1 56 "WordMachineModel" "t" "I") flX1_width_56) (fun _ h9 => h9) rfl dX1_width_48 ?_
          refine lv_iconst (v := 2) hx hb dX1_width_51 (by decide) ?_
          refine lv_icmp_ne (tgt := 59) hx hb dX1_width_52 (by decide) (fun (c5 : ¬ (M_t u) = 2) => ?_) (fun (c5 : (M_t u) = 2) => ?_)
          · refine lv_iconst (v := 0) hx hb dX1_width_59 (by decide) ?_
            have e9 : S1_width la u = (0 : Int32) := by rw [S1_width, if_neg c1, if_pos c2, if_neg c3, if_pos c4, if_neg c5]
            exact W.iret (v := (0 : Int32)) hx hb hr (fun t ht hW => ⟨⟨(0 : Int32), (), rfl, e9.symm, (by show va_P _ _ _ t.heap; rw [ht]; exact hP)⟩, hS.F ht⟩) hS.2.2 dX1_width_60
          · refine lv_iconst (v := 4) hx hb dX1_width_55 (by decide) ?_
            refine lv_goto (tgt := 60) hx hb dX1_width_56 (by decide) ?_
            have e9 : S1_width la u = (4 : Int32) := by rw [S1_width, if_neg c1, if_pos c2, if_neg c3, if_pos c4, if_pos c5]
            exact W.iret (v := (4 : Int32)) hx hb hr (fun t ht hW => ⟨⟨(4 : Int32), (), rfl, e9.symm, (by show va_P _ _ _ t.heap; rw [ht]; exact hP)⟩, hS.F ht⟩) hS.2.2 dX1_width_60
        · refine lv_aload_n hx hb dX1_width_35 rfl (lv_at hl 0 rfl) ?_
          refine va_get (D := D) (ci := 1) (v := .int (M_t u)) (C := RX1) (T := TX1) (N := 12) hx hb hts iwX1_width hown hK hP 0 rfl rfl 7 (by decide) (hts (.fieldLink RX1 56 "WordMachineModel" "t" "I") flX1_width_56) (fun _ h9 => h9) rfl dX1_width_36 ?_
          refine lv_iconst (v := 5) hx hb dX1_width_39 (by decide) ?_
          refine lv_icmp_ne (tgt := 47) hx hb dX1_width_40 (by decide) (fun (c6 : ¬ (M_t u) = 5) => ?_) (fun (c6 : (M_t u) = 5) => ?_)
          · refine lv_aload_n hx hb dX1_width_47 rfl (lv_at hl 0 rfl) ?_
            refine va_get (D := D) (ci := 1) (v := .int (M_t u)) (C := RX1) (T := TX1) (N := 12) hx hb hts iwX1_width hown hK hP 0 rfl rfl 7 (by decide) (hts (.fieldLink RX1 56 "WordMachineModel" "t" "I") flX1_width_56) (fun _ h9 => h9) rfl dX1_width_48 ?_
            refine lv_iconst (v := 2) hx hb dX1_width_51 (by decide) ?_
            refine lv_icmp_ne (tgt := 59) hx hb dX1_width_52 (by decide) (fun (c7 : ¬ (M_t u) = 2) => ?_) (fun (c7 : (M_t u) = 2) => ?_)
            · refine lv_iconst (v := 0) hx hb dX1_width_59 (by decide) ?_
              have e9 : S1_width la u = (0 : Int32) := by rw [S1_width, if_neg c1, if_pos c2, if_neg c3, if_neg c4, if_neg c6, if_neg c7]
              exact W.iret (v := (0 : Int32)) hx hb hr (fun t ht hW => ⟨⟨(0 : Int32), (), rfl, e9.symm, (by show va_P _ _ _ t.heap; rw [ht]; exact hP)⟩, hS.F ht⟩) hS.2.2 dX1_width_60
            · refine lv_iconst (v := 4) hx hb dX1_width_55 (by decide) ?_
              refine lv_goto (tgt := 60) hx hb dX1_width_56 (by decide) ?_
              have e9 : S1_width la u = (4 : Int32) := by rw [S1_width, if_neg c1, if_pos c2, if_neg c3, if_neg c4, if_neg c6, if_pos c7]
              exact W.iret (v := (4 : Int32)) hx hb hr (fun t ht hW => ⟨⟨(4 : Int32), (), rfl, e9.symm, (by show va_P _ _ _ t.heap; rw [ht]; exact hP)⟩, hS.F ht⟩) hS.2.2 dX1_width_60
          · refine lv_iconst (v := 2) hx hb dX1_width_43 (by decide) ?_
            refine lv_goto (tgt := 60) hx hb dX1_width_44 (by decide) ?_
            have e9 : S1_width la u = (2 : Int32) := by rw [S1_width, if_neg c1, if_pos c2, if_neg c3, if_neg c4, if_pos c6]
            exact W.iret (v := (2 : Int32)) hx hb hr (fun t ht hW => ⟨⟨(2 : Int32), (), rfl, e9.symm, (by show va_P _ _ _ t.heap; rw [ht]; exact hP)⟩, hS.F ht⟩) hS.2.2 dX1_width_60
    · refine lv_aload_n hx hb dX1_width_11 rfl (lv_at hl 0 rfl) ?_
      refine va_get (D := D) (ci := 1) (v := .int (M_t u)) (C := RX1) (T := TX1) (N := 12) hx hb hts iwX1_width hown hK hP 0 rfl rfl 7 (by decide) (hts (.fieldLink RX1 56 "WordMachineModel" "t" "I") flX1_width_56) (fun _ h9 => h9) rfl dX1_width_12 ?_
      refine lv_iconst (v := 4) hx hb dX1_width_15 (by decide) ?_
      refine lv_icmp_ne (tgt := 23) hx hb dX1_width_16 (by decide) (fun (c8 : ¬ (M_t u) = 4) => ?_) (fun (c8 : (M_t u) = 4) => ?_)
      · refine lv_aload_n hx hb dX1_width_23 rfl (lv_at hl 0 rfl) ?_
        refine va_get (D := D) (ci := 1) (v := .int (M_t u)) (C := RX1) (T := TX1) (N := 12) hx hb hts iwX1_width hown hK hP 0 rfl rfl 7 (by decide) (hts (.fieldLink RX1 56 "WordMachineModel" "t" "I") flX1_width_56) (fun _ h9 => h9) rfl dX1_width_24 ?_
        refine lv_iconst (v := 1) hx hb dX1_width_27 (by decide) ?_
        refine lv_icmp_eq (tgt := 43) hx hb dX1_width_28 (by decide) (fun (c9 : (M_t u) = 1) => ?_) (fun (c9 : ¬ (M_t u) = 1) => ?_)
        · refine lv_iconst (v := 2) hx hb dX1_width_43 (by decide) ?_
          refine lv_goto (tgt := 60) hx hb dX1_width_44 (by decide) ?_
          have e9 : S1_width la u = (2 : Int32) := by rw [S1_width, if_neg c1, if_neg c2, if_neg c8, if_pos c9]
          exact W.iret (v := (2 : Int32)) hx hb hr (fun t ht hW => ⟨⟨(2 : Int32), (), rfl, e9.symm, (by show va_P _ _ _ t.heap; rw [ht]; exact hP)⟩, hS.F ht⟩) hS.2.2 dX1_width_60
        · refine lv_iload_n hx hb dX1_width_31 rfl (lv_at hl 1 rfl) ?_
          refine lv_if_eq (tgt := 47) hx hb dX1_width_32 (by decide) (fun (c10 : la = 0) => ?_) (fun (c10 : ¬ la = 0) => ?_)
          · refine lv_aload_n hx hb dX1_width_47 rfl (lv_at hl 0 rfl) ?_
            refine va_get (D := D) (ci := 1) (v := .int (M_t u)) (C := RX1) (T := TX1) (N := 12) hx hb hts iwX1_width hown hK hP 0 rfl rfl 7 (by decide) (hts (.fieldLink RX1 56 "WordMachineModel" "t" "I") flX1_width_56) (fun _ h9 => h9) rfl dX1_width_48 ?_
            refine lv_iconst (v := 2) hx hb dX1_width_51 (by decide) ?_
            refine lv_icmp_ne (tgt := 59) hx hb dX1_width_52 (by decide) (fun (c11 : ¬ (M_t u) = 2) => ?_) (fun (c11 : (M_t u) = 2) => ?_)
            · refine lv_iconst (v := 0) hx hb dX1_width_59 (by decide) ?_
              have e9 : S1_width la u = (0 : Int32) := by rw [S1_width, if_neg c1, if_neg c2, if_neg c8, if_neg c9, if_pos c10, if_neg c11]
              exact W.iret (v := (0 : Int32)) hx hb hr (fun t ht hW => ⟨⟨(0 : Int32), (), rfl, e9.symm, (by show va_P _ _ _ t.heap; rw [ht]; exact hP)⟩, hS.F ht⟩) hS.2.2 dX1_width_60
            · refine lv_iconst (v := 4) hx hb dX1_width_55 (by decide) ?_
              refine lv_goto (tgt := 60) hx hb dX1_width_56 (by decide) ?_
              have e9 : S1_width la u = (4 : Int32) := by rw [S1_width, if_neg c1, if_neg c2, if_neg c8, if_neg c9, if_pos c10, if_pos c11]
              exact W.iret (v := (4 : Int32)) hx hb hr (fun t ht hW => ⟨⟨(4 : Int32), (), rfl, e9.symm, (by show va_P _ _ _ t.heap; rw [ht]; exact hP)⟩, hS.F ht⟩) hS.2.2 dX1_width_60
          · refine lv_aload_n hx hb dX1_width_35 rfl (lv_at hl 0 rfl) ?_
            refine va_get (D := D) (ci := 1) (v := .int (M_t u)) (C := RX1) (T := TX1) (N := 12) hx hb hts iwX1_width hown hK hP 0 rfl rfl 7 (by decide) (hts (.fieldLink RX1 56 "WordMachineModel" "t" "I") flX1_width_56) (fun _ h9 => h9) rfl dX1_width_36 ?_
            refine lv_iconst (v := 5) hx hb dX1_width_39 (by decide) ?_
            refine lv_icmp_ne (tgt := 47) hx hb dX1_width_40 (by decide) (fun (c12 : ¬ (M_t u) = 5) => ?_) (fun (c12 : (M_t u) = 5) => ?_)
            · refine lv_aload_n hx hb dX1_width_47 rfl (lv_at hl 0 rfl) ?_
              refine va_get (D := D) (ci := 1) (v := .int (M_t u)) (C := RX1) (T := TX1) (N := 12) hx hb hts iwX1_width hown hK hP 0 rfl rfl 7 (by decide) (hts (.fieldLink RX1 56 "WordMachineModel" "t" "I") flX1_width_56) (fun _ h9 => h9) rfl dX1_width_48 ?_
              refine lv_iconst (v := 2) hx hb dX1_width_51 (by decide) ?_
              refine lv_icmp_ne (tgt := 59) hx hb dX1_width_52 (by decide) (fun (c13 : ¬ (M_t u) = 2) => ?_) (fun (c13 : (M_t u) = 2) => ?_)
              · refine lv_iconst (v := 0) hx hb dX1_width_59 (by decide) ?_
                have e9 : S1_width la u = (0 : Int32) := by rw [S1_width, if_neg c1, if_neg c2, if_neg c8, if_neg c9, if_neg c10, if_neg c12, if_neg c13]
                exact W.iret (v := (0 : Int32)) hx hb hr (fun t ht hW => ⟨⟨(0 : Int32), (), rfl, e9.symm, (by show va_P _ _ _ t.heap; rw [ht]; exact hP)⟩, hS.F ht⟩) hS.2.2 dX1_width_60
              · refine lv_iconst (v := 4) hx hb dX1_width_55 (by decide) ?_
                refine lv_goto (tgt := 60) hx hb dX1_width_56 (by decide) ?_
                have e9 : S1_width la u = (4 : Int32) := by rw [S1_width, if_neg c1, if_neg c2, if_neg c8, if_neg c9, if_neg c10, if_neg c12, if_pos c13]
                exact W.iret (v := (4 : Int32)) hx hb hr (fun t ht hW => ⟨⟨(4 : Int32), (), rfl, e9.symm, (by show va_P _ _ _ t.heap; rw [ht]; exact hP)⟩, hS.F ht⟩) hS.2.2 dX1_width_60
            · refine lv_iconst (v := 2) hx hb dX1_width_43 (by decide) ?_
              refine lv_goto (tgt := 60) hx hb dX1_width_44 (by decide) ?_
              have e9 : S1_width la u = (2 : Int32) := by rw [S1_width, if_neg c1, if_neg c2, if_neg c8, if_neg c9, if_neg c10, if_pos c12]
              exact W.iret (v := (2 : Int32)) hx hb hr (fun t ht hW => ⟨⟨(2 : Int32), (), rfl, e9.symm, (by show va_P _ _ _ t.heap; rw [ht]; exact hP)⟩, hS.F ht⟩) hS.2.2 dX1_width_60
      · refine lv_iconst (v := 1) hx hb dX1_width_19 (by decide) ?_
        refine lv_goto (tgt := 60) hx hb dX1_width_20 (by decide) ?_
        have e9 : S1_width la u = (1 : Int32) := by rw [S1_width, if_neg c1, if_neg c2, if_pos c8]
        exact W.iret (v := (1 : Int32)) hx hb hr (fun t ht hW => ⟨⟨(1 : Int32), (), rfl, e9.symm, (by show va_P _ _ _ t.heap; rw [ht]; exact hP)⟩, hS.F ht⟩) hS.2.2 dX1_width_60
theorem ctX1_isThere_96 : Cond.constantLong RX1 96 (4096) ∈ wsX1_isThere := by decide +kernel
theorem hdX1_isThere : yX1_isThere.cls = RX1 ∧ yX1_isThere.cls ≠ "java/lang/invoke/MethodHandle" ∧ yX1_isThere.cls ≠ "java/lang/invoke/VarHandle" ∧ (parseMethodDescriptor yX1_isThere.desc).map (fun d => d.parameters.length) = some 2 := by decide +kernel
set_option maxHeartbeats 4000000 in
set_option maxRecDepth 100000 in
theorem c1_isThere (l : Launch) {D : va_G} {cI cJ cB : ClassId} {h q1 q2 q3 : Nat} (hap : ap4 h q1 q2 q3) (aa : Int64) (na : Int32) (u : MS) (hn : ¬ na.toInt64 = 0) : Ini l yX1_isThere wsX1_isThere 0 0 D (ty1 cI cJ cB) (wa0 h q1 q2 q3) [.ref h, .long aa, .int na] (ww1 cI cJ cB h q1 q2 q3 u) (ww1 cI cJ cB h q1 q2 q3 u) (S1_isThere aa na u) := by
  refine Met.ofW (cc := cX1_isThere) (maxL := 4) (ret := (some .boolean)) (by decide) rfl ?_
  intro p e s m args below meth c s₁ B hml hv
  obtain ⟨rfl, hP, hK⟩ := hv
  have hx := B.exec
  have hb := B.bytes
  have hr := B.returns
  have hts := atoms_spec (ws := wsX1_isThere) B.pre
  have hown : s.vm.findClass RX1 = some m.cls := findClass_of_methodNamed B.named
  have hlocks := B.notSynchronized
  have hS : va_S (wa0 h q1 q2 q3) s.heap s.heap [] := va_S.rf
  have hl := lv_entry ([.ref h, .long aa, .int na]) (n := 4) (Nat.le_of_ble_eq_true rfl)
  rw [lg_entry_eq]
  generalize (lg_sl ([.ref h, .long aa, .int na]) ++ List.replicate (4 - (lg_sl ([.ref h, .long aa, .int na])).length) Slot.unset).toArray = ls at hl ⊢
  have hl : lv_has ls 4 [(0, .ref h), (1, .long aa), (3, .int na)] := hl
  refine lv_lload_n hx hb dX1_isThere_0 rfl (lv_at hl 1 rfl) ?_
  refine lv_iload_n hx hb dX1_isThere_1 rfl (lv_at hl 2 rfl) ?_
  refine lv_i2l (v := na.toInt64) hx hb dX1_isThere_2 rfl ?_
  refine lv_lrem hx hb dX1_isThere_3 hn ?_
  refine lv_lconst (v := 0) hx hb dX1_isThere_4 (by decide) ?_
  refine W.lcmp hx hb dX1_isThere_5 ?_
  refine lv_if_ne (tgt := 24) hx hb dX1_isThere_6 (by decide) (fun (c1 : ¬ (lg_cmp (aa - aa / na.toInt64 * na.toInt64) 0) = 0) => ?_) (fun (c1 : (lg_cmp (aa - aa / na.toInt64 * na.toInt64) 0) = 0) => ?_)
  · refine lv_iconst (v := 0) hx hb dX1_isThere_24 (by decide) ?_
    have e9 : S1_isThere aa na u = (0 : Int32) := by rw [S1_isThere, if_neg c1]
    exact W.zret (v := (0 : Int32)) hx hb hr rfl (fun t ht hW => ⟨⟨(0 : Int32), (), rfl, e9.symm, (by show va_P _ _ _ t.heap; rw [ht]; exact hP)⟩, hS.F ht⟩) hS.2.2 dX1_isThere_25
  · refine lv_lload_n hx hb dX1_isThere_9 rfl (lv_at hl 1 rfl) ?_
    refine lv_iload_n hx hb dX1_isThere_10 rfl (lv_at hl 2 rfl) ?_
    refine lv_i2l (v := na.toInt64) hx hb dX1_isThere_11 rfl ?_
    refine lv_ladd hx hb dX1_isThere_12 ?_
    refine lv_ldc2 hx hb hown (hts (.constantLong RX1 96 (4096)) ctX1_isThere_96) dX1_isThere_13 ?_
    refine W.lcmp hx hb dX1_isThere_16 ?_
    refine lv_if_gt (tgt := 24) hx hb dX1_isThere_17 (by decide) (fun (c2 : 0 < (lg_cmp (aa + na.toInt64) 4096)) => ?_) (fun (c2 : ¬ 0 < (lg_cmp (aa + na.toInt64) 4096)) => ?_)
    · refine lv_iconst (v := 0) hx hb dX1_isThere_24 (by decide) ?_
      have e9 : S1_isThere aa na u = (0 : Int32) := by rw [S1_isThere, if_pos c1, if_pos c2]
      exact W.zret (v := (0 : Int32)) hx hb hr rfl (fun t ht hW => ⟨⟨(0 : Int32), (), rfl, e9.symm, (by show va_P _ _ _ t.heap; rw [ht]; exact hP)⟩, hS.F ht⟩) hS.2.2 dX1_isThere_25
    · refine lv_iconst (v := 1) hx hb dX1_isThere_20 (by decide) ?_
      refine lv_goto (tgt := 25) hx hb dX1_isThere_21 (by decide) ?_
      have e9 : S1_isThere aa na u = (1 : Int32) := by rw [S1_isThere, if_pos c1, if_neg c2]
      exact W.zret (v := (1 : Int32)) hx hb hr rfl (fun t ht hW => ⟨⟨(1 : Int32), (), rfl, e9.symm, (by show va_P _ _ _ t.heap; rw [ht]; exact hP)⟩, hS.F ht⟩) hS.2.2 dX1_isThere_25
theorem iwX1_upper : ∀ w ∈ wsX10, w ∈ wsX1_upper := by decide +kernel
theorem flX1_upper_59 : Cond.fieldLink RX1 59 "WordMachineModel" "x" "J" ∈ wsX1_upper := by decide +kernel
theorem flX1_upper_63 : Cond.fieldLink RX1 63 "WordMachineModel" "y" "J" ∈ wsX1_upper := by decide +kernel
theorem ctX1_upper_132 : Cond.constantLong RX1 132 (65536) ∈ wsX1_upper := by decide +kernel
theorem hdX1_upper : yX1_upper.cls = RX1 ∧ yX1_upper.cls ≠ "java/lang/invoke/MethodHandle" ∧ yX1_upper.cls ≠ "java/lang/invoke/VarHandle" ∧ (parseMethodDescriptor yX1_upper.desc).map (fun d => d.parameters.length) = some 0 := by decide +kernel
set_option maxHeartbeats 4000000 in
set_option maxRecDepth 100000 in
theorem c1_upper (l : Launch) {D : va_G} {cI cJ cB : ClassId} {h q1 q2 q3 : Nat} (hap : ap4 h q1 q2 q3)  (u : MS)  : Inl l yX1_upper wsX1_upper 0 0 D (ty1 cI cJ cB) (wa0 h q1 q2 q3) [.ref h] (ww1 cI cJ cB h q1 q2 q3 u) (ww1 cI cJ cB h q1 q2 q3 u) (S1_upper u) := by
  refine Met.ofW (cc := cX1_upper) (maxL := 13) (ret := (some .long)) (by decide) rfl ?_
  intro p e s m args below meth c s₁ B hml hv
  obtain ⟨rfl, hP, hK⟩ := hv
  have hx := B.exec
  have hb := B.bytes
  have hr := B.returns
  have hts := atoms_spec (ws := wsX1_upper) B.pre
  have hown : s.vm.findClass RX1 = some m.cls := findClass_of_methodNamed B.named
  have hlocks := B.notSynchronized
  have hS : va_S (wa0 h q1 q2 q3) s.heap s.heap [] := va_S.rf
  have hl := lv_entry ([.ref h]) (n := 13) (Nat.le_of_ble_eq_true rfl)
  rw [lg_entry_eq]
  generalize (lg_sl ([.ref h]) ++ List.replicate (13 - (lg_sl ([.ref h])).length) Slot.unset).toArray = ls at hl ⊢
  have hl : lv_has ls 13 [(0, .ref h)] := hl
  refine lv_aload_n hx hb dX1_upper_0 rfl (lv_at hl 0 rfl) ?_
  refine va_get (D := D) (ci := 1) (v := .long (M_x u)) (C := RX1) (T := TX1) (N := 12) hx hb hts iwX1_upper hown hK hP 0 rfl rfl 10 (by decide) (hts (.fieldLink RX1 59 "WordMachineModel" "x" "J") flX1_upper_59) (fun _ h9 => h9) rfl dX1_upper_1 ?_
  refine lv_ldc2 hx hb hown (hts (.constantLong RX1 132 (65536)) ctX1_upper_132) dX1_upper_4 ?_
  refine lv_ldiv hx hb dX1_upper_7 (by decide) ?_
  refine lv_lstore_n (lv' := [(1, .long ((M_x u) / 65536)), (0, .ref h)]) hx hb dX1_upper_8 rfl hl (by decide) rfl (fun ls hl => ?_)
  refine lv_aload_n hx hb dX1_upper_9 rfl (lv_at hl 1 rfl) ?_
  refine va_get (D := D) (ci := 1) (v := .long (M_x u)) (C := RX1) (T := TX1) (N := 12) hx hb hts iwX1_upper hown hK hP 0 rfl rfl 10 (by decide) (hts (.fieldLink RX1 59 "WordMachineModel" "x" "J") flX1_upper_59) (fun _ h9 => h9) rfl dX1_upper_10 ?_
  refine lv_ldc2 hx hb hown (hts (.constantLong RX1 132 (65536)) ctX1_upper_132) dX1_upper_13 ?_
  refine lv_lrem hx hb dX1_upper_16 (by decide) ?_
  refine lv_lstore_n (lv' := [(3, .long ((M_x u) - (M_x u) / 65536 * 65536)), (1, .long ((M_x u) / 65536)), (0, .ref h)]) hx hb dX1_upper_17 rfl hl (by decide) rfl (fun ls hl => ?_)
  refine lv_aload_n hx hb dX1_upper_18 rfl (lv_at hl 2 rfl) ?_
  refine va_get (D := D) (ci := 1) (v := .long (M_y u)) (C := RX1) (T := TX1) (N := 12) hx hb hts iwX1_upper hown hK hP 0 rfl rfl 11 (by decide) (hts (.fieldLink RX1 63 "WordMachineModel" "y" "J") flX1_upper_63) (fun _ h9 => h9) rfl dX1_upper_19 ?_
  refine lv_ldc2 hx hb hown (hts (.constantLong RX1 132 (65536)) ctX1_upper_132) dX1_upper_22 ?_
  refine lv_ldiv hx hb dX1_upper_25 (by decide) ?_
  refine lv_lstore (lv' := [(5, .long ((M_y u) / 65536)), (3, .long ((M_x u) - (M_x u) / 65536 * 65536)), (1, .long ((M_x u) / 65536)), (0, .ref h)]) hx hb dX1_upper_26 hl (by decide) rfl (fun ls hl => ?_)
  refine lv_aload_n hx hb dX1_upper_28 rfl (lv_at hl 3 rfl) ?_
  refine va_get (D := D) (ci := 1) (v := .long (M_y u)) (C := RX1) (T := TX1) (N := 12) hx hb hts iwX1_upper hown hK hP 0 rfl rfl 11 (by decide) (hts (.fieldLink RX1 63 "WordMachineModel" "y" "J") flX1_upper_63) (fun _ h9 => h9) rfl dX1_upper_29 ?_
  refine lv_ldc2 hx hb hown (hts (.constantLong RX1 132 (65536)) ctX1_upper_132) dX1_upper_32 ?_
  refine lv_lrem hx hb dX1_upper_35 (by decide) ?_
  refine lv_lstore (lv' := [(7, .long ((M_y u) - (M_y u) / 65536 * 65536)), (5, .long ((M_y u) / 65536)), (3, .long ((M_x u) - (M_x u) / 65536 * 65536)), (1, .long ((M_x u) / 65536)), (0, .ref h)]) hx hb dX1_upper_36 hl (by decide) rfl (fun ls hl => ?_)
  refine lv_lload_n hx hb dX1_upper_38 rfl (lv_at hl 3 rfl) ?_
  refine lv_lload hx hb dX1_upper_39 (lv_at hl 0 rfl) ?_
  refine lv_lmul hx hb dX1_upper_41 ?_
  refine lv_lload_n hx hb dX1_upper_42 rfl (lv_at hl 2 rfl) ?_
  refine lv_lload hx hb dX1_upper_43 (lv_at hl 0 rfl) ?_
  refine lv_lmul hx hb dX1_upper_45 ?_
  refine lv_ldc2 hx hb hown (hts (.constantLong RX1 132 (65536)) ctX1_upper_132) dX1_upper_46 ?_
  refine lv_ldiv hx hb dX1_upper_49 (by decide) ?_
  refine lv_ladd hx hb dX1_upper_50 ?_
  refine lv_lstore (lv' := [(9, .long ((((M_x u) / 65536) * ((M_y u) - (M_y u) / 65536 * 65536)) + ((((M_x u) - (M_x u) / 65536 * 65536) * ((M_y u) - (M_y u) / 65536 * 65536)) / 65536))), (7, .long ((M_y u) - (M_y u) / 65536 * 65536)), (5, .long ((M_y u) / 65536)), (3, .long ((M_x u) - (M_x u) / 65536 * 65536)), (1, .long ((M_x u) / 65536)), (0, .ref h)]) hx hb dX1_upper_51 hl (by decide) rfl (fun ls hl => ?_)
  refine lv_lload_n hx hb dX1_upper_53 rfl (lv_at hl 3 rfl) ?_
  refine lv_lload hx hb dX1_upper_54 (lv_at hl 2 rfl) ?_
  refine lv_lmul hx hb dX1_upper_56 ?_
  refine lv_lload hx hb dX1_upper_57 (lv_at hl 0 rfl) ?_
  refine lv_ldc2 hx hb hown (hts (.constantLong RX1 132 (65536)) ctX1_upper_132) dX1_upper_59 ?_
  refine lv_lrem hx hb dX1_upper_62 (by decide) ?_
  refine lv_ladd hx hb dX1_upper_63 ?_
  refine lv_lstore (lv' := [(11, .long ((((M_x u) - (M_x u) / 65536 * 65536) * ((M_y u) / 65536)) + (((((M_x u) / 65536) * ((M_y u) - (M_y u) / 65536 * 65536)) + ((((M_x u) - (M_x u) / 65536 * 65536) * ((M_y u) - (M_y u) / 65536 * 65536)) / 65536)) - ((((M_x u) / 65536) * ((M_y u) - (M_y u) / 65536 * 65536)) + ((((M_x u) - (M_x u) / 65536 * 65536) * ((M_y u) - (M_y u) / 65536 * 65536)) / 65536)) / 65536 * 65536))), (9, .long ((((M_x u) / 65536) * ((M_y u) - (M_y u) / 65536 * 65536)) + ((((M_x u) - (M_x u) / 65536 * 65536) * ((M_y u) - (M_y u) / 65536 * 65536)) / 65536))), (7, .long ((M_y u) - (M_y u) / 65536 * 65536)), (5, .long ((M_y u) / 65536)), (3, .long ((M_x u) - (M_x u) / 65536 * 65536)), (1, .long ((M_x u) / 65536)), (0, .ref h)]) hx hb dX1_upper_64 hl (by decide) rfl (fun ls hl => ?_)
  refine lv_lload_n hx hb dX1_upper_66 rfl (lv_at hl 5 rfl) ?_
  refine lv_lload hx hb dX1_upper_67 (lv_at hl 3 rfl) ?_
  refine lv_lmul hx hb dX1_upper_69 ?_
  refine lv_lload hx hb dX1_upper_70 (lv_at hl 1 rfl) ?_
  refine lv_ldc2 hx hb hown (hts (.constantLong RX1 132 (65536)) ctX1_upper_132) dX1_upper_72 ?_
  refine lv_ldiv hx hb dX1_upper_75 (by decide) ?_
  refine lv_ladd hx hb dX1_upper_76 ?_
  refine lv_lload hx hb dX1_upper_77 (lv_at hl 0 rfl) ?_
  refine lv_ldc2 hx hb hown (hts (.constantLong RX1 132 (65536)) ctX1_upper_132) dX1_upper_79 ?_
  refine lv_ldiv hx hb dX1_upper_82 (by decide) ?_
  refine lv_ladd hx hb dX1_upper_83 ?_
  have e9 : S1_upper u = ((((M_x u) / 65536) * ((M_y u) / 65536)) + (((((M_x u) / 65536) * ((M_y u) - (M_y u) / 65536 * 65536)) + ((((M_x u) - (M_x u) / 65536 * 65536) * ((M_y u) - (M_y u) / 65536 * 65536)) / 65536)) / 65536)) + (((((M_x u) - (M_x u) / 65536 * 65536) * ((M_y u) / 65536)) + (((((M_x u) / 65536) * ((M_y u) - (M_y u) / 65536 * 65536)) + ((((M_x u) - (M_x u) / 65536 * 65536) * ((M_y u) - (M_y u) / 65536 * 65536)) / 65536)) - ((((M_x u) / 65536) * ((M_y u) - (M_y u) / 65536 * 65536)) + ((((M_x u) - (M_x u) / 65536 * 65536) * ((M_y u) - (M_y u) / 65536 * 65536)) / 65536)) / 65536 * 65536)) / 65536) := by rw [S1_upper]
  exact W.lret (v := ((((M_x u) / 65536) * ((M_y u) / 65536)) + (((((M_x u) / 65536) * ((M_y u) - (M_y u) / 65536 * 65536)) + ((((M_x u) - (M_x u) / 65536 * 65536) * ((M_y u) - (M_y u) / 65536 * 65536)) / 65536)) / 65536)) + (((((M_x u) - (M_x u) / 65536 * 65536) * ((M_y u) / 65536)) + (((((M_x u) / 65536) * ((M_y u) - (M_y u) / 65536 * 65536)) + ((((M_x u) - (M_x u) / 65536 * 65536) * ((M_y u) - (M_y u) / 65536 * 65536)) / 65536)) - ((((M_x u) / 65536) * ((M_y u) - (M_y u) / 65536 * 65536)) + ((((M_x u) - (M_x u) / 65536 * 65536) * ((M_y u) - (M_y u) / 65536 * 65536)) / 65536)) / 65536 * 65536)) / 65536)) hx hb hr (fun t ht hW => ⟨⟨((((M_x u) / 65536) * ((M_y u) / 65536)) + (((((M_x u) / 65536) * ((M_y u) - (M_y u) / 65536 * 65536)) + ((((M_x u) - (M_x u) / 65536 * 65536) * ((M_y u) - (M_y u) / 65536 * 65536)) / 65536)) / 65536)) + (((((M_x u) - (M_x u) / 65536 * 65536) * ((M_y u) / 65536)) + (((((M_x u) / 65536) * ((M_y u) - (M_y u) / 65536 * 65536)) + ((((M_x u) - (M_x u) / 65536 * 65536) * ((M_y u) - (M_y u) / 65536 * 65536)) / 65536)) - ((((M_x u) / 65536) * ((M_y u) - (M_y u) / 65536 * 65536)) + ((((M_x u) - (M_x u) / 65536 * 65536) * ((M_y u) - (M_y u) / 65536 * 65536)) / 65536)) / 65536 * 65536)) / 65536), (), rfl, e9.symm, (by show va_P _ _ _ t.heap; rw [ht]; exact hP)⟩, hS.F ht⟩) hS.2.2 dX1_upper_84
theorem iwX1_product : ∀ w ∈ wsX10, w ∈ wsX1_product := by decide +kernel
theorem flX1_product_56 : Cond.fieldLink RX1 56 "WordMachineModel" "t" "I" ∈ wsX1_product := by decide +kernel
theorem flX1_product_59 : Cond.fieldLink RX1 59 "WordMachineModel" "x" "J" ∈ wsX1_product := by decide +kernel
theorem flX1_product_63 : Cond.fieldLink RX1 63 "WordMachineModel" "y" "J" ∈ wsX1_product := by decide +kernel
theorem ctX1_product_29 : Cond.constantLong RX1 29 (4294967296) ∈ wsX1_product := by decide +kernel
theorem ctX1_product_130 : Cond.constantLong RX1 130 (-1) ∈ wsX1_product := by decide +kernel
theorem hdX1_product : yX1_product.cls = RX1 ∧ yX1_product.cls ≠ "java/lang/invoke/MethodHandle" ∧ yX1_product.cls ≠ "java/lang/invoke/VarHandle" ∧ (parseMethodDescriptor yX1_product.desc).map (fun d => d.parameters.length) = some 0 := by decide +kernel
set_option maxHeartbeats 4000000 in
set_option maxRecDepth 100000 in
theorem c1_product (l : Launch) {D : va_G} {cI cJ cB : ClassId} {h q1 q2 q3 : Nat} (hap : ap4 h q1 q2 q3)  (u : MS) (hy : ¬ M_y u = 0 → ¬ S1_signed (M_y u) = 0) : Inl l yX1_product wsX1_product 1 32 D (ty1 cI cJ cB) (wa0 h q1 q2 q3) [.ref h] (ww1 cI cJ cB h q1 q2 q3 u) (ww1 cI cJ cB h q1 q2 q3 u) (S1_product u) := by
  refine Met.ofW (cc := cX1_product) (maxL := 5) (ret := (some .long)) (by decide) rfl ?_
  intro p e s m args below meth c s₁ B hml hv
  obtain ⟨rfl, hP, hK⟩ := hv
  have hx := B.exec
  have hb := B.bytes
  have hr := B.returns
  have hts := atoms_spec (ws := wsX1_product) B.pre
  have hown : s.vm.findClass RX1 = some m.cls := findClass_of_methodNamed B.named
  have hlocks := B.notSynchronized
  have hS : va_S (wa0 h q1 q2 q3) s.heap s.heap [] := va_S.rf
  have hl := lv_entry ([.ref h]) (n := 5) (Nat.le_of_ble_eq_true rfl)
  rw [lg_entry_eq]
  generalize (lg_sl ([.ref h]) ++ List.replicate (5 - (lg_sl ([.ref h])).length) Slot.unset).toArray = ls at hl ⊢
  have hl : lv_has ls 5 [(0, .ref h)] := hl
  refine lv_aload_n hx hb dX1_product_0 rfl (lv_at hl 0 rfl) ?_
  refine va_get (D := D) (ci := 1) (v := .long (M_x u)) (C := RX1) (T := TX1) (N := 12) hx hb hts iwX1_product hown hK hP 0 rfl rfl 10 (by decide) (hts (.fieldLink RX1 59 "WordMachineModel" "x" "J") flX1_product_59) (fun _ h9 => h9) rfl dX1_product_1 ?_
  refine pu_l (v := S1_signed (M_x u)) (As := [.long (M_x u)]) (rest := []) ⟨hx, hb, hml, hown, hts⟩ (c1_signed l (M_x u) ) gX1_product_X1_signed rfl hdX1_signed ⟨Nat.le_of_ble_eq_true rfl, Nat.le_of_ble_eq_true rfl⟩ hl.1 rfl (Nat.le_of_ble_eq_true rfl) dX1_product_4 ⟨Nat.zero_le _, Nat.zero_le _⟩ hP hS (fun H locs hP hS => ?_)
  refine lv_lstore_n (lv' := [(1, .long (S1_signed (M_x u))), (0, .ref h)]) hx hb dX1_product_7 rfl hl (by decide) rfl (fun ls hl => ?_)
  refine lv_aload_n hx hb dX1_product_8 rfl (lv_at hl 1 rfl) ?_
  refine va_get (D := D) (ci := 1) (v := .long (M_y u)) (C := RX1) (T := TX1) (N := 12) hx hb hts iwX1_product hown hK hP 0 rfl rfl 11 (by decide) (hts (.fieldLink RX1 63 "WordMachineModel" "y" "J") flX1_product_63) (fun _ h9 => h9) rfl dX1_product_9 ?_
  refine pu_l (v := S1_signed (M_y u)) (As := [.long (M_y u)]) (rest := []) ⟨hx, hb, hml, hown, hts⟩ (c1_signed l (M_y u) ) gX1_product_X1_signed rfl hdX1_signed ⟨Nat.le_of_ble_eq_true rfl, Nat.le_of_ble_eq_true rfl⟩ hl.1 rfl (Nat.le_of_ble_eq_true rfl) dX1_product_12 ⟨Nat.zero_le _, Nat.zero_le _⟩ hP hS (fun H locs hP hS => ?_)
  refine lv_lstore_n (lv' := [(3, .long (S1_signed (M_y u))), (1, .long (S1_signed (M_x u))), (0, .ref h)]) hx hb dX1_product_15 rfl hl (by decide) rfl (fun ls hl => ?_)
  refine lv_aload_n hx hb dX1_product_16 rfl (lv_at hl 2 rfl) ?_
  refine va_get (D := D) (ci := 1) (v := .int (M_t u)) (C := RX1) (T := TX1) (N := 12) hx hb hts iwX1_product hown hK hP 0 rfl rfl 7 (by decide) (hts (.fieldLink RX1 56 "WordMachineModel" "t" "I") flX1_product_56) (fun _ h9 => h9) rfl dX1_product_17 ?_
  by_cases c1 : (M_t u) = 0
  · refine lv_tableIn (tgt := 64) hx hb dX1_product_20 (by rw [c1]; decide) (by rw [c1]; decide) (by rw [c1]; rfl) (by decide) ?_
    refine lv_lload_n hx hb dX1_product_64 rfl (lv_at hl 1 rfl) ?_
    refine lv_lload_n hx hb dX1_product_65 rfl (lv_at hl 0 rfl) ?_
    refine lv_lmul hx hb dX1_product_66 ?_
    have e9 : S1_product u = (S1_signed (M_x u)) * (S1_signed (M_y u)) := by rw [S1_product, if_pos c1]
    exact W.lret (v := (S1_signed (M_x u)) * (S1_signed (M_y u))) hx hb hr (fun t ht hW => ⟨⟨(S1_signed (M_x u)) * (S1_signed (M_y u)), (), rfl, e9.symm, (by show va_P _ _ _ t.heap; rw [ht]; exact hP)⟩, hS.F ht⟩) hS.2.2 dX1_product_67
  · skip
    by_cases c2 : (M_t u) = 1
    · refine lv_tableIn (tgt := 68) hx hb dX1_product_20 (by rw [c2]; decide) (by rw [c2]; decide) (by rw [c2]; rfl) (by decide) ?_
      refine lv_lload_n hx hb dX1_product_68 rfl (lv_at hl 1 rfl) ?_
      refine lv_lload_n hx hb dX1_product_69 rfl (lv_at hl 0 rfl) ?_
      refine lv_lmul hx hb dX1_product_70 ?_
      refine lv_ldc2 hx hb hown (hts (.constantLong RX1 29 (4294967296)) ctX1_product_29) dX1_product_71 ?_
      refine pu_l (v := S1_down ((S1_signed (M_x u)) * (S1_signed (M_y u))) (4294967296)) (As := [.long ((S1_signed (M_x u)) * (S1_signed (M_y u))), .long 4294967296]) (rest := []) ⟨hx, hb, hml, hown, hts⟩ (c1_down l ((S1_signed (M_x u)) * (S1_signed (M_y u))) (4294967296) (by decide)) gX1_product_X1_down rfl hdX1_down ⟨Nat.le_of_ble_eq_true rfl, Nat.le_of_ble_eq_true rfl⟩ hl.1 rfl (Nat.le_of_ble_eq_true rfl) dX1_product_74 ⟨Nat.zero_le _, Nat.zero_le _⟩ hP hS (fun H locs hP hS => ?_)
      have e9 : S1_product u = S1_down ((S1_signed (M_x u)) * (S1_signed (M_y u))) (4294967296) := by rw [S1_product, if_neg c1, if_pos c2]
      exact W.lret (v := S1_down ((S1_signed (M_x u)) * (S1_signed (M_y u))) (4294967296)) hx hb hr (fun t ht hW => ⟨⟨S1_down ((S1_signed (M_x u)) * (S1_signed (M_y u))) (4294967296), (), rfl, e9.symm, (by show va_P _ _ _ t.heap; rw [ht]; exact hP)⟩, hS.F ht⟩) hS.2.2 dX1_product_77
    · skip
      by_cases c3 : (M_t u) = 2
      · refine lv_tableIn (tgt := 78) hx hb dX1_product_20 (by rw [c3]; decide) (by rw [c3]; decide) (by rw [c3]; rfl) (by decide) ?_
        refine lv_lload_n hx hb dX1_product_78 rfl (lv_at hl 1 rfl) ?_
        refine lv_aload_n hx hb dX1_product_79 rfl (lv_at hl 2 rfl) ?_
        refine va_get (D := D) (ci := 1) (v := .long (M_y u)) (C := RX1) (T := TX1) (N := 12) hx hb hts iwX1_product hown hK hP 0 rfl rfl 11 (by decide) (hts (.fieldLink RX1 63 "WordMachineModel" "y" "J") flX1_product_63) (fun _ h9 => h9) rfl dX1_product_80 ?_
        refine lv_lmul hx hb dX1_product_83 ?_
        refine lv_ldc2 hx hb hown (hts (.constantLong RX1 29 (4294967296)) ctX1_product_29) dX1_product_84 ?_
        refine pu_l (v := S1_down ((S1_signed (M_x u)) * (M_y u)) (4294967296)) (As := [.long ((S1_signed (M_x u)) * (M_y u)), .long 4294967296]) (rest := []) ⟨hx, hb, hml, hown, hts⟩ (c1_down l ((S1_signed (M_x u)) * (M_y u)) (4294967296) (by decide)) gX1_product_X1_down rfl hdX1_down ⟨Nat.le_of_ble_eq_true rfl, Nat.le_of_ble_eq_true rfl⟩ hl.1 rfl (Nat.le_of_ble_eq_true rfl) dX1_product_87 ⟨Nat.zero_le _, Nat.zero_le _⟩ hP hS (fun H locs hP hS => ?_)
        have e9 : S1_product u = S1_down ((S1_signed (M_x u)) * (M_y u)) (4294967296) := by rw [S1_product, if_neg c1, if_neg c2, if_pos c3]
        exact W.lret (v := S1_down ((S1_signed (M_x u)) * (M_y u)) (4294967296)) hx hb hr (fun t ht hW => ⟨⟨S1_down ((S1_signed (M_x u)) * (M_y u)) (4294967296), (), rfl, e9.symm, (by show va_P _ _ _ t.heap; rw [ht]; exact hP)⟩, hS.F ht⟩) hS.2.2 dX1_product_90
      · skip
        by_cases c4 : (M_t u) = 3
        · refine lv_tableIn (tgt := 91) hx hb dX1_product_20 (by rw [c4]; decide) (by rw [c4]; decide) (by rw [c4]; rfl) (by decide) ?_
          refine lv_aload_n hx hb dX1_product_91 rfl (lv_at hl 2 rfl) ?_
          refine in_l (v := S1_upper u) (As := []) (rest := []) (w1 := ww1 cI cJ cB h q1 q2 q3 u) ⟨hx, hb, hml, hown, hts⟩ (c1_upper l hap  u ) gX1_product_X1_upper rfl hdX1_upper ⟨Nat.le_of_ble_eq_true rfl, Nat.le_of_ble_eq_true rfl⟩ hK rfl rfl hl.1 rfl (Nat.le_of_ble_eq_true rfl) dX1_product_92 ⟨Nat.zero_le _, Nat.zero_le _⟩ hP hS (fun _ h => h) (fun H locs hP hS _ _ => ?_)
          have e9 : S1_product u = S1_upper u := by rw [S1_product, if_neg c1, if_neg c2, if_neg c3, if_pos c4]
          exact W.lret (v := S1_upper u) hx hb hr (fun t ht hW => ⟨⟨S1_upper u, (), rfl, e9.symm, (by show va_P _ _ _ t.heap; rw [ht]; exact hP)⟩, hS.F ht⟩) hS.2.2 dX1_product_95
        · skip
          by_cases c5 : (M_t u) = 4
          · refine lv_tableIn (tgt := 96) hx hb dX1_product_20 (by rw [c5]; decide) (by rw [c5]; decide) (by rw [c5]; rfl) (by decide) ?_
            refine lv_aload_n hx hb dX1_product_96 rfl (lv_at hl 2 rfl) ?_
            refine va_get (D := D) (ci := 1) (v := .long (M_y u)) (C := RX1) (T := TX1) (N := 12) hx hb hts iwX1_product hown hK hP 0 rfl rfl 11 (by decide) (hts (.fieldLink RX1 63 "WordMachineModel" "y" "J") flX1_product_63) (fun _ h9 => h9) rfl dX1_product_97 ?_
            refine lv_lconst (v := 0) hx hb dX1_product_100 (by decide) ?_
            refine W.lcmp hx hb dX1_product_101 ?_
            refine lv_if_ne (tgt := 111) hx hb dX1_product_102 (by decide) (fun (c6 : ¬ (lg_cmp (M_y u) 0) = 0) => ?_) (fun (c6 : (lg_cmp (M_y u) 0) = 0) => ?_)
            · refine lv_lload_n hx hb dX1_product_111 rfl (lv_at hl 1 rfl) ?_
              refine lv_lload_n hx hb dX1_product_112 rfl (lv_at hl 0 rfl) ?_
              refine lv_ldiv hx hb dX1_product_113 (hy (cmp_ne c6)) ?_
              have e9 : S1_product u = (S1_signed (M_x u)) / (S1_signed (M_y u)) := by rw [S1_product, if_neg c1, if_neg c2, if_neg c3, if_neg c4, if_pos c5, if_neg c6]
              exact W.lret (v := (S1_signed (M_x u)) / (S1_signed (M_y u))) hx hb hr (fun t ht hW => ⟨⟨(S1_signed (M_x u)) / (S1_signed (M_y u)), (), rfl, e9.symm, (by show va_P _ _ _ t.heap; rw [ht]; exact hP)⟩, hS.F ht⟩) hS.2.2 dX1_product_114
            · refine lv_ldc2 hx hb hown (hts (.constantLong RX1 130 (-1)) ctX1_product_130) dX1_product_105 ?_
              refine lv_goto (tgt := 114) hx hb dX1_product_108 (by decide) ?_
              have e9 : S1_product u = ((-1) : Int64) := by rw [S1_product, if_neg c1, if_neg c2, if_neg c3, if_neg c4, if_pos c5, if_pos c6]
              exact W.lret (v := ((-1) : Int64)) hx hb hr (fun t ht hW => ⟨⟨((-1) : Int64), (), rfl, e9.symm, (by show va_P _ _ _ t.heap; rw [ht]; exact hP)⟩, hS.F ht⟩) hS.2.2 dX1_product_114
          · skip
            by_cases c7 : (M_t u) = 5
            · refine lv_tableIn (tgt := 115) hx hb dX1_product_20 (by rw [c7]; decide) (by rw [c7]; decide) (by rw [c7]; rfl) (by decide) ?_
              refine lv_aload_n hx hb dX1_product_115 rfl (lv_at hl 2 rfl) ?_
              refine va_get (D := D) (ci := 1) (v := .long (M_y u)) (C := RX1) (T := TX1) (N := 12) hx hb hts iwX1_product hown hK hP 0 rfl rfl 11 (by decide) (hts (.fieldLink RX1 63 "WordMachineModel" "y" "J") flX1_product_63) (fun _ h9 => h9) rfl dX1_product_116 ?_
              refine lv_lconst (v := 0) hx hb dX1_product_119 (by decide) ?_
              refine W.lcmp hx hb dX1_product_120 ?_
              refine lv_if_ne (tgt := 130) hx hb dX1_product_121 (by decide) (fun (c8 : ¬ (lg_cmp (M_y u) 0) = 0) => ?_) (fun (c8 : (lg_cmp (M_y u) 0) = 0) => ?_)
              · refine lv_aload_n hx hb dX1_product_130 rfl (lv_at hl 2 rfl) ?_
                refine va_get (D := D) (ci := 1) (v := .long (M_x u)) (C := RX1) (T := TX1) (N := 12) hx hb hts iwX1_product hown hK hP 0 rfl rfl 10 (by decide) (hts (.fieldLink RX1 59 "WordMachineModel" "x" "J") flX1_product_59) (fun _ h9 => h9) rfl dX1_product_131 ?_
                refine lv_aload_n hx hb dX1_product_134 rfl (lv_at hl 2 rfl) ?_
                refine va_get (D := D) (ci := 1) (v := .long (M_y u)) (C := RX1) (T := TX1) (N := 12) hx hb hts iwX1_product hown hK hP 0 rfl rfl 11 (by decide) (hts (.fieldLink RX1 63 "WordMachineModel" "y" "J") flX1_product_63) (fun _ h9 => h9) rfl dX1_product_135 ?_
                refine lv_ldiv hx hb dX1_product_138 (cmp_ne c8) ?_
                have e9 : S1_product u = (M_x u) / (M_y u) := by rw [S1_product, if_neg c1, if_neg c2, if_neg c3, if_neg c4, if_neg c5, if_pos c7, if_neg c8]
                exact W.lret (v := (M_x u) / (M_y u)) hx hb hr (fun t ht hW => ⟨⟨(M_x u) / (M_y u), (), rfl, e9.symm, (by show va_P _ _ _ t.heap; rw [ht]; exact hP)⟩, hS.F ht⟩) hS.2.2 dX1_product_139
              · refine lv_ldc2 hx hb hown (hts (.constantLong RX1 130 (-1)) ctX1_product_130) dX1_product_124 ?_
                refine lv_goto (tgt := 139) hx hb dX1_product_127 (by decide) ?_
                have e9 : S1_product u = ((-1) : Int64) := by rw [S1_product, if_neg c1, if_neg c2, if_neg c3, if_neg c4, if_neg c5, if_pos c7, if_pos c8]
                exact W.lret (v := ((-1) : Int64)) hx hb hr (fun t ht hW => ⟨⟨((-1) : Int64), (), rfl, e9.symm, (by show va_P _ _ _ t.heap; rw [ht]; exact hP)⟩, hS.F ht⟩) hS.2.2 dX1_product_139
            · skip
              by_cases c9 : (M_t u) = 6
              · refine lv_tableIn (tgt := 140) hx hb dX1_product_20 (by rw [c9]; decide) (by rw [c9]; decide) (by rw [c9]; rfl) (by decide) ?_
                refine lv_aload_n hx hb dX1_product_140 rfl (lv_at hl 2 rfl) ?_
                refine va_get (D := D) (ci := 1) (v := .long (M_y u)) (C := RX1) (T := TX1) (N := 12) hx hb hts iwX1_product hown hK hP 0 rfl rfl 11 (by decide) (hts (.fieldLink RX1 63 "WordMachineModel" "y" "J") flX1_product_63) (fun _ h9 => h9) rfl dX1_product_141 ?_
                refine lv_lconst (v := 0) hx hb dX1_product_144 (by decide) ?_
                refine W.lcmp hx hb dX1_product_145 ?_
                refine lv_if_ne (tgt := 156) hx hb dX1_product_146 (by decide) (fun (c10 : ¬ (lg_cmp (M_y u) 0) = 0) => ?_) (fun (c10 : (lg_cmp (M_y u) 0) = 0) => ?_)
                · refine lv_lload_n hx hb dX1_product_156 rfl (lv_at hl 1 rfl) ?_
                  refine lv_lload_n hx hb dX1_product_157 rfl (lv_at hl 0 rfl) ?_
                  refine lv_lrem hx hb dX1_product_158 (hy (cmp_ne c10)) ?_
                  have e9 : S1_product u = (S1_signed (M_x u)) - (S1_signed (M_x u)) / (S1_signed (M_y u)) * (S1_signed (M_y u)) := by rw [S1_product, if_neg c1, if_neg c2, if_neg c3, if_neg c4, if_neg c5, if_neg c7, if_pos c9, if_neg c10]
                  exact W.lret (v := (S1_signed (M_x u)) - (S1_signed (M_x u)) / (S1_signed (M_y u)) * (S1_signed (M_y u))) hx hb hr (fun t ht hW => ⟨⟨(S1_signed (M_x u)) - (S1_signed (M_x u)) / (S1_signed (M_y u)) * (S1_signed (M_y u)), (), rfl, e9.symm, (by show va_P _ _ _ t.heap; rw [ht]; exact hP)⟩, hS.F ht⟩) hS.2.2 dX1_product_159
                · refine lv_aload_n hx hb dX1_product_149 rfl (lv_at hl 2 rfl) ?_
                  refine va_get (D := D) (ci := 1) (v := .long (M_x u)) (C := RX1) (T := TX1) (N := 12) hx hb hts iwX1_product hown hK hP 0 rfl rfl 10 (by decide) (hts (.fieldLink RX1 59 "WordMachineModel" "x" "J") flX1_product_59) (fun _ h9 => h9) rfl dX1_product_150 ?_
                  refine lv_goto (tgt := 159) hx hb dX1_product_153 (by decide) ?_
                  have e9 : S1_product u = M_x u := by rw [S1_product, if_neg c1, if_neg c2, if_neg c3, if_neg c4, if_neg c5, if_neg c7, if_pos c9, if_pos c10]
                  exact W.lret (v := M_x u) hx hb hr (fun t ht hW => ⟨⟨M_x u, (), rfl, e9.symm, (by show va_P _ _ _ t.heap; rw [ht]; exact hP)⟩, hS.F ht⟩) hS.2.2 dX1_product_159
              · skip
                refine lv_tableOut (tgt := 160) hx hb dX1_product_20 (by have nc1 := lv_neT c1 (show (0 : Int32).toInt = 0 from by decide); have nc2 := lv_neT c2 (show (1 : Int32).toInt = 1 from by decide); have nc3 := lv_neT c3 (show (2 : Int32).toInt = 2 from by decide); have nc4 := lv_neT c4 (show (3 : Int32).toInt = 3 from by decide); have nc5 := lv_neT c5 (show (4 : Int32).toInt = 4 from by decide); have nc7 := lv_neT c7 (show (5 : Int32).toInt = 5 from by decide); have nc9 := lv_neT c9 (show (6 : Int32).toInt = 6 from by decide); omega) (by decide) ?_
                refine lv_aload_n hx hb dX1_product_160 rfl (lv_at hl 2 rfl) ?_
                refine va_get (D := D) (ci := 1) (v := .long (M_y u)) (C := RX1) (T := TX1) (N := 12) hx hb hts iwX1_product hown hK hP 0 rfl rfl 11 (by decide) (hts (.fieldLink RX1 63 "WordMachineModel" "y" "J") flX1_product_63) (fun _ h9 => h9) rfl dX1_product_161 ?_
                refine lv_lconst (v := 0) hx hb dX1_product_164 (by decide) ?_
                refine W.lcmp hx hb dX1_product_165 ?_
                refine lv_if_ne (tgt := 176) hx hb dX1_product_166 (by decide) (fun (c11 : ¬ (lg_cmp (M_y u) 0) = 0) => ?_) (fun (c11 : (lg_cmp (M_y u) 0) = 0) => ?_)
                · refine lv_aload_n hx hb dX1_product_176 rfl (lv_at hl 2 rfl) ?_
                  refine va_get (D := D) (ci := 1) (v := .long (M_x u)) (C := RX1) (T := TX1) (N := 12) hx hb hts iwX1_product hown hK hP 0 rfl rfl 10 (by decide) (hts (.fieldLink RX1 59 "WordMachineModel" "x" "J") flX1_product_59) (fun _ h9 => h9) rfl dX1_product_177 ?_
                  refine lv_aload_n hx hb dX1_product_180 rfl (lv_at hl 2 rfl) ?_
                  refine va_get (D := D) (ci := 1) (v := .long (M_y u)) (C := RX1) (T := TX1) (N := 12) hx hb hts iwX1_product hown hK hP 0 rfl rfl 11 (by decide) (hts (.fieldLink RX1 63 "WordMachineModel" "y" "J") flX1_product_63) (fun _ h9 => h9) rfl dX1_product_181 ?_
                  refine lv_lrem hx hb dX1_product_184 (cmp_ne c11) ?_
                  have e9 : S1_product u = (M_x u) - (M_x u) / (M_y u) * (M_y u) := by rw [S1_product, if_neg c1, if_neg c2, if_neg c3, if_neg c4, if_neg c5, if_neg c7, if_neg c9, if_neg c11]
                  exact W.lret (v := (M_x u) - (M_x u) / (M_y u) * (M_y u)) hx hb hr (fun t ht hW => ⟨⟨(M_x u) - (M_x u) / (M_y u) * (M_y u), (), rfl, e9.symm, (by show va_P _ _ _ t.heap; rw [ht]; exact hP)⟩, hS.F ht⟩) hS.2.2 dX1_product_185
                · refine lv_aload_n hx hb dX1_product_169 rfl (lv_at hl 2 rfl) ?_
                  refine va_get (D := D) (ci := 1) (v := .long (M_x u)) (C := RX1) (T := TX1) (N := 12) hx hb hts iwX1_product hown hK hP 0 rfl rfl 10 (by decide) (hts (.fieldLink RX1 59 "WordMachineModel" "x" "J") flX1_product_59) (fun _ h9 => h9) rfl dX1_product_170 ?_
                  refine lv_goto (tgt := 185) hx hb dX1_product_173 (by decide) ?_
                  have e9 : S1_product u = M_x u := by rw [S1_product, if_neg c1, if_neg c2, if_neg c3, if_neg c4, if_neg c5, if_neg c7, if_neg c9, if_pos c11]
                  exact W.lret (v := M_x u) hx hb hr (fun t ht hW => ⟨⟨M_x u, (), rfl, e9.symm, (by show va_P _ _ _ t.heap; rw [ht]; exact hP)⟩, hS.F ht⟩) hS.2.2 dX1_product_185
