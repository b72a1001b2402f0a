theorem ctX1_plain_25 : Cond.constantLong RX1 25 (4294967295) ∈ wsX1_plain := by decide +kernel
theorem hdX1_plain : yX1_plain.cls ≠ "java/lang/invoke/MethodHandle" ∧ yX1_plain.cls ≠ "java/lang/invoke/VarHandle" ∧ (parseMethodDescriptor yX1_plain.desc).map (fun d => d.parameters.length) = some 1 := by decide +kernel
set_option maxHeartbeats 4000000 in
set_option maxRecDepth 100000 in
theorem c1_plain (l : Launch) (va : Int64)  : Pul l yX1_plain wsX1_plain 0 0 [.long va] (S1_plain va) := by
  refine Met.ofW (cc := cX1_plain) (maxL := 2) (ret := (some .long)) (by decide) rfl ?_
  intro p e s m args below meth c s₁ B hml hv
  obtain ⟨rfl, -⟩ := hv
  have hx := B.exec
  have hb := B.bytes
  have hr := B.returns
  have hts := atoms_spec (ws := wsX1_plain) B.pre
  have hown : s.vm.findClass RX1 = some m.cls := findClass_of_methodNamed B.named
  have hlocks := B.notSynchronized
  have hP : va_P ((fun _ => 0), (fun _ _ => 0)) [] [] s.heap := fun k q h => by simp at h
  have hS : va_S (fun _ => False) s.heap s.heap [] := va_S.rf
  have hl := lv_entry ([.long va]) (n := 2) (Nat.le_of_ble_eq_true rfl)
  rw [lg_entry_eq]
  generalize (lg_sl ([.long va]) ++ List.replicate (2 - (lg_sl ([.long va])).length) Slot.unset).toArray = ls at hl ⊢
  have hl : lv_has ls 2 [(0, .long va)] := hl
  refine lv_lload_n hx hb dX1_plain_0 rfl (lv_at hl 0 rfl) ?_
  refine lv_ldc2 hx hb hown (hts (.constantLong RX1 25 (4294967295)) ctX1_plain_25) dX1_plain_1 ?_
  refine lv_land hx hb dX1_plain_4 ?_
  have e9 : S1_plain va = va &&& 4294967295 := by rw [S1_plain]
  exact W.lret (v := va &&& 4294967295) hx hb hr (fun t ht hW => ⟨⟨va &&& 4294967295, (), rfl, e9.symm, trivial⟩, hS.F ht⟩) hS.2.2 dX1_plain_5
theorem ctX1_signed_27 : Cond.constantLong RX1 27 (2147483648) ∈ wsX1_signed := by decide +kernel
theorem ctX1_signed_29 : Cond.constantLong RX1 29 (4294967296) ∈ wsX1_signed := by decide +kernel
theorem hdX1_signed : yX1_signed.cls ≠ "java/lang/invoke/MethodHandle" ∧ yX1_signed.cls ≠ "java/lang/invoke/VarHandle" ∧ (parseMethodDescriptor yX1_signed.desc).map (fun d => d.parameters.length) = some 1 := by decide +kernel
set_option maxHeartbeats 4000000 in
set_option maxRecDepth 100000 in
theorem c1_signed (l : Launch) (va : Int64)  : Pul l yX1_signed wsX1_signed 0 0 [.long va] (S1_signed va) := by
  refine Met.ofW (cc := cX1_signed) (maxL := 2) (ret := (some .long)) (by decide) rfl ?_
  intro p e s m args below meth c s₁ B hml hv
  obtain ⟨rfl, -⟩ := hv
  have hx := B.exec
  have hb := B.bytes
  have hr := B.returns
  have hts := atoms_spec (ws := wsX1_signed) B.pre
  have hown : s.vm.findClass RX1 = some m.cls := findClass_of_methodNamed B.named
  have hlocks := B.notSynchronized
  have hP : va_P ((fun _ => 0), (fun _ _ => 0)) [] [] s.heap := fun k q h => by simp at h
  have hS : va_S (fun _ => False) s.heap s.heap [] := va_S.rf
  have hl := lv_entry ([.long va]) (n := 2) (Nat.le_of_ble_eq_true rfl)
  rw [lg_entry_eq]
  generalize (lg_sl ([.long va]) ++ List.replicate (2 - (lg_sl ([.long va])).length) Slot.unset).toArray = ls at hl ⊢
  have hl : lv_has ls 2 [(0, .long va)] := hl
  refine lv_lload_n hx hb dX1_signed_0 rfl (lv_at hl 0 rfl) ?_
  refine lv_ldc2 hx hb hown (hts (.constantLong RX1 27 (2147483648)) ctX1_signed_27) dX1_signed_1 ?_
  refine W.lcmp hx hb dX1_signed_4 ?_
  refine lv_if_lt (tgt := 16) hx hb dX1_signed_5 (by decide) (fun (c1 : (lg_cmp va 2147483648) < 0) => ?_) (fun (c1 : ¬ (lg_cmp va 2147483648) < 0) => ?_)
  · refine lv_lload_n hx hb dX1_signed_16 rfl (lv_at hl 0 rfl) ?_
    have e9 : S1_signed va = va := by rw [S1_signed, if_pos c1]
    exact W.lret (v := va) hx hb hr (fun t ht hW => ⟨⟨va, (), rfl, e9.symm, trivial⟩, hS.F ht⟩) hS.2.2 dX1_signed_17
  · refine lv_lload_n hx hb dX1_signed_8 rfl (lv_at hl 0 rfl) ?_
    refine lv_ldc2 hx hb hown (hts (.constantLong RX1 29 (4294967296)) ctX1_signed_29) dX1_signed_9 ?_
    refine lv_lsub hx hb dX1_signed_12 ?_
    refine lv_goto (tgt := 17) hx hb dX1_signed_13 (by decide) ?_
    have e9 : S1_signed va = va - 4294967296 := by rw [S1_signed, if_neg c1]
    exact W.lret (v := va - 4294967296) hx hb hr (fun t ht hW => ⟨⟨va - 4294967296, (), rfl, e9.symm, trivial⟩, hS.F ht⟩) hS.2.2 dX1_signed_17
theorem hdX1_bits : yX1_bits.cls ≠ "java/lang/invoke/MethodHandle" ∧ yX1_bits.cls ≠ "java/lang/invoke/VarHandle" ∧ (parseMethodDescriptor yX1_bits.desc).map (fun d => d.parameters.length) = some 3 := by decide +kernel
set_option maxHeartbeats 4000000 in
set_option maxRecDepth 100000 in
theorem c1_bits (l : Launch) (wa : Int32) (fa : Int32) (na : Int32)  : Pui l yX1_bits wsX1_bits 1 21 [.int wa, .int fa, .int na] (S1_bits wa fa na) := by
  refine Met.ofW (cc := cX1_bits) (maxL := 3) (ret := (some .int)) (by decide) rfl ?_
  intro p e s m args below meth c s₁ B hml hv
  obtain ⟨rfl, -⟩ := hv
  have hx := B.exec
  have hb := B.bytes
  have hr := B.returns
  have hts := atoms_spec (ws := wsX1_bits) B.pre
  have hown : s.vm.findClass RX1 = some m.cls := findClass_of_methodNamed B.named
  have hlocks := B.notSynchronized
  have hP : va_P ((fun _ => 0), (fun _ _ => 0)) [] [] s.heap := fun k q h => by simp at h
  have hS : va_S (fun _ => False) s.heap s.heap [] := va_S.rf
  have hl := lv_entry ([.int wa, .int fa, .int na]) (n := 3) (Nat.le_of_ble_eq_true rfl)
  rw [lg_entry_eq]
  generalize (lg_sl ([.int wa, .int fa, .int na]) ++ List.replicate (3 - (lg_sl ([.int wa, .int fa, .int na])).length) Slot.unset).toArray = ls at hl ⊢
  have hl : lv_has ls 3 [(0, .int wa), (1, .int fa), (2, .int na)] := hl
  refine lv_iload_n hx hb dX1_bits_0 rfl (lv_at hl 0 rfl) ?_
  refine lv_i2l (v := wa.toInt64) hx hb dX1_bits_1 rfl ?_
  refine pu_l (v := S1_plain wa.toInt64) (As := [.long wa.toInt64]) (rest := []) ⟨hx, hb, hml, hown, hts⟩ (c1_plain l wa.toInt64 ) gX1_bits_X1_plain rfl hdX1_plain ⟨Nat.le_of_ble_eq_true rfl, Nat.le_of_ble_eq_true rfl⟩ hl.1 rfl (Nat.le_of_ble_eq_true rfl) dX1_bits_2 ⟨Nat.zero_le _, Nat.zero_le _⟩ hP hS (fun H locs hP hS => ?_)
  refine lv_iload_n hx hb dX1_bits_5 rfl (lv_at hl 1 rfl) ?_
  refine lv_lshr (v := l_shr (S1_plain wa.toInt64) fa) hx hb dX1_bits_6 rfl ?_
  refine lv_l2i (v := (l_shr (S1_plain wa.toInt64) fa).toInt32) hx hb dX1_bits_7 rfl ?_
  refine lv_iconst (v := 1) hx hb dX1_bits_8 (by decide) ?_
  refine lv_iload_n hx hb dX1_bits_9 rfl (lv_at hl 2 rfl) ?_
  refine lv_ishl hx hb dX1_bits_10 ?_
  refine lv_iconst (v := 1) hx hb dX1_bits_11 (by decide) ?_
  refine lv_isub hx hb dX1_bits_12 ?_
  refine lv_iand hx hb dX1_bits_13 ?_
  have e9 : S1_bits wa fa na = ((l_shr (S1_plain wa.toInt64) fa).toInt32) &&& (((1 : Int32) <<< (na &&& 31)) - 1) := by rw [S1_bits]
  exact W.iret (v := ((l_shr (S1_plain wa.toInt64) fa).toInt32) &&& (((1 : Int32) <<< (na &&& 31)) - 1)) hx hb hr (fun t ht hW => ⟨⟨((l_shr (S1_plain wa.toInt64) fa).toInt32) &&& (((1 : Int32) <<< (na &&& 31)) - 1), (), rfl, e9.symm, trivial⟩, hS.F ht⟩) hS.2.2 dX1_bits_14
theorem hdX1_withSign : yX1_withSign.cls ≠ "java/lang/invoke/MethodHandle" ∧ yX1_withSign.cls ≠ "java/lang/invoke/VarHandle" ∧ (parseMethodDescriptor yX1_withSign.desc).map (fun d => d.parameters.length) = some 2 := by decide +kernel
set_option maxHeartbeats 4000000 in
set_option maxRecDepth 100000 in
theorem c1_withSign (l : Launch) (va : Int32) (na : Int32)  : Pui l yX1_withSign wsX1_withSign 0 0 [.int va, .int na] (S1_withSign va na) := by
  refine Met.ofW (cc := cX1_withSign) (maxL := 2) (ret := (some .int)) (by decide) rfl ?_
  intro p e s m args below meth c s₁ B hml hv
  obtain ⟨rfl, -⟩ := hv
  have hx := B.exec
  have hb := B.bytes
  have hr := B.returns
  have hts := atoms_spec (ws := wsX1_withSign) B.pre
  have hown : s.vm.findClass RX1 = some m.cls := findClass_of_methodNamed B.named
  have hlocks := B.notSynchronized
  have hP : va_P ((fun _ => 0), (fun _ _ => 0)) [] [] s.heap := fun k q h => by simp at h
  have hS : va_S (fun _ => False) s.heap s.heap [] := va_S.rf
  have hl := lv_entry ([.int va, .int na]) (n := 2) (Nat.le_of_ble_eq_true rfl)
  rw [lg_entry_eq]
  generalize (lg_sl ([.int va, .int na]) ++ List.replicate (2 - (lg_sl ([.int va, .int na])).length) Slot.unset).toArray = ls at hl ⊢
  have hl : lv_has ls 2 [(0, .int va), (1, .int na)] := hl
  refine lv_iload_n hx hb dX1_withSign_0 rfl (lv_at hl 0 rfl) ?_
  refine lv_iconst (v := 1) hx hb dX1_withSign_1 (by decide) ?_
  refine lv_iload_n hx hb dX1_withSign_2 rfl (lv_at hl 1 rfl) ?_
  refine lv_iconst (v := 1) hx hb dX1_withSign_3 (by decide) ?_
  refine lv_isub hx hb dX1_withSign_4 ?_
  refine lv_ishl hx hb dX1_withSign_5 ?_
  refine lv_icmp_lt (tgt := 17) hx hb dX1_withSign_6 (by decide) (fun (c1 : va < ((1 : Int32) <<< ((na - 1) &&& 31))) => ?_) (fun (c1 : ¬ va < ((1 : Int32) <<< ((na - 1) &&& 31))) => ?_)
  · refine lv_iload_n hx hb dX1_withSign_17 rfl (lv_at hl 0 rfl) ?_
    have e9 : S1_withSign va na = va := by rw [S1_withSign, if_pos c1]
    exact W.iret (v := va) hx hb hr (fun t ht hW => ⟨⟨va, (), rfl, e9.symm, trivial⟩, hS.F ht⟩) hS.2.2 dX1_withSign_18
  · refine lv_iload_n hx hb dX1_withSign_9 rfl (lv_at hl 0 rfl) ?_
    refine lv_iconst (v := 1) hx hb dX1_withSign_10 (by decide) ?_
    refine lv_iload_n hx hb dX1_withSign_11 rfl (lv_at hl 1 rfl) ?_
    refine lv_ishl hx hb dX1_withSign_12 ?_
    refine lv_isub hx hb dX1_withSign_13 ?_
    refine lv_goto (tgt := 18) hx hb dX1_withSign_14 (by decide) ?_
    have e9 : S1_withSign va na = va - ((1 : Int32) <<< (na &&& 31)) := by rw [S1_withSign, if_neg c1]
    exact W.iret (v := va - ((1 : Int32) <<< (na &&& 31))) hx hb hr (fun t ht hW => ⟨⟨va - ((1 : Int32) <<< (na &&& 31)), (), rfl, e9.symm, trivial⟩, hS.F ht⟩) hS.2.2 dX1_withSign_18
theorem ctX1_power_108 : Cond.constantLong RX1 108 (2) ∈ wsX1_power := by decide +kernel
theorem hdX1_power : yX1_power.cls ≠ "java/lang/invoke/MethodHandle" ∧ yX1_power.cls ≠ "java/lang/invoke/VarHandle" ∧ (parseMethodDescriptor yX1_power.desc).map (fun d => d.parameters.length) = some 1 := by decide +kernel
set_option maxHeartbeats 4000000 in
set_option maxRecDepth 100000 in
theorem c1_power (l : Launch) (na : Int64)  : Pul l yX1_power wsX1_power 0 0 [.long na] (S1_power na) := by
  refine Met.ofW (cc := cX1_power) (maxL := 6) (ret := (some .long)) (by decide) rfl ?_
  intro p e s m args below meth c s₁ B hml hv
  obtain ⟨rfl, -⟩ := hv
  have hx := B.exec
  have hb := B.bytes
  have hr := B.returns
  have hts := atoms_spec (ws := wsX1_power) B.pre
  have hown : s.vm.findClass RX1 = some m.cls := findClass_of_methodNamed B.named
  have hlocks := B.notSynchronized
  have hP : va_P ((fun _ => 0), (fun _ _ => 0)) [] [] s.heap := fun k q h => by simp at h
  have hS : va_S (fun _ => False) s.heap s.heap [] := va_S.rf
  have hl := lv_entry ([.long na]) (n := 6) (Nat.le_of_ble_eq_true rfl)
  rw [lg_entry_eq]
  generalize (lg_sl ([.long na]) ++ List.replicate (6 - (lg_sl ([.long na])).length) Slot.unset).toArray = ls at hl ⊢
  have hl : lv_has ls 6 [(0, .long na)] := hl
  have J : ∀ (n9 j : Nat) (H : Heap) (locs : List Loc), va_P ((fun _ => 0), (fun _ _ => 0)) [] [] H → va_S (fun _ => False) s.heap H locs → ∀ ls : Array Slot, lv_has ls 6 [(4, .long (lN j)), (2, .long (lN (2 ^ j))), (0, .long na)] → j + n9 = na.toNatClampNeg → W p l e (headSpec wsX1_power ({ frames := 0, cells := 0, slots := 0, locals := 0 })).room s m ([.long na] : List Value).toArray below meth c H locs 0 0 (MQ below (va_Ql (fun (r : Int64) (_ : Unit) => r = S1_power na) (fun _ _ => True) (fun _ => False)) ([.long na] : List Value).toArray s 0 0 (fun _ => False)) (F0 m 5 ls []) := by
    intro n9
    induction n9 with
    | zero =>
      intro j H locs hP hS ls hl hj
      refine lv_lload hx hb dX1_power_5 (lv_at hl 0 rfl) ?_
      refine lv_lload_n hx hb dX1_power_7 rfl (lv_at hl 2 rfl) ?_
      refine W.lcmp hx hb dX1_power_8 ?_
      refine lv_if_ge (tgt := 27) hx hb dX1_power_9 (by decide) (fun (c1 : 0 ≤ (lg_cmp (lN j) na)) => ?_) (fun (c1 : ¬ 0 ≤ (lg_cmp (lN j) na)) => ?_)
      · refine lv_lload_n hx hb dX1_power_27 rfl (lv_at hl 1 rfl) ?_
        have e9 : S1_power na = lN (2 ^ j) := by rw [S1_power, ← hj]; rfl
        exact W.lret (v := lN (2 ^ j)) hx hb hr (fun t ht hW => ⟨⟨lN (2 ^ j), (), rfl, e9.symm, trivial⟩, hS.F ht⟩) hS.2.2 dX1_power_28
      · exact absurd (pw_ge hj) c1
    | succ n9 ih =>
      intro j H locs hP hS ls hl hj
      refine lv_lload hx hb dX1_power_5 (lv_at hl 0 rfl) ?_
      refine lv_lload_n hx hb dX1_power_7 rfl (lv_at hl 2 rfl) ?_
      refine W.lcmp hx hb dX1_power_8 ?_
      refine lv_if_ge (tgt := 27) hx hb dX1_power_9 (by decide) (fun (c2 : 0 ≤ (lg_cmp (lN j) na)) => ?_) (fun (c2 : ¬ 0 ≤ (lg_cmp (lN j) na)) => ?_)
      · exact absurd c2 (pw_lt (by omega))
      · refine lv_lload_n hx hb dX1_power_12 rfl (lv_at hl 1 rfl) ?_
        refine lv_ldc2 hx hb hown (hts (.constantLong RX1 108 (2)) ctX1_power_108) dX1_power_13 ?_
        refine lv_lmul hx hb dX1_power_16 ?_
        refine lv_lstore_n (lv' := [(2, .long ((lN (2 ^ j)) * 2)), (4, .long (lN j)), (0, .long na)]) hx hb dX1_power_17 rfl hl (by decide) rfl (fun ls hl => ?_)
        refine lv_lload hx hb dX1_power_18 (lv_at hl 1 rfl) ?_
        refine lv_lconst (v := 1) hx hb dX1_power_20 (by decide) ?_
        refine lv_ladd hx hb dX1_power_21 ?_
        refine lv_lstore (lv' := [(4, .long ((lN j) + 1)), (2, .long ((lN (2 ^ j)) * 2)), (0, .long na)]) hx hb dX1_power_22 hl (by decide) rfl (fun ls hl => ?_)
        refine lv_goto (tgt := 5) hx hb dX1_power_24 (by decide) ?_
        rw [lN_1, pw_dbl] at hl
        exact ih (j + 1) H locs hP hS ls (lv_sub hl [0, 1, 2] rfl) (by omega)
  refine lv_lconst (v := 1) hx hb dX1_power_0 (by decide) ?_
  refine lv_lstore_n (lv' := [(2, .long 1), (0, .long na)]) hx hb dX1_power_1 rfl hl (by decide) rfl (fun ls hl => ?_)
  refine lv_lconst (v := 0) hx hb dX1_power_2 (by decide) ?_
  refine lv_lstore (lv' := [(4, .long 0), (2, .long 1), (0, .long na)]) hx hb dX1_power_3 hl (by decide) rfl (fun ls hl => ?_)
  exact J na.toNatClampNeg 0 _ _ hP hS ls (lv_sub hl [0, 1, 2] rfl) (by omega)
theorem hdX1_down : yX1_down.cls ≠ "java/lang/invoke/MethodHandle" ∧ yX1_down.cls ≠ "java/lang/invoke/VarHandle" ∧ (parseMethodDescriptor yX1_down.desc).map (fun d => d.parameters.length) = some 2 := by decide +kernel
set_option maxHeartbeats 4000000 in
set_option maxRecDepth 100000 in
theorem c1_down (l : Launch) (aa : Int64) (ba : Int64) (hb0 : ¬ ba = 0) : Pul l yX1_down wsX1_down 0 0 [.long aa, .long ba] (S1_down aa ba) := by
  refine Met.ofW (cc := cX1_down) (maxL := 6) (ret := (some .long)) (by decide) rfl ?_
  intro p e s m args below meth c s₁ B hml hv
  obtain ⟨rfl, -⟩ := hv
  have hx := B.exec
  have hb := B.bytes
  have hr := B.returns
  have hts := atoms_spec (ws := wsX1_down) B.pre
  have hown : s.vm.findClass RX1 = some m.cls := findClass_of_methodNamed B.named
  have hlocks := B.notSynchronized
  have hP : va_P ((fun _ => 0), (fun _ _ => 0)) [] [] s.heap := fun k q h => by simp at h
  have hS : va_S (fun _ => False) s.heap s.heap [] := va_S.rf
  have hl := lv_entry ([.long aa, .long ba]) (n := 6) (Nat.le_of_ble_eq_true rfl)
  rw [lg_entry_eq]
  generalize (lg_sl ([.long aa, .long ba]) ++ List.replicate (6 - (lg_sl ([.long aa, .long ba])).length) Slot.unset).toArray = ls at hl ⊢
  have hl : lv_has ls 6 [(0, .long aa), (2, .long ba)] := hl
  refine lv_lload_n hx hb dX1_down_0 rfl (lv_at hl 0 rfl) ?_
  refine lv_lload_n hx hb dX1_down_1 rfl (lv_at hl 1 rfl) ?_
  refine lv_ldiv hx hb dX1_down_2 hb0 ?_
  refine lv_lstore (lv' := [(4, .long (aa / ba)), (0, .long aa), (2, .long ba)]) hx hb dX1_down_3 hl (by decide) rfl (fun ls hl => ?_)
  refine lv_lload hx hb dX1_down_5 (lv_at hl 0 rfl) ?_
  refine lv_lload_n hx hb dX1_down_7 rfl (lv_at hl 2 rfl) ?_
  refine lv_lmul hx hb dX1_down_8 ?_
  refine lv_lload_n hx hb dX1_down_9 rfl (lv_at hl 1 rfl) ?_
  refine W.lcmp hx hb dX1_down_10 ?_
  refine lv_if_le (tgt := 21) hx hb dX1_down_11 (by decide) (fun (c1 : (lg_cmp ((aa / ba) * ba) aa) ≤ 0) => ?_) (fun (c1 : ¬ (lg_cmp ((aa / ba) * ba) aa) ≤ 0) => ?_)
  · refine lv_lload hx hb dX1_down_21 (lv_at hl 0 rfl) ?_
    have e9 : S1_down aa ba = aa / ba := by rw [S1_down, if_pos c1]
    exact W.lret (v := aa / ba) hx hb hr (fun t ht hW => ⟨⟨aa / ba, (), rfl, e9.symm, trivial⟩, hS.F ht⟩) hS.2.2 dX1_down_23
  · refine lv_lload hx hb dX1_down_14 (lv_at hl 0 rfl) ?_
    refine lv_lconst (v := 1) hx hb dX1_down_16 (by decide) ?_
    refine lv_lsub hx hb dX1_down_17 ?_
    refine lv_goto (tgt := 23) hx hb dX1_down_18 (by decide) ?_
    have e9 : S1_down aa ba = (aa / ba) - 1 := by rw [S1_down, if_neg c1]
    exact W.lret (v := (aa / ba) - 1) hx hb hr (fun t ht hW => ⟨⟨(aa / ba) - 1, (), rfl, e9.symm, trivial⟩, hS.F ht⟩) hS.2.2 dX1_down_23
theorem ctX1_made_118 : Cond.constantLong RX1 118 (32) ∈ wsX1_made := by decide +kernel
theorem hdX1_made : yX1_made.cls ≠ "java/lang/invoke/MethodHandle" ∧ yX1_made.cls ≠ "java/lang/invoke/VarHandle" ∧ (parseMethodDescriptor yX1_made.desc).map (fun d => d.parameters.length) = some 4 := by decide +kernel
set_option maxHeartbeats 4000000 in
set_option maxRecDepth 100000 in
theorem c1_made (l : Launch) (ta : Int32) (sa : Int32) (aa : Int64) (ba : Int64)  : Pul l yX1_made wsX1_made 1 25 [.int ta, .int sa, .long aa, .long ba] (S1_made ta sa aa ba) := by
  refine Met.ofW (cc := cX1_made) (maxL := 6) (ret := (some .long)) (by decide) rfl ?_
  intro p e s m args below meth c s₁ B hml hv
  obtain ⟨rfl, -⟩ := hv
  have hx := B.exec
  have hb := B.bytes
  have hr := B.returns
  have hts := atoms_spec (ws := wsX1_made) B.pre
  have hown : s.vm.findClass RX1 = some m.cls := findClass_of_methodNamed B.named
  have hlocks := B.notSynchronized
  have hP : va_P ((fun _ => 0), (fun _ _ => 0)) [] [] s.heap := fun k q h => by simp at h
  have hS : va_S (fun _ => False) s.heap s.heap [] := va_S.rf
  have hl := lv_entry ([.int ta, .int sa, .long aa, .long ba]) (n := 6) (Nat.le_of_ble_eq_true rfl)
  rw [lg_entry_eq]
  generalize (lg_sl ([.int ta, .int sa, .long aa, .long ba]) ++ List.replicate (6 - (lg_sl ([.int ta, .int sa, .long aa, .long ba])).length) Slot.unset).toArray = ls at hl ⊢
  have hl : lv_has ls 6 [(0, .int ta), (1, .int sa), (2, .long aa), (4, .long ba)] := hl
  refine lv_iload_n hx hb dX1_made_0 rfl (lv_at hl 0 rfl) ?_
  by_cases c1 : ta = 0
  · refine lv_tableIn (tgt := 44) hx hb dX1_made_1 (by rw [c1]; decide) (by rw [c1]; decide) (by rw [c1]; rfl) (by decide) ?_
    refine lv_iload_n hx hb dX1_made_44 rfl (lv_at hl 1 rfl) ?_
    refine lv_bipush (v := 32) hx hb dX1_made_45 (by decide) ?_
    refine lv_icmp_ne (tgt := 57) hx hb dX1_made_47 (by decide) (fun (c2 : ¬ sa = 32) => ?_) (fun (c2 : sa = 32) => ?_)
    · refine lv_lload_n hx hb dX1_made_57 rfl (lv_at hl 2 rfl) ?_
      refine lv_lload hx hb dX1_made_58 (lv_at hl 3 rfl) ?_
      refine lv_ladd hx hb dX1_made_60 ?_
      have e9 : S1_made ta sa aa ba = aa + ba := by rw [S1_made, if_pos c1, if_neg c2]
      exact W.lret (v := aa + ba) hx hb hr (fun t ht hW => ⟨⟨aa + ba, (), rfl, e9.symm, trivial⟩, hS.F ht⟩) hS.2.2 dX1_made_61
    · refine lv_lload_n hx hb dX1_made_50 rfl (lv_at hl 2 rfl) ?_
      refine lv_lload hx hb dX1_made_51 (lv_at hl 3 rfl) ?_
      refine lv_lsub hx hb dX1_made_53 ?_
      refine lv_goto (tgt := 61) hx hb dX1_made_54 (by decide) ?_
      have e9 : S1_made ta sa aa ba = aa - ba := by rw [S1_made, if_pos c1, if_pos c2]
      exact W.lret (v := aa - ba) hx hb hr (fun t ht hW => ⟨⟨aa - ba, (), rfl, e9.symm, trivial⟩, hS.F ht⟩) hS.2.2 dX1_made_61
  · skip
    by_cases c3 : ta = 1
    · refine lv_tableIn (tgt := 62) hx hb dX1_made_1 (by rw [c3]; decide) (by rw [c3]; decide) (by rw [c3]; rfl) (by decide) ?_
      refine lv_lload_n hx hb dX1_made_62 rfl (lv_at hl 2 rfl) ?_
      refine lv_lload hx hb dX1_made_63 (lv_at hl 3 rfl) ?_
      refine lv_ldc2 hx hb hown (hts (.constantLong RX1 118 (32)) ctX1_made_118) dX1_made_65 ?_
      refine lv_lrem hx hb dX1_made_68 (by decide) ?_
      refine pu_l (v := S1_power (ba - ba / 32 * 32)) (As := [.long (ba - ba / 32 * 32)]) (rest := [.long aa]) ⟨hx, hb, hml, hown, hts⟩ (c1_power l (ba - ba / 32 * 32) ) gX1_made_X1_power rfl hdX1_power ⟨Nat.le_of_ble_eq_true rfl, Nat.le_of_ble_eq_true rfl⟩ hl.1 rfl (Nat.le_of_ble_eq_true rfl) dX1_made_69 ⟨Nat.zero_le _, Nat.zero_le _⟩ hP hS (fun H locs hP hS => ?_)
      refine lv_lmul hx hb dX1_made_72 ?_
      have e9 : S1_made ta sa aa ba = aa * (S1_power (ba - ba / 32 * 32)) := by rw [S1_made, if_neg c1, if_pos c3]
      exact W.lret (v := aa * (S1_power (ba - ba / 32 * 32))) hx hb hr (fun t ht hW => ⟨⟨aa * (S1_power (ba - ba / 32 * 32)), (), rfl, e9.symm, trivial⟩, hS.F ht⟩) hS.2.2 dX1_made_73
    · skip
      by_cases c4 : ta = 2
      · refine lv_tableIn (tgt := 74) hx hb dX1_made_1 (by rw [c4]; decide) (by rw [c4]; decide) (by rw [c4]; rfl) (by decide) ?_
        refine lv_lload_n hx hb dX1_made_74 rfl (lv_at hl 2 rfl) ?_
        refine pu_l (v := S1_signed aa) (As := [.long aa]) (rest := []) ⟨hx, hb, hml, hown, hts⟩ (c1_signed l aa ) gX1_made_X1_signed rfl hdX1_signed ⟨Nat.le_of_ble_eq_true rfl, Nat.le_of_ble_eq_true rfl⟩ hl.1 rfl (Nat.le_of_ble_eq_true rfl) dX1_made_75 ⟨Nat.zero_le _, Nat.zero_le _⟩ hP hS (fun H locs hP hS => ?_)
        refine lv_lload hx hb dX1_made_78 (lv_at hl 3 rfl) ?_
        refine pu_l (v := S1_signed ba) (As := [.long ba]) (rest := [.long (S1_signed aa)]) ⟨hx, hb, hml, hown, hts⟩ (c1_signed l ba ) gX1_made_X1_signed rfl hdX1_signed ⟨Nat.le_of_ble_eq_true rfl, Nat.le_of_ble_eq_true rfl⟩ hl.1 rfl (Nat.le_of_ble_eq_true rfl) dX1_made_80 ⟨Nat.zero_le _, Nat.zero_le _⟩ hP hS (fun H locs hP hS => ?_)
        refine W.lcmp hx hb dX1_made_83 ?_
        refine lv_if_ge (tgt := 91) hx hb dX1_made_84 (by decide) (fun (c5 : 0 ≤ (lg_cmp (S1_signed aa) (S1_signed ba))) => ?_) (fun (c5 : ¬ 0 ≤ (lg_cmp (S1_signed aa) (S1_signed ba))) => ?_)
        · refine lv_lconst (v := 0) hx hb dX1_made_91 (by decide) ?_
          have e9 : S1_made ta sa aa ba = (0 : Int64) := by rw [S1_made, if_neg c1, if_neg c3, if_pos c4, if_pos c5]
          exact W.lret (v := (0 : Int64)) hx hb hr (fun t ht hW => ⟨⟨(0 : Int64), (), rfl, e9.symm, trivial⟩, hS.F ht⟩) hS.2.2 dX1_made_92
        · refine lv_lconst (v := 1) hx hb dX1_made_87 (by decide) ?_
          refine lv_goto (tgt := 92) hx hb dX1_made_88 (by decide) ?_
          have e9 : S1_made ta sa aa ba = (1 : Int64) := by rw [S1_made, if_neg c1, if_neg c3, if_pos c4, if_neg c5]
          exact W.lret (v := (1 : Int64)) hx hb hr (fun t ht hW => ⟨⟨(1 : Int64), (), rfl, e9.symm, trivial⟩, hS.F ht⟩) hS.2.2 dX1_made_92
      · skip
        by_cases c6 : ta = 3
        · refine lv_tableIn (tgt := 93) hx hb dX1_made_1 (by rw [c6]; decide) (by rw [c6]; decide) (by rw [c6]; rfl) (by decide) ?_
          refine lv_lload_n hx hb dX1_made_93 rfl (lv_at hl 2 rfl) ?_
          refine lv_lload hx hb dX1_made_94 (lv_at hl 3 rfl) ?_
          refine W.lcmp hx hb dX1_made_96 ?_
          refine lv_if_ge (tgt := 104) hx hb dX1_made_97 (by decide) (fun (c7 : 0 ≤ (lg_cmp aa ba)) => ?_) (fun (c7 : ¬ 0 ≤ (lg_cmp aa ba)) => ?_)
          · refine lv_lconst (v := 0) hx hb dX1_made_104 (by decide) ?_
            have e9 : S1_made ta sa aa ba = (0 : Int64) := by rw [S1_made, if_neg c1, if_neg c3, if_neg c4, if_pos c6, if_pos c7]
            exact W.lret (v := (0 : Int64)) hx hb hr (fun t ht hW => ⟨⟨(0 : Int64), (), rfl, e9.symm, trivial⟩, hS.F ht⟩) hS.2.2 dX1_made_105
          · refine lv_lconst (v := 1) hx hb dX1_made_100 (by decide) ?_
            refine lv_goto (tgt := 105) hx hb dX1_made_101 (by decide) ?_
            have e9 : S1_made ta sa aa ba = (1 : Int64) := by rw [S1_made, if_neg c1, if_neg c3, if_neg c4, if_pos c6, if_neg c7]
            exact W.lret (v := (1 : Int64)) hx hb hr (fun t ht hW => ⟨⟨(1 : Int64), (), rfl, e9.symm, trivial⟩, hS.F ht⟩) hS.2.2 dX1_made_105
        · skip
          by_cases c8 : ta = 4
          · refine lv_tableIn (tgt := 106) hx hb dX1_made_1 (by rw [c8]; decide) (by rw [c8]; decide) (by rw [c8]; rfl) (by decide) ?_
            refine lv_lload_n hx hb dX1_made_106 rfl (lv_at hl 2 rfl) ?_
            refine lv_lload hx hb dX1_made_107 (lv_at hl 3 rfl) ?_
            refine lv_lxor hx hb dX1_made_109 ?_
            have e9 : S1_made ta sa aa ba = aa ^^^ ba := by rw [S1_made, if_neg c1, if_neg c3, if_neg c4, if_neg c6, if_pos c8]
            exact W.lret (v := aa ^^^ ba) hx hb hr (fun t ht hW => ⟨⟨aa ^^^ ba, (), rfl, e9.symm, trivial⟩, hS.F ht⟩) hS.2.2 dX1_made_110
          · skip
            by_cases c9 : ta = 5
            · refine lv_tableIn (tgt := 111) hx hb dX1_made_1 (by rw [c9]; decide) (by rw [c9]; decide) (by rw [c9]; rfl) (by decide) ?_
              refine lv_iload_n hx hb dX1_made_111 rfl (lv_at hl 1 rfl) ?_
              refine lv_if_ne (tgt := 129) hx hb dX1_made_112 (by decide) (fun (c10 : ¬ sa = 0) => ?_) (fun (c10 : sa = 0) => ?_)
              · refine lv_lload_n hx hb dX1_made_129 rfl (lv_at hl 2 rfl) ?_
                refine pu_l (v := S1_signed aa) (As := [.long aa]) (rest := []) ⟨hx, hb, hml, hown, hts⟩ (c1_signed l aa ) gX1_made_X1_signed rfl hdX1_signed ⟨Nat.le_of_ble_eq_true rfl, Nat.le_of_ble_eq_true rfl⟩ hl.1 rfl (Nat.le_of_ble_eq_true rfl) dX1_made_130 ⟨Nat.zero_le _, Nat.zero_le _⟩ hP hS (fun H locs hP hS => ?_)
                refine lv_lload hx hb dX1_made_133 (lv_at hl 3 rfl) ?_
                refine lv_ldc2 hx hb hown (hts (.constantLong RX1 118 (32)) ctX1_made_118) dX1_made_135 ?_
                refine lv_lrem hx hb dX1_made_138 (by decide) ?_
                refine pu_l (v := S1_power (ba - ba / 32 * 32)) (As := [.long (ba - ba / 32 * 32)]) (rest := [.long (S1_signed aa)]) ⟨hx, hb, hml, hown, hts⟩ (c1_power l (ba - ba / 32 * 32) ) gX1_made_X1_power rfl hdX1_power ⟨Nat.le_of_ble_eq_true rfl, Nat.le_of_ble_eq_true rfl⟩ hl.1 rfl (Nat.le_of_ble_eq_true rfl) dX1_made_139 ⟨Nat.zero_le _, Nat.zero_le _⟩ hP hS (fun H locs hP hS => ?_)
                refine pu_l (v := S1_down (S1_signed aa) (S1_power (ba - ba / 32 * 32))) (As := [.long (S1_signed aa), .long (S1_power (ba - ba / 32 * 32))]) (rest := []) ⟨hx, hb, hml, hown, hts⟩ (c1_down l (S1_signed aa) (S1_power (ba - ba / 32 * 32)) (pw_ne _)) gX1_made_X1_down rfl hdX1_down ⟨Nat.le_of_ble_eq_true rfl, Nat.le_of_ble_eq_true rfl⟩ hl.1 rfl (Nat.le_of_ble_eq_true rfl) dX1_made_142 ⟨Nat.zero_le _, Nat.zero_le _⟩ hP hS (fun H locs hP hS => ?_)
                have e9 : S1_made ta sa aa ba = S1_down (S1_signed aa) (S1_power (ba - ba / 32 * 32)) := by rw [S1_made, if_neg c1, if_neg c3, if_neg c4, if_neg c6, if_neg c8, if_pos c9, if_neg c10]
                exact W.lret (v := S1_down (S1_signed aa) (S1_power (ba - ba / 32 * 32))) hx hb hr (fun t ht hW => ⟨⟨S1_down (S1_signed aa) (S1_power (ba - ba / 32 * 32)), (), rfl, e9.symm, trivial⟩, hS.F ht⟩) hS.2.2 dX1_made_145
              · refine lv_lload_n hx hb dX1_made_115 rfl (lv_at hl 2 rfl) ?_
                refine lv_lload hx hb dX1_made_116 (lv_at hl 3 rfl) ?_
                refine lv_ldc2 hx hb hown (hts (.constantLong RX1 118 (32)) ctX1_made_118) dX1_made_118 ?_
                refine lv_lrem hx hb dX1_made_121 (by decide) ?_
                refine pu_l (v := S1_power (ba - ba / 32 * 32)) (As := [.long (ba - ba / 32 * 32)]) (rest := [.long aa]) ⟨hx, hb, hml, hown, hts⟩ (c1_power l (ba - ba / 32 * 32) ) gX1_made_X1_power rfl hdX1_power ⟨Nat.le_of_ble_eq_true rfl, Nat.le_of_ble_eq_true rfl⟩ hl.1 rfl (Nat.le_of_ble_eq_true rfl) dX1_made_122 ⟨Nat.zero_le _, Nat.zero_le _⟩ hP hS (fun H locs hP hS => ?_)
                refine lv_ldiv hx hb dX1_made_125 (pw_ne _) ?_
                refine lv_goto (tgt := 145) hx hb dX1_made_126 (by decide) ?_
                have e9 : S1_made ta sa aa ba = aa / (S1_power (ba - ba / 32 * 32)) := by rw [S1_made, if_neg c1, if_neg c3, if_neg c4, if_neg c6, if_neg c8, if_pos c9, if_pos c10]
                exact W.lret (v := aa / (S1_power (ba - ba / 32 * 32))) hx hb hr (fun t ht hW => ⟨⟨aa / (S1_power (ba - ba / 32 * 32)), (), rfl, e9.symm, trivial⟩, hS.F ht⟩) hS.2.2 dX1_made_145
            · skip
              by_cases c11 : ta = 6
              · refine lv_tableIn (tgt := 146) hx hb dX1_made_1 (by rw [c11]; decide) (by rw [c11]; decide) (by rw [c11]; rfl) (by decide) ?_
                refine lv_lload_n hx hb dX1_made_146 rfl (lv_at hl 2 rfl) ?_
                refine lv_lload hx hb dX1_made_147 (lv_at hl 3 rfl) ?_
                refine lv_lor hx hb dX1_made_149 ?_
                have e9 : S1_made ta sa aa ba = aa ||| ba := by rw [S1_made, if_neg c1, if_neg c3, if_neg c4, if_neg c6, if_neg c8, if_neg c9, if_pos c11]
                exact W.lret (v := aa ||| ba) hx hb hr (fun t ht hW => ⟨⟨aa ||| ba, (), rfl, e9.symm, trivial⟩, hS.F ht⟩) hS.2.2 dX1_made_150
              · skip
                refine lv_tableOut (tgt := 151) hx hb dX1_made_1 (by have nc1 := lv_neT c1 (show (0 : Int32).toInt = 0 from by decide); have nc3 := lv_neT c3 (show (1 : Int32).toInt = 1 from by decide); have nc4 := lv_neT c4 (show (2 : Int32).toInt = 2 from by decide); have nc6 := lv_neT c6 (show (3 : Int32).toInt = 3 from by decide); have nc8 := lv_neT c8 (show (4 : Int32).toInt = 4 from by decide); have nc9 := lv_neT c9 (show (5 : Int32).toInt = 5 from by decide); have nc11 := lv_neT c11 (show (6 : Int32).toInt = 6 from by decide); omega) (by decide) ?_
                refine lv_lload_n hx hb dX1_made_151 rfl (lv_at hl 2 rfl) ?_
                refine lv_lload hx hb dX1_made_152 (lv_at hl 3 rfl) ?_
                refine lv_land hx hb dX1_made_154 ?_
                have e9 : S1_made ta sa aa ba = aa &&& ba := by rw [S1_made, if_neg c1, if_neg c3, if_neg c4, if_neg c6, if_neg c8, if_neg c9, if_neg c11]
                exact W.lret (v := aa &&& ba) hx hb hr (fun t ht hW => ⟨⟨aa &&& ba, (), rfl, e9.symm, trivial⟩, hS.F ht⟩) hS.2.2 dX1_made_155
