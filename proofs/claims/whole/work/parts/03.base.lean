/-! The two states as values, their worlds, and a row a call. -/
/-- WordMachine: code, registers, memory, wordCount, pc, stepsDone -/
abbrev WS : Type := (Nat → Int32) × (Nat → Int32) × (Nat → Int32) × Int32 × Int32 × Int32
/-- the reference: code, words, pc, steps, registers, memory, d, t, s, immediate, x, y -/
abbrev MS : Type := (Nat → Int32) × Int32 × Int32 × Int32 × (Nat → Int64) × (Nat → Int32) × Int32 × Int32 × Int32 × Int32 × Int64 × Int64
abbrev wa0 (h q1 q2 q3 : Nat) : Nat → Prop := fun q => q = h ∨ q = q1 ∨ q = q2 ∨ q = q3
abbrev ww0 (cI : ClassId) (h q1 q2 q3 : Nat) (u : WS) : va_W := [(h, .inr (0, [.ref q1, .ref q2, .ref q3, .int u.2.2.2.1, .int u.2.2.2.2.1, .int u.2.2.2.2.2])), (q1, .inl (cI, 1024, .inl u.1)), (q2, .inl (cI, 32, .inl u.2.1)), (q3, .inl (cI, 1024, .inl u.2.2.1))]
abbrev ww1 (cI cJ cB : ClassId) (h q1 q2 q3 : Nat) (v : MS) : va_W := [(h, .inr (1, [.ref q1, .int v.2.1, .int v.2.2.1, .int v.2.2.2.1, .ref q2, .ref q3, .int v.2.2.2.2.2.2.1, .int v.2.2.2.2.2.2.2.1, .int v.2.2.2.2.2.2.2.2.1, .int v.2.2.2.2.2.2.2.2.2.1, .long v.2.2.2.2.2.2.2.2.2.2.1, .long v.2.2.2.2.2.2.2.2.2.2.2])), (q1, .inl (cI, 1024, .inl v.1)), (q2, .inl (cJ, 32, .inr (.inl v.2.2.2.2.1))), (q3, .inl (cB, 4096, .inl v.2.2.2.2.2.1))]
abbrev ty0 (cI : ClassId) : List (ClassId × FieldType) := [(cI, .int)]
abbrev ty1 (cI cJ cB : ClassId) : List (ClassId × FieldType) := [(cI, .int), (cJ, .long), (cB, .byte)]
/-- the four addresses are apart -/
def ap4 (h q1 q2 q3 : Nat) : Prop := h ≠ q1 ∧ h ≠ q2 ∧ h ≠ q3 ∧ q1 ≠ q2 ∧ q1 ≠ q3 ∧ q2 ≠ q3
theorem ap4_D {h q1 q2 q3 : Nat} {e0 e1 e2 e3 : va_E} (a : ap4 h q1 q2 q3) : va_D (wa0 h q1 q2 q3) [(h, e0), (q1, e1), (q2, e2), (q3, e3)] := by
  obtain ⟨a1, a2, a3, a4, a5, a6⟩ := a
  have ne : ∀ {x y : Nat}, x ≠ y → y ≠ x := fun h e => h e.symm
  refine ⟨fun i j p q hi hj hpq => ?_, fun k q hk => ?_⟩
  · match i, j with
    | 0, 0 => rfl
    | 0, 1 => cases hi; cases hj; exact absurd hpq a1
    | 0, 2 => cases hi; cases hj; exact absurd hpq a2
    | 0, 3 => cases hi; cases hj; exact absurd hpq a3
    | 1, 0 => cases hi; cases hj; exact absurd hpq (ne a1)
    | 1, 1 => rfl
    | 1, 2 => cases hi; cases hj; exact absurd hpq a4
    | 1, 3 => cases hi; cases hj; exact absurd hpq a5
    | 2, 0 => cases hi; cases hj; exact absurd hpq (ne a2)
    | 2, 1 => cases hi; cases hj; exact absurd hpq (ne a4)
    | 2, 2 => rfl
    | 2, 3 => cases hi; cases hj; exact absurd hpq a6
    | 3, 0 => cases hi; cases hj; exact absurd hpq (ne a3)
    | 3, 1 => cases hi; cases hj; exact absurd hpq (ne a5)
    | 3, 2 => cases hi; cases hj; exact absurd hpq (ne a6)
    | 3, 3 => rfl
    | i + 4, _ => exact absurd hi (by simp)
    | 0, j + 4 => exact absurd hj (by simp)
    | 1, j + 4 => exact absurd hj (by simp)
    | 2, j + 4 => exact absurd hj (by simp)
    | 3, j + 4 => exact absurd hj (by simp)
  · match k with
    | 0 => cases hk; exact Or.inl rfl
    | 1 => cases hk; exact Or.inr (Or.inl rfl)
    | 2 => cases hk; exact Or.inr (Or.inr (Or.inl rfl))
    | 3 => cases hk; exact Or.inr (Or.inr (Or.inr rfl))
    | k + 4 => exact absurd hk (by simp)
/-- what a pure static method promises -/
abbrev Pui (l : Launch) (y : MethodName) (ws : List Cond) (fr lo : Nat) (As : List Value) (v : Int32) : Prop := Met l y ws ({ frames := fr, cells := 0, slots := 0, locals := lo }) (va_Pc As (fun _ => True)) (va_Qi (fun (r : Int32) (_ : Unit) => r = v) (fun _ _ => True) (fun _ => False)) 0 0 (fun _ => False)
abbrev Pul (l : Launch) (y : MethodName) (ws : List Cond) (fr lo : Nat) (As : List Value) (v : Int64) : Prop := Met l y ws ({ frames := fr, cells := 0, slots := 0, locals := lo }) (va_Pc As (fun _ => True)) (va_Ql (fun (r : Int64) (_ : Unit) => r = v) (fun _ _ => True) (fun _ => False)) 0 0 (fun _ => False)
/-- what a method of an object promises: its world before, its world behind, its answer -/
abbrev Wpre (D : va_G) (tys : List (ClassId × FieldType)) (w : va_W) (U : State) : Prop := va_P D vwCl w U.heap ∧ va_K D vwCl tys U
abbrev Ini (l : Launch) (y : MethodName) (ws : List Cond) (fr lo : Nat) (D : va_G) (tys : List (ClassId × FieldType)) (A : Nat → Prop) (As : List Value) (w w1 : va_W) (v : Int32) : Prop := Met l y ws ({ frames := fr, cells := 0, slots := 0, locals := lo }) (va_Pc As (Wpre D tys w)) (va_Qi (fun (r : Int32) (_ : Unit) => r = v) (fun _ t => va_P D vwCl w1 t.heap) A) 0 0 A
abbrev Inl (l : Launch) (y : MethodName) (ws : List Cond) (fr lo : Nat) (D : va_G) (tys : List (ClassId × FieldType)) (A : Nat → Prop) (As : List Value) (w w1 : va_W) (v : Int64) : Prop := Met l y ws ({ frames := fr, cells := 0, slots := 0, locals := lo }) (va_Pc As (Wpre D tys w)) (va_Ql (fun (r : Int64) (_ : Unit) => r = v) (fun _ t => va_P D vwCl w1 t.heap) A) 0 0 A
abbrev Inv (l : Launch) (y : MethodName) (ws : List Cond) (fr lo : Nat) (D : va_G) (tys : List (ClassId × FieldType)) (A : Nat → Prop) (As : List Value) (w w1 : va_W) : Prop := Met l y ws ({ frames := fr, cells := 0, slots := 0, locals := lo }) (va_Pc As (Wpre D tys w)) (va_Qv (fun (_ : Unit) => True) (fun _ t => va_P D vwCl w1 t.heap) A) 0 0 A
theorem Wpre_blind {D : va_G} {tys : List (ClassId × FieldType)} {w : va_W} {As : List Value} : FrameBlind (va_Pc As (Wpre D tys w)) := fun a U g mk q => ⟨q.1, q.2.1, va_K.moved (u := U) (U := U.calling g mk a) (Vm.Alike.refl U.vm) q.2.2⟩
section CALLS
variable {p : Program} {l : Launch} {e : Env} {R : Room} {s : State} {m : MethodId} {args : Array Value} {below : List Frame} {meth : Method} {c : Code} {H : Heap} {locs : List Loc} {cells slots : Nat} {Q : State → Prop}
variable {cc : ByteArray} {nL : Nat} {Ts : List Cond} {own : String} {pc : Nat} {ls : Array Slot} {rest st0 : List Value} {D D2 : va_G} {cl : List vw_C} {A A1 : Nat → Prop} {H0 : Heap} {w0 w w1 : va_W} {tys : List (ClassId × FieldType)}
variable {y : MethodName} {bytes : ByteArray} {maxL fr lo index n : Nat} {ret : Option FieldType} {ws ws' : List Cond} {As : List Value}
/-- a call of a pure static method with an int for an answer: the world stays -/
theorem pu_i {v : Int32} (S : CallFix p m c cc nL s args Ts own) (hM : Pui l y ws fr lo As v) (hT : GoodIn Ts (va_wsS own index y ws)) (hw : ws = Cond.code y bytes maxL ret :: ws') (hd : y.cls ≠ "java/lang/invoke/MethodHandle" ∧ y.cls ≠ "java/lang/invoke/VarHandle" ∧ (parseMethodDescriptor y.desc).map (fun d => d.parameters.length) = some As.length) (hR : fr + 1 ≤ R.frames ∧ 8 + (maxL + 11) + lo ≤ R.locals)
    (hsz : ls.size = nL) (hst : st0 = As.reverse ++ rest) (hrm : (rest.map fun v => v.category).sum ≤ 8) (hdg : decode cc pc = .ok (.invokestatic index, 3)) (hf : cells ≤ R.cells ∧ slots ≤ R.slots) (hP : va_P D cl w0 H) (hS : va_S A H0 H locs)
    (k : ∀ (H1 : Heap) (locs1 : List Loc), va_P D cl w0 H1 → va_S A H0 H1 locs1 → W p l e R s m args below meth c H1 locs1 cells slots Q (F0 m (pc + 3) ls (.int v :: rest))) : W p l e R s m args below meth c H locs cells slots Q (F0 m pc ls st0) := by
  subst hst
  refine va_calli (va_runS S hM (va_cwS As.length S.2.2.2.2 hT hw rfl rfl hd hR) ⟨fun a U g mk q => q, fun U hU hW => ⟨rfl, trivial⟩⟩ rfl rfl hsz rfl (lv_room hrm) hdg hf) hS (fun q _ h => h.elim) (fun q h => h.elim) (fun r u t H1 locs1 ht hvm hpost hB hz1 hk1 hS1 => ?_)
  subst hpost
  exact k H1 locs1 (hP.kept (fun k q hq => hk1 q.1 ((hP k q hq).lt) (fun h => h))) hS1
theorem pu_l {v : Int64} (S : CallFix p m c cc nL s args Ts own) (hM : Pul l y ws fr lo As v) (hT : GoodIn Ts (va_wsS own index y ws)) (hw : ws = Cond.code y bytes maxL ret :: ws') (hd : y.cls ≠ "java/lang/invoke/MethodHandle" ∧ y.cls ≠ "java/lang/invoke/VarHandle" ∧ (parseMethodDescriptor y.desc).map (fun d => d.parameters.length) = some As.length) (hR : fr + 1 ≤ R.frames ∧ 8 + (maxL + 11) + lo ≤ R.locals)
    (hsz : ls.size = nL) (hst : st0 = As.reverse ++ rest) (hrm : (rest.map fun v => v.category).sum ≤ 8) (hdg : decode cc pc = .ok (.invokestatic index, 3)) (hf : cells ≤ R.cells ∧ slots ≤ R.slots) (hP : va_P D cl w0 H) (hS : va_S A H0 H locs)
    (k : ∀ (H1 : Heap) (locs1 : List Loc), va_P D cl w0 H1 → va_S A H0 H1 locs1 → W p l e R s m args below meth c H1 locs1 cells slots Q (F0 m (pc + 3) ls (.long v :: rest))) : W p l e R s m args below meth c H locs cells slots Q (F0 m pc ls st0) := by
  subst hst
  refine va_calll (va_runS S hM (va_cwS As.length S.2.2.2.2 hT hw rfl rfl hd hR) ⟨fun a U g mk q => q, fun U hU hW => ⟨rfl, trivial⟩⟩ rfl rfl hsz rfl (lv_room hrm) hdg hf) hS (fun q _ h => h.elim) (fun q h => h.elim) (fun r u t H1 locs1 ht hvm hpost hB hz1 hk1 hS1 => ?_)
  subst hpost
  exact k H1 locs1 (hP.kept (fun k q hq => hk1 q.1 ((hP k q hq).lt) (fun h => h))) hS1
variable {C : String} {b ci q0 : Nat} {T0 : u_T} {N0 : Nat} {fs : List Value}
/-- a call of a method of the object at b, whose world is w: it becomes w1, and cells outside A1 stay -/
theorem in_i {v : Int32} (S : CallFix p m c cc nL s args Ts own) (hM : Ini l y ws fr lo D tys A1 (.ref b :: As) w w1 v) (hT : GoodIn Ts (wsV own index C y ws)) (hw : ws = Cond.code y bytes maxL ret :: ws') (hd : y.cls = C ∧ y.cls ≠ "java/lang/invoke/MethodHandle" ∧ y.cls ≠ "java/lang/invoke/VarHandle" ∧ (parseMethodDescriptor y.desc).map (fun d => d.parameters.length) = some As.length) (hR : fr + 1 ≤ R.frames ∧ 8 + (maxL + 11) + lo ≤ R.locals)
    (hK : va_K D vwCl tys s) (hc : vwCl[ci]? = some (C, T0, N0)) (he : w[0]? = some (b, .inr (ci, fs)))
    (hsz : ls.size = nL) (hst : st0 = As.reverse ++ .ref b :: rest) (hrm : (rest.map fun v => v.category).sum ≤ 8) (hdg : decode cc pc = .ok (.invokevirtual index, 3)) (hf : cells ≤ R.cells ∧ slots ≤ R.slots) (hP : va_P D vwCl w H) (hS : va_S A H0 H locs) (hA : ∀ q, A1 q → A q)
    (k : ∀ (H1 : Heap) (locs1 : List Loc), va_P D vwCl w1 H1 → va_S A H0 H1 locs1 → H.size ≤ H1.size → (∀ q : Nat, q < H.size → ¬ A1 q → H1[q]? = H[q]?) → W p l e R s m args below meth c H1 locs1 cells slots Q (F0 m (pc + 3) ls (.int v :: rest))) : W p l e R s m args below meth c H locs cells slots Q (F0 m pc ls st0) := by
  subst hst
  refine va_calli (va_runV S hM (cwV As.length S.2.2.2.2 hT hw rfl rfl hd hR) ⟨Wpre_blind, va_recv hK hP hc he, fun U hU hW => ⟨rfl, by rw [hU]; exact hP, va_K.moved hW.alike hK⟩⟩ rfl rfl hsz rfl (lv_room hrm) hdg hf) hS (fun q _ h => hA q h) hA (fun r u t H1 locs1 ht hvm hpost hB hz1 hk1 hS1 => ?_)
  subst hpost
  rw [ht] at hB
  exact k H1 locs1 hB hS1 hz1 hk1
theorem in_l {v : Int64} (S : CallFix p m c cc nL s args Ts own) (hM : Inl l y ws fr lo D tys A1 (.ref b :: As) w w1 v) (hT : GoodIn Ts (wsV own index C y ws)) (hw : ws = Cond.code y bytes maxL ret :: ws') (hd : y.cls = C ∧ y.cls ≠ "java/lang/invoke/MethodHandle" ∧ y.cls ≠ "java/lang/invoke/VarHandle" ∧ (parseMethodDescriptor y.desc).map (fun d => d.parameters.length) = some As.length) (hR : fr + 1 ≤ R.frames ∧ 8 + (maxL + 11) + lo ≤ R.locals)
    (hK : va_K D vwCl tys s) (hc : vwCl[ci]? = some (C, T0, N0)) (he : w[0]? = some (b, .inr (ci, fs)))
    (hsz : ls.size = nL) (hst : st0 = As.reverse ++ .ref b :: rest) (hrm : (rest.map fun v => v.category).sum ≤ 8) (hdg : decode cc pc = .ok (.invokevirtual index, 3)) (hf : cells ≤ R.cells ∧ slots ≤ R.slots) (hP : va_P D vwCl w H) (hS : va_S A H0 H locs) (hA : ∀ q, A1 q → A q)
    (k : ∀ (H1 : Heap) (locs1 : List Loc), va_P D vwCl w1 H1 → va_S A H0 H1 locs1 → H.size ≤ H1.size → (∀ q : Nat, q < H.size → ¬ A1 q → H1[q]? = H[q]?) → W p l e R s m args below meth c H1 locs1 cells slots Q (F0 m (pc + 3) ls (.long v :: rest))) : W p l e R s m args below meth c H locs cells slots Q (F0 m pc ls st0) := by
  subst hst
  refine va_calll (va_runV S hM (cwV As.length S.2.2.2.2 hT hw rfl rfl hd hR) ⟨Wpre_blind, va_recv hK hP hc he, fun U hU hW => ⟨rfl, by rw [hU]; exact hP, va_K.moved hW.alike hK⟩⟩ rfl rfl hsz rfl (lv_room hrm) hdg hf) hS (fun q _ h => hA q h) hA (fun r u t H1 locs1 ht hvm hpost hB hz1 hk1 hS1 => ?_)
  subst hpost
  rw [ht] at hB
  exact k H1 locs1 hB hS1 hz1 hk1
theorem in_v (S : CallFix p m c cc nL s args Ts own) (hM : Inv l y ws fr lo D tys A1 (.ref b :: As) w w1) (hT : GoodIn Ts (wsV own index C y ws)) (hw : ws = Cond.code y bytes maxL ret :: ws') (hd : y.cls = C ∧ y.cls ≠ "java/lang/invoke/MethodHandle" ∧ y.cls ≠ "java/lang/invoke/VarHandle" ∧ (parseMethodDescriptor y.desc).map (fun d => d.parameters.length) = some As.length) (hR : fr + 1 ≤ R.frames ∧ 8 + (maxL + 11) + lo ≤ R.locals)
    (hK : va_K D vwCl tys s) (hc : vwCl[ci]? = some (C, T0, N0)) (he : w[0]? = some (b, .inr (ci, fs)))
    (hsz : ls.size = nL) (hst : st0 = As.reverse ++ .ref b :: rest) (hrm : (rest.map fun v => v.category).sum ≤ 8) (hdg : decode cc pc = .ok (.invokevirtual index, 3)) (hf : cells ≤ R.cells ∧ slots ≤ R.slots) (hP : va_P D vwCl w H) (hS : va_S A H0 H locs) (hA : ∀ q, A1 q → A q)
    (k : ∀ (H1 : Heap) (locs1 : List Loc), va_P D vwCl w1 H1 → va_S A H0 H1 locs1 → H.size ≤ H1.size → (∀ q : Nat, q < H.size → ¬ A1 q → H1[q]? = H[q]?) → W p l e R s m args below meth c H1 locs1 cells slots Q (F0 m (pc + 3) ls rest)) : W p l e R s m args below meth c H locs cells slots Q (F0 m pc ls st0) := by
  subst hst
  refine va_callv (va_runV S hM (cwV As.length S.2.2.2.2 hT hw rfl rfl hd hR) ⟨Wpre_blind, va_recv hK hP hc he, fun U hU hW => ⟨rfl, by rw [hU]; exact hP, va_K.moved hW.alike hK⟩⟩ rfl rfl hsz rfl (lv_room hrm) hdg hf) hS (fun q _ h => hA q h) hA (fun u t H1 locs1 ht hvm hpost hB hz1 hk1 hS1 => ?_)
  rw [ht] at hB
  exact k H1 locs1 hB hS1 hz1 hk1
end CALLS
