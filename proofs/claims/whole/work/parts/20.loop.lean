/-! THE CLAIM OUT OF ONE WALK OF THE LAW'S BODY. Your part is whole_start (and what it stands on); all else here is the same for every law, but numbers. -/
def R_law : String := "WordMachineLaw"
def lw_P (b : Addr) (xs : List Int32) (args : Array Value) (s : State) : Prop := args = #[.ref b] ∧ s.IntsAt b xs ∧ xs.length ≤ 1536 ∧ (Jvm.Cond.and given_1 narrow_1).before args s = true
def lw_Q (_ : Array Value) (s : State) (o : Outcome) (t : State) : Prop := o = .returned (some (.int 1)) ∧ Framed s o t [] 8 7250
def lw_Z (below : List Frame) (a : Array Value) (s : State) : State → Prop := fun t => ∃ o, t.status = .running ∧ Ended t below o ∧ lw_Q a s o t
/-- the law's own end, with 1 on the stack, nothing written that was there before, its room as the claim has it -/
theorem lw_ret {p : Program} {l : Launch} {e : Env} {s : State} {m : MethodId} {below : List Frame} {meth : Method} {c : Code} {b : Nat} (hx : p.tables.exec = Jvm.exec) (hb : c.code = code) (hr : meth.sig.returnType = ret) (hlocks : meth.locks = false) {pc : Nat} {H : Heap} {ls : Array Slot} (hdg : decode code pc = .ok (.ireturn, 1)) : W p l e room_1 s m #[Value.ref b] below meth c H [] 8 7250 (lw_Z below #[Value.ref b] s) (F0 m pc ls [.int 1]) := by
  intro T hT X
  obtain ⟨fs, hret, hrun, hended, hW, hframe⟩ := X.leave (v := some (.int 1)) (hlocks := hlocks) (fun h => by rw [hr] at h; cases h)
  have hmeth' : T.vm.method? m = some meth := X.method'
  refine ⟨T.setFrames fs, ?_, .returned (some (.int 1)), hrun, hended, rfl, ⟨_, rfl⟩, hW, hframe⟩
  jvm_step X.here [X.here.top, hx, hb, hdg, hmeth', hr, ret, narrow_b1]
  (try refine ⟨rfl, ?_⟩); (try refine ⟨rfl, ?_⟩)
  first | (intro acts; rw [hret _ acts rfl rfl rfl]) | rw [hret _ _ rfl rfl rfl]
  exact Steps.refl _
/-- what holds at the law's entry: the machine, the code, the tables' words (any of lw_tbl by 'hts w (by decide +kernel)'), the script of L ints xs at the cell b, what the Statement gives of the start (any of its parts by flat_of_before) -/
def lw_At (p : Program) (s : State) (m : MethodId) (meth : Method) (c : Code) (b L : Nat) (xs : Nat → Int32) : Prop :=
  p.tables.exec = Jvm.exec ∧ c.code = code ∧ meth.sig.returnType = ret ∧ c.maxLocals = 4 ∧ s.vm.findClass R_law = some m.cls ∧ (∀ w ∈ lw_tbl, w.before #[Value.ref b] s = true) ∧ va_X b L xs s s.heap ∧ b < s.heap.size ∧ meth.locks = false ∧ (Jvm.Cond.and given_1 narrow_1).before #[Value.ref b] s = true
theorem lw_more {i L : Nat} (hL : L < 2 ^ 30 ∧ i < 2 ^ 30) (h : ¬ Int32.ofNat L - 3 < nI i) : i + 3 ≤ L := by
  have e : (nI L - nI 3).toInt = (L : Int) - 3 := pk_sub_toInt (by omega) (by omega)
  have h' : ¬ nI L - nI 3 < nI i := h
  rw [Int32.lt_iff_toInt_lt, e, nI_toInt (by omega)] at h'
  omega
set_option maxHeartbeats 4000000 in
set_option maxRecDepth 100000 in
theorem law_loop {p : Program} {l : Launch} {e : Env} {s : State} {m : MethodId} {below : List Frame} {meth : Method} {c : Code} {D : va_G} {b L : Nat} {xs : Nat → Int32} (hL : L ≤ 1536) (C0 : lw_At p s m meth c b L xs) {cI cI' cJ cB : ClassId} {h q1 q2 q3 g r1 r2 r3 : Nat} (hK0 : va_K D vwCl (ty0 cI) s) (hK1 : va_K D vwCl (ty1 cI' cJ cB) s) (ap0 : ap4 h q1 q2 q3) (ap1 : ap4 g r1 r2 r3) (ge0 : ∀ q : Nat, wa0 h q1 q2 q3 q → s.heap.size ≤ q) (ge1 : ∀ q : Nat, wa0 g r1 r2 r3 q → s.heap.size ≤ q) (dis : ∀ q : Nat, wa0 h q1 q2 q3 q → wa0 g r1 r2 r3 q → False) :
    ∀ (n i : Nat), i ≤ L → L + 1 ≤ i + n → ∀ (u : WS) (v : MS), Sim u v → ∀ (H : Heap) (locs : List Loc), va_P D vwCl (ww0 cI h q1 q2 q3 u) H → va_P D vwCl (ww1 cI' cJ cB g r1 r2 r3 v) H → va_S (fun q : Nat => s.heap.size ≤ q) s.heap H locs → ∀ ls : Array Slot, lv_has ls 4 [(0, .ref b), (1, .ref h), (2, .ref g), (3, .int (nI i))] → W p l e room_1 s m #[Value.ref b] below meth c H locs 8 7250 (lw_Z below #[Value.ref b] s) (F0 m 18 ls []) := by
  obtain ⟨hx, hb, hr, hml, hown0, hts0, hX, hbl, hlocks, hgv⟩ := C0
  have hb : c.code = cL_law := hb
  have hown : s.vm.findClass RL = some m.cls := hown0
  have hts : ∀ w ∈ wsL_law, w.before #[Value.ref b] s = true := fun w h => hts0 w (wsL_law_in w h)
  have hbA : ¬ (fun q : Nat => s.heap.size ≤ q) b := Nat.not_le.mpr hbl
  have hf8 : 8 ≤ room_1.cells ∧ 7250 ≤ room_1.slots := by decide
  intro n
  induction n with
  | zero =>
    intro i h1 h2
    exact absurd h2 (by omega)
  | succ n ih =>
    intro i hi hin u v hs H locs hP0 hP1 hS ls hl
    refine lv_iload_n hx hb dL_law_18 rfl (lv_at hl 3 rfl) ?_
    refine lv_aload_n hx hb dL_law_19 rfl (lv_at hl 0 rfl) ?_
    refine va_slen hx hb hX hbl hbA hS dL_law_20 ?_
    refine lv_iconst (v := 3) hx hb dL_law_21 (by decide) ?_
    refine lv_isub hx hb dL_law_22 ?_
    refine lv_icmp_gt (tgt := 297) hx hb dL_law_23 (by decide) (fun _ => ?_) (fun c0 => ?_)
    · refine lv_iconst (v := 1) hx hb dL_law_297 (by decide) ?_
      refine va_forget (fun q hq => hS.2.2 q hq) ?_
      exact lw_ret hx hb hr hlocks dL_law_298
    have hlt : i + 3 ≤ L := lw_more (by omega) c0
    have in0 : vp_in (nI i) L := vp_in_nI (by omega) (by omega)
    have in1 : vp_in (nI i + 1) L := by rw [nI_1]; exact vp_in_nI (by omega) (by omega)
    have in2 : vp_in (nI i + 2) L := by rw [show nI i + 2 = nI (i + 2) from nI_add i 2]; exact vp_in_nI (by omega) (by omega)
    have hs1 : 0 ≤ M_wc v := by rw [hs.2.1]; exact hs.2.2.1
    have hs2 : M_wc v ≤ 1024 := by rw [hs.2.1]; exact hs.2.2.2.1
    have hs3 : W_wc u ≤ 1024 := hs.2.2.2.1
    have hs4 : M_wc v ≤ 1024 := hs2
    have hs5 : RG v := Sim_RG hs
    have J : ∀ (u : WS) (v : MS), Sim u v → ∀ (H : Heap) (locs : List Loc), va_P D vwCl (ww0 cI h q1 q2 q3 u) H → va_P D vwCl (ww1 cI' cJ cB g r1 r2 r3 v) H → va_S (fun q : Nat => s.heap.size ≤ q) s.heap H locs → W p l e room_1 s m #[Value.ref b] below meth c H locs 8 7250 (lw_Z below #[Value.ref b] s) (F0 m 291 ls []) := by
      intro u v hs H locs hP0 hP1 hS
      refine lv_iinc (v := nI (i + 3)) (lv' := [(3, .int (nI (i + 3))), (0, .ref b), (1, .ref h), (2, .ref g)]) hx hb dL_law_291 hl (k := 3) rfl (nI_add i 3) (by decide) rfl (fun ls hl => ?_)
      refine lv_goto (tgt := 18) hx hb dL_law_294 (by decide) ?_
      exact ih (i + 3) hlt (by omega) u v hs H locs hP0 hP1 hS ls (lv_sub hl [1, 2, 3, 0] rfl)
    refine lv_aload_n hx hb dL_law_26 rfl (lv_at hl 0 rfl) ?_
    refine lv_iload_n hx hb dL_law_27 rfl (lv_at hl 3 rfl) ?_
    refine va_sld hx hb hX hbl hbA hS in0 dL_law_28 ?_
    refine lv_bipush (v := 15) hx hb dL_law_29 (by decide) ?_
    refine lv_iand hx hb dL_law_31 ?_
    refine lv_topi (fun kk ekk => ?_)
    clear ekk
    by_cases c1 : kk = 0
    · refine lv_tableIn (tgt := 84) hx hb dL_law_32 (by rw [c1]; decide) (by rw [c1]; decide) (by rw [c1]; rfl) (by decide) ?_
      refine lv_aload_n hx hb dL_law_84 rfl (lv_at hl 1 rfl) ?_
      refine lv_aload_n hx hb dL_law_85 rfl (lv_at hl 0 rfl) ?_
      refine lv_iload_n hx hb dL_law_86 rfl (lv_at hl 3 rfl) ?_
      refine lv_iconst (v := 1) hx hb dL_law_87 (by decide) ?_
      refine lv_iadd hx hb dL_law_88 ?_
      refine va_sld hx hb hX hbl hbA hS in1 dL_law_89 ?_
      refine in_i (v := (S0_word (xs (nI i + 1).toNatClampNeg) u).1) (As := [.int (xs (nI i + 1).toNatClampNeg)]) (rest := []) (w1 := ww0 cI h q1 q2 q3 ((S0_word (xs (nI i + 1).toNatClampNeg) u).2)) ⟨hx, hb, hml, hown, hts⟩ (c0_word l ap0 (xs (nI i + 1).toNatClampNeg) u hs.2.2.1) gL_law_X0_word rfl hdX0_word ⟨Nat.le_of_ble_eq_true rfl, Nat.le_of_ble_eq_true rfl⟩ hK0 rfl rfl hl.1 rfl (Nat.le_of_ble_eq_true rfl) dL_law_90 hf8 hP0 hS ge0 (fun H1 locs hP0 hS hz hk => ?_)
      have hP1 := hP1.kept (fun k q hq => hk q.1 ((hP1 k q hq).lt) (fun x => dis q.1 x ((ap4_D ap1).2 k q hq)))
      refine lv_aload_n hx hb dL_law_93 rfl (lv_at hl 2 rfl) ?_
      refine lv_aload_n hx hb dL_law_94 rfl (lv_at hl 0 rfl) ?_
      refine lv_iload_n hx hb dL_law_95 rfl (lv_at hl 3 rfl) ?_
      refine lv_iconst (v := 1) hx hb dL_law_96 (by decide) ?_
      refine lv_iadd hx hb dL_law_97 ?_
      refine va_sld hx hb hX hbl hbA hS in1 dL_law_98 ?_
      refine in_i (v := (S1_word (xs (nI i + 1).toNatClampNeg) v).1) (As := [.int (xs (nI i + 1).toNatClampNeg)]) (rest := [.int ((S0_word (xs (nI i + 1).toNatClampNeg) u).1)]) (w1 := ww1 cI' cJ cB g r1 r2 r3 ((S1_word (xs (nI i + 1).toNatClampNeg) v).2)) ⟨hx, hb, hml, hown, hts⟩ (c1_word l ap1 (xs (nI i + 1).toNatClampNeg) v hs1 hs2) gL_law_X1_word rfl hdX1_word ⟨Nat.le_of_ble_eq_true rfl, Nat.le_of_ble_eq_true rfl⟩ hK1 rfl rfl hl.1 rfl (Nat.le_of_ble_eq_true rfl) dL_law_99 hf8 hP1 hS ge1 (fun H2 locs hP1 hS hz hk => ?_)
      have hP0 := hP0.kept (fun k q hq => hk q.1 ((hP0 k q hq).lt) (fun x => dis q.1 ((ap4_D ap0).2 k q hq) x))
      refine lv_icmp_eq (tgt := 291) hx hb dL_law_102 (by decide) (fun _ => ?_) (fun c9 => absurd (sim_word hs (xs (nI i + 1).toNatClampNeg)).1 c9)
      exact J _ _ (sim_word hs (xs (nI i + 1).toNatClampNeg)).2 _ _ hP0 hP1 hS
    · skip
      by_cases c2 : kk = 1
      · refine lv_tableIn (tgt := 107) hx hb dL_law_32 (by rw [c2]; decide) (by rw [c2]; decide) (by rw [c2]; rfl) (by decide) ?_
        refine lv_aload_n hx hb dL_law_107 rfl (lv_at hl 1 rfl) ?_
        refine lv_aload_n hx hb dL_law_108 rfl (lv_at hl 0 rfl) ?_
        refine lv_iload_n hx hb dL_law_109 rfl (lv_at hl 3 rfl) ?_
        refine lv_iconst (v := 1) hx hb dL_law_110 (by decide) ?_
        refine lv_iadd hx hb dL_law_111 ?_
        refine va_sld hx hb hX hbl hbA hS in1 dL_law_112 ?_
        refine lv_aload_n hx hb dL_law_113 rfl (lv_at hl 0 rfl) ?_
        refine lv_iload_n hx hb dL_law_114 rfl (lv_at hl 3 rfl) ?_
        refine lv_iconst (v := 2) hx hb dL_law_115 (by decide) ?_
        refine lv_iadd hx hb dL_law_116 ?_
        refine va_sld hx hb hX hbl hbA hS in2 dL_law_117 ?_
        refine in_i (v := (S0_put (xs (nI i + 1).toNatClampNeg) (xs (nI i + 2).toNatClampNeg) u).1) (As := [.int (xs (nI i + 1).toNatClampNeg), .int (xs (nI i + 2).toNatClampNeg)]) (rest := []) (w1 := ww0 cI h q1 q2 q3 ((S0_put (xs (nI i + 1).toNatClampNeg) (xs (nI i + 2).toNatClampNeg) u).2)) ⟨hx, hb, hml, hown, hts⟩ (c0_put l ap0 (xs (nI i + 1).toNatClampNeg) (xs (nI i + 2).toNatClampNeg) u ) gL_law_X0_put rfl hdX0_put ⟨Nat.le_of_ble_eq_true rfl, Nat.le_of_ble_eq_true rfl⟩ hK0 rfl rfl hl.1 rfl (Nat.le_of_ble_eq_true rfl) dL_law_118 hf8 hP0 hS ge0 (fun H1 locs hP0 hS hz hk => ?_)
        have hP1 := hP1.kept (fun k q hq => hk q.1 ((hP1 k q hq).lt) (fun x => dis q.1 x ((ap4_D ap1).2 k q hq)))
        refine lv_aload_n hx hb dL_law_121 rfl (lv_at hl 2 rfl) ?_
        refine lv_aload_n hx hb dL_law_122 rfl (lv_at hl 0 rfl) ?_
        refine lv_iload_n hx hb dL_law_123 rfl (lv_at hl 3 rfl) ?_
        refine lv_iconst (v := 1) hx hb dL_law_124 (by decide) ?_
        refine lv_iadd hx hb dL_law_125 ?_
        refine va_sld hx hb hX hbl hbA hS in1 dL_law_126 ?_
        refine lv_aload_n hx hb dL_law_127 rfl (lv_at hl 0 rfl) ?_
        refine lv_iload_n hx hb dL_law_128 rfl (lv_at hl 3 rfl) ?_
        refine lv_iconst (v := 2) hx hb dL_law_129 (by decide) ?_
        refine lv_iadd hx hb dL_law_130 ?_
        refine va_sld hx hb hX hbl hbA hS in2 dL_law_131 ?_
        refine in_i (v := (S1_put (xs (nI i + 1).toNatClampNeg) (xs (nI i + 2).toNatClampNeg) v).1) (As := [.int (xs (nI i + 1).toNatClampNeg), .int (xs (nI i + 2).toNatClampNeg)]) (rest := [.int ((S0_put (xs (nI i + 1).toNatClampNeg) (xs (nI i + 2).toNatClampNeg) u).1)]) (w1 := ww1 cI' cJ cB g r1 r2 r3 ((S1_put (xs (nI i + 1).toNatClampNeg) (xs (nI i + 2).toNatClampNeg) v).2)) ⟨hx, hb, hml, hown, hts⟩ (c1_put l ap1 (xs (nI i + 1).toNatClampNeg) (xs (nI i + 2).toNatClampNeg) v ) gL_law_X1_put rfl hdX1_put ⟨Nat.le_of_ble_eq_true rfl, Nat.le_of_ble_eq_true rfl⟩ hK1 rfl rfl hl.1 rfl (Nat.le_of_ble_eq_true rfl) dL_law_132 hf8 hP1 hS ge1 (fun H2 locs hP1 hS hz hk => ?_)
        have hP0 := hP0.kept (fun k q hq => hk q.1 ((hP0 k q hq).lt) (fun x => dis q.1 ((ap4_D ap0).2 k q hq) x))
        refine lv_icmp_eq (tgt := 291) hx hb dL_law_135 (by decide) (fun _ => ?_) (fun c9 => absurd (sim_put hs (xs (nI i + 1).toNatClampNeg) (xs (nI i + 2).toNatClampNeg)).1 c9)
        exact J _ _ (sim_put hs (xs (nI i + 1).toNatClampNeg) (xs (nI i + 2).toNatClampNeg)).2 _ _ hP0 hP1 hS
      · skip
        by_cases c3 : kk = 2
        · refine lv_tableIn (tgt := 140) hx hb dL_law_32 (by rw [c3]; decide) (by rw [c3]; decide) (by rw [c3]; rfl) (by decide) ?_
          refine lv_aload_n hx hb dL_law_140 rfl (lv_at hl 1 rfl) ?_
          refine lv_aload_n hx hb dL_law_141 rfl (lv_at hl 0 rfl) ?_
          refine lv_iload_n hx hb dL_law_142 rfl (lv_at hl 3 rfl) ?_
          refine lv_iconst (v := 1) hx hb dL_law_143 (by decide) ?_
          refine lv_iadd hx hb dL_law_144 ?_
          refine va_sld hx hb hX hbl hbA hS in1 dL_law_145 ?_
          refine in_i (v := S0_get (xs (nI i + 1).toNatClampNeg) u) (As := [.int (xs (nI i + 1).toNatClampNeg)]) (rest := []) (w1 := ww0 cI h q1 q2 q3 u) ⟨hx, hb, hml, hown, hts⟩ (c0_get l ap0 (xs (nI i + 1).toNatClampNeg) u ) gL_law_X0_get rfl hdX0_get ⟨Nat.le_of_ble_eq_true rfl, Nat.le_of_ble_eq_true rfl⟩ hK0 rfl rfl hl.1 rfl (Nat.le_of_ble_eq_true rfl) dL_law_146 hf8 hP0 hS ge0 (fun H1 locs hP0 hS hz hk => ?_)
          have hP1 := hP1.kept (fun k q hq => hk q.1 ((hP1 k q hq).lt) (fun x => dis q.1 x ((ap4_D ap1).2 k q hq)))
          refine lv_aload_n hx hb dL_law_149 rfl (lv_at hl 2 rfl) ?_
          refine lv_aload_n hx hb dL_law_150 rfl (lv_at hl 0 rfl) ?_
          refine lv_iload_n hx hb dL_law_151 rfl (lv_at hl 3 rfl) ?_
          refine lv_iconst (v := 1) hx hb dL_law_152 (by decide) ?_
          refine lv_iadd hx hb dL_law_153 ?_
          refine va_sld hx hb hX hbl hbA hS in1 dL_law_154 ?_
          refine in_i (v := S1_get (xs (nI i + 1).toNatClampNeg) v) (As := [.int (xs (nI i + 1).toNatClampNeg)]) (rest := [.int (S0_get (xs (nI i + 1).toNatClampNeg) u)]) (w1 := ww1 cI' cJ cB g r1 r2 r3 v) ⟨hx, hb, hml, hown, hts⟩ (c1_get l ap1 (xs (nI i + 1).toNatClampNeg) v ) gL_law_X1_get rfl hdX1_get ⟨Nat.le_of_ble_eq_true rfl, Nat.le_of_ble_eq_true rfl⟩ hK1 rfl rfl hl.1 rfl (Nat.le_of_ble_eq_true rfl) dL_law_155 hf8 hP1 hS ge1 (fun H2 locs hP1 hS hz hk => ?_)
          have hP0 := hP0.kept (fun k q hq => hk q.1 ((hP0 k q hq).lt) (fun x => dis q.1 ((ap4_D ap0).2 k q hq) x))
          refine lv_icmp_eq (tgt := 291) hx hb dL_law_158 (by decide) (fun _ => ?_) (fun c9 => absurd (sim_get hs (xs (nI i + 1).toNatClampNeg)) c9)
          exact J u v hs _ _ hP0 hP1 hS
        · skip
          by_cases c4 : kk = 3
          · refine lv_tableIn (tgt := 163) hx hb dL_law_32 (by rw [c4]; decide) (by rw [c4]; decide) (by rw [c4]; rfl) (by decide) ?_
            refine lv_aload_n hx hb dL_law_163 rfl (lv_at hl 1 rfl) ?_
            refine lv_aload_n hx hb dL_law_164 rfl (lv_at hl 0 rfl) ?_
            refine lv_iload_n hx hb dL_law_165 rfl (lv_at hl 3 rfl) ?_
            refine lv_iconst (v := 1) hx hb dL_law_166 (by decide) ?_
            refine lv_iadd hx hb dL_law_167 ?_
            refine va_sld hx hb hX hbl hbA hS in1 dL_law_168 ?_
            refine lv_aload_n hx hb dL_law_169 rfl (lv_at hl 0 rfl) ?_
            refine lv_iload_n hx hb dL_law_170 rfl (lv_at hl 3 rfl) ?_
            refine lv_iconst (v := 2) hx hb dL_law_171 (by decide) ?_
            refine lv_iadd hx hb dL_law_172 ?_
            refine va_sld hx hb hX hbl hbA hS in2 dL_law_173 ?_
            refine in_i (v := (S0_poke (xs (nI i + 1).toNatClampNeg) (xs (nI i + 2).toNatClampNeg) u).1) (As := [.int (xs (nI i + 1).toNatClampNeg), .int (xs (nI i + 2).toNatClampNeg)]) (rest := []) (w1 := ww0 cI h q1 q2 q3 ((S0_poke (xs (nI i + 1).toNatClampNeg) (xs (nI i + 2).toNatClampNeg) u).2)) ⟨hx, hb, hml, hown, hts⟩ (c0_poke l ap0 (xs (nI i + 1).toNatClampNeg) (xs (nI i + 2).toNatClampNeg) u ) gL_law_X0_poke rfl hdX0_poke ⟨Nat.le_of_ble_eq_true rfl, Nat.le_of_ble_eq_true rfl⟩ hK0 rfl rfl hl.1 rfl (Nat.le_of_ble_eq_true rfl) dL_law_174 hf8 hP0 hS ge0 (fun H1 locs hP0 hS hz hk => ?_)
            have hP1 := hP1.kept (fun k q hq => hk q.1 ((hP1 k q hq).lt) (fun x => dis q.1 x ((ap4_D ap1).2 k q hq)))
            refine lv_aload_n hx hb dL_law_177 rfl (lv_at hl 2 rfl) ?_
            refine lv_aload_n hx hb dL_law_178 rfl (lv_at hl 0 rfl) ?_
            refine lv_iload_n hx hb dL_law_179 rfl (lv_at hl 3 rfl) ?_
            refine lv_iconst (v := 1) hx hb dL_law_180 (by decide) ?_
            refine lv_iadd hx hb dL_law_181 ?_
            refine va_sld hx hb hX hbl hbA hS in1 dL_law_182 ?_
            refine lv_aload_n hx hb dL_law_183 rfl (lv_at hl 0 rfl) ?_
            refine lv_iload_n hx hb dL_law_184 rfl (lv_at hl 3 rfl) ?_
            refine lv_iconst (v := 2) hx hb dL_law_185 (by decide) ?_
            refine lv_iadd hx hb dL_law_186 ?_
            refine va_sld hx hb hX hbl hbA hS in2 dL_law_187 ?_
            refine in_i (v := (S1_poke (xs (nI i + 1).toNatClampNeg) (xs (nI i + 2).toNatClampNeg) v).1) (As := [.int (xs (nI i + 1).toNatClampNeg), .int (xs (nI i + 2).toNatClampNeg)]) (rest := [.int ((S0_poke (xs (nI i + 1).toNatClampNeg) (xs (nI i + 2).toNatClampNeg) u).1)]) (w1 := ww1 cI' cJ cB g r1 r2 r3 ((S1_poke (xs (nI i + 1).toNatClampNeg) (xs (nI i + 2).toNatClampNeg) v).2)) ⟨hx, hb, hml, hown, hts⟩ (c1_poke l ap1 (xs (nI i + 1).toNatClampNeg) (xs (nI i + 2).toNatClampNeg) v ) gL_law_X1_poke rfl hdX1_poke ⟨Nat.le_of_ble_eq_true rfl, Nat.le_of_ble_eq_true rfl⟩ hK1 rfl rfl hl.1 rfl (Nat.le_of_ble_eq_true rfl) dL_law_188 hf8 hP1 hS ge1 (fun H2 locs hP1 hS hz hk => ?_)
            have hP0 := hP0.kept (fun k q hq => hk q.1 ((hP0 k q hq).lt) (fun x => dis q.1 ((ap4_D ap0).2 k q hq) x))
            refine lv_icmp_eq (tgt := 291) hx hb dL_law_191 (by decide) (fun _ => ?_) (fun c9 => absurd (sim_poke hs (xs (nI i + 1).toNatClampNeg) (xs (nI i + 2).toNatClampNeg)).1 c9)
            exact J _ _ (sim_poke hs (xs (nI i + 1).toNatClampNeg) (xs (nI i + 2).toNatClampNeg)).2 _ _ hP0 hP1 hS
          · skip
            by_cases c5 : kk = 4
            · refine lv_tableIn (tgt := 196) hx hb dL_law_32 (by rw [c5]; decide) (by rw [c5]; decide) (by rw [c5]; rfl) (by decide) ?_
              refine lv_aload_n hx hb dL_law_196 rfl (lv_at hl 1 rfl) ?_
              refine lv_aload_n hx hb dL_law_197 rfl (lv_at hl 0 rfl) ?_
              refine lv_iload_n hx hb dL_law_198 rfl (lv_at hl 3 rfl) ?_
              refine lv_iconst (v := 1) hx hb dL_law_199 (by decide) ?_
              refine lv_iadd hx hb dL_law_200 ?_
              refine va_sld hx hb hX hbl hbA hS in1 dL_law_201 ?_
              refine in_i (v := S0_peek (xs (nI i + 1).toNatClampNeg) u) (As := [.int (xs (nI i + 1).toNatClampNeg)]) (rest := []) (w1 := ww0 cI h q1 q2 q3 u) ⟨hx, hb, hml, hown, hts⟩ (c0_peek l ap0 (xs (nI i + 1).toNatClampNeg) u ) gL_law_X0_peek rfl hdX0_peek ⟨Nat.le_of_ble_eq_true rfl, Nat.le_of_ble_eq_true rfl⟩ hK0 rfl rfl hl.1 rfl (Nat.le_of_ble_eq_true rfl) dL_law_202 hf8 hP0 hS ge0 (fun H1 locs hP0 hS hz hk => ?_)
              have hP1 := hP1.kept (fun k q hq => hk q.1 ((hP1 k q hq).lt) (fun x => dis q.1 x ((ap4_D ap1).2 k q hq)))
              refine lv_aload_n hx hb dL_law_205 rfl (lv_at hl 2 rfl) ?_
              refine lv_aload_n hx hb dL_law_206 rfl (lv_at hl 0 rfl) ?_
              refine lv_iload_n hx hb dL_law_207 rfl (lv_at hl 3 rfl) ?_
              refine lv_iconst (v := 1) hx hb dL_law_208 (by decide) ?_
              refine lv_iadd hx hb dL_law_209 ?_
              refine va_sld hx hb hX hbl hbA hS in1 dL_law_210 ?_
              refine in_i (v := S1_peek (xs (nI i + 1).toNatClampNeg) v) (As := [.int (xs (nI i + 1).toNatClampNeg)]) (rest := [.int (S0_peek (xs (nI i + 1).toNatClampNeg) u)]) (w1 := ww1 cI' cJ cB g r1 r2 r3 v) ⟨hx, hb, hml, hown, hts⟩ (c1_peek l ap1 (xs (nI i + 1).toNatClampNeg) v ) gL_law_X1_peek rfl hdX1_peek ⟨Nat.le_of_ble_eq_true rfl, Nat.le_of_ble_eq_true rfl⟩ hK1 rfl rfl hl.1 rfl (Nat.le_of_ble_eq_true rfl) dL_law_211 hf8 hP1 hS ge1 (fun H2 locs hP1 hS hz hk => ?_)
              have hP0 := hP0.kept (fun k q hq => hk q.1 ((hP0 k q hq).lt) (fun x => dis q.1 ((ap4_D ap0).2 k q hq) x))
              refine lv_icmp_eq (tgt := 291) hx hb dL_law_214 (by decide) (fun _ => ?_) (fun c9 => absurd (sim_peek hs (xs (nI i + 1).toNatClampNeg)) c9)
              exact J u v hs _ _ hP0 hP1 hS
            · skip
              by_cases c6 : kk = 5
              · refine lv_tableIn (tgt := 219) hx hb dL_law_32 (by rw [c6]; decide) (by rw [c6]; decide) (by rw [c6]; rfl) (by decide) ?_
                refine lv_aload_n hx hb dL_law_219 rfl (lv_at hl 1 rfl) ?_
                refine lv_aload_n hx hb dL_law_220 rfl (lv_at hl 0 rfl) ?_
                refine lv_iload_n hx hb dL_law_221 rfl (lv_at hl 3 rfl) ?_
                refine lv_iconst (v := 1) hx hb dL_law_222 (by decide) ?_
                refine lv_iadd hx hb dL_law_223 ?_
                refine va_sld hx hb hX hbl hbA hS in1 dL_law_224 ?_
                refine in_i (v := (S0_go (xs (nI i + 1).toNatClampNeg) u).1) (As := [.int (xs (nI i + 1).toNatClampNeg)]) (rest := []) (w1 := ww0 cI h q1 q2 q3 ((S0_go (xs (nI i + 1).toNatClampNeg) u).2)) ⟨hx, hb, hml, hown, hts⟩ (c0_go l ap0 (xs (nI i + 1).toNatClampNeg) u ) gL_law_X0_go rfl hdX0_go ⟨Nat.le_of_ble_eq_true rfl, Nat.le_of_ble_eq_true rfl⟩ hK0 rfl rfl hl.1 rfl (Nat.le_of_ble_eq_true rfl) dL_law_225 hf8 hP0 hS ge0 (fun H1 locs hP0 hS hz hk => ?_)
                have hP1 := hP1.kept (fun k q hq => hk q.1 ((hP1 k q hq).lt) (fun x => dis q.1 x ((ap4_D ap1).2 k q hq)))
                refine lv_aload_n hx hb dL_law_228 rfl (lv_at hl 2 rfl) ?_
                refine lv_aload_n hx hb dL_law_229 rfl (lv_at hl 0 rfl) ?_
                refine lv_iload_n hx hb dL_law_230 rfl (lv_at hl 3 rfl) ?_
                refine lv_iconst (v := 1) hx hb dL_law_231 (by decide) ?_
                refine lv_iadd hx hb dL_law_232 ?_
                refine va_sld hx hb hX hbl hbA hS in1 dL_law_233 ?_
                refine in_i (v := (S1_go (xs (nI i + 1).toNatClampNeg) v).1) (As := [.int (xs (nI i + 1).toNatClampNeg)]) (rest := [.int ((S0_go (xs (nI i + 1).toNatClampNeg) u).1)]) (w1 := ww1 cI' cJ cB g r1 r2 r3 ((S1_go (xs (nI i + 1).toNatClampNeg) v).2)) ⟨hx, hb, hml, hown, hts⟩ (c1_go l ap1 (xs (nI i + 1).toNatClampNeg) v ) gL_law_X1_go rfl hdX1_go ⟨Nat.le_of_ble_eq_true rfl, Nat.le_of_ble_eq_true rfl⟩ hK1 rfl rfl hl.1 rfl (Nat.le_of_ble_eq_true rfl) dL_law_234 hf8 hP1 hS ge1 (fun H2 locs hP1 hS hz hk => ?_)
                have hP0 := hP0.kept (fun k q hq => hk q.1 ((hP0 k q hq).lt) (fun x => dis q.1 ((ap4_D ap0).2 k q hq) x))
                refine lv_icmp_eq (tgt := 291) hx hb dL_law_237 (by decide) (fun _ => ?_) (fun c9 => absurd (sim_go hs (xs (nI i + 1).toNatClampNeg)).1 c9)
                exact J _ _ (sim_go hs (xs (nI i + 1).toNatClampNeg)).2 _ _ hP0 hP1 hS
              · skip
                by_cases c7 : kk = 6
                · refine lv_tableIn (tgt := 242) hx hb dL_law_32 (by rw [c7]; decide) (by rw [c7]; decide) (by rw [c7]; rfl) (by decide) ?_
                  refine lv_aload_n hx hb dL_law_242 rfl (lv_at hl 1 rfl) ?_
                  refine in_i (v := S0_pc u) (As := []) (rest := []) (w1 := ww0 cI h q1 q2 q3 u) ⟨hx, hb, hml, hown, hts⟩ (c0_pc l ap0  u ) gL_law_X0_pc rfl hdX0_pc ⟨Nat.le_of_ble_eq_true rfl, Nat.le_of_ble_eq_true rfl⟩ hK0 rfl rfl hl.1 rfl (Nat.le_of_ble_eq_true rfl) dL_law_243 hf8 hP0 hS ge0 (fun H1 locs hP0 hS hz hk => ?_)
                  have hP1 := hP1.kept (fun k q hq => hk q.1 ((hP1 k q hq).lt) (fun x => dis q.1 x ((ap4_D ap1).2 k q hq)))
                  refine lv_aload_n hx hb dL_law_246 rfl (lv_at hl 2 rfl) ?_
                  refine in_i (v := S1_pc v) (As := []) (rest := [.int (S0_pc u)]) (w1 := ww1 cI' cJ cB g r1 r2 r3 v) ⟨hx, hb, hml, hown, hts⟩ (c1_pc l ap1  v ) gL_law_X1_pc rfl hdX1_pc ⟨Nat.le_of_ble_eq_true rfl, Nat.le_of_ble_eq_true rfl⟩ hK1 rfl rfl hl.1 rfl (Nat.le_of_ble_eq_true rfl) dL_law_247 hf8 hP1 hS ge1 (fun H2 locs hP1 hS hz hk => ?_)
                  have hP0 := hP0.kept (fun k q hq => hk q.1 ((hP0 k q hq).lt) (fun x => dis q.1 ((ap4_D ap0).2 k q hq) x))
                  refine lv_icmp_eq (tgt := 291) hx hb dL_law_250 (by decide) (fun _ => ?_) (fun c9 => absurd (sim_pc hs ) c9)
                  exact J u v hs _ _ hP0 hP1 hS
                · skip
                  by_cases c8 : kk = 7
                  · refine lv_tableIn (tgt := 255) hx hb dL_law_32 (by rw [c8]; decide) (by rw [c8]; decide) (by rw [c8]; rfl) (by decide) ?_
                    refine lv_aload_n hx hb dL_law_255 rfl (lv_at hl 1 rfl) ?_
                    refine lv_aload_n hx hb dL_law_256 rfl (lv_at hl 0 rfl) ?_
                    refine lv_iload_n hx hb dL_law_257 rfl (lv_at hl 3 rfl) ?_
                    refine lv_iconst (v := 1) hx hb dL_law_258 (by decide) ?_
                    refine lv_iadd hx hb dL_law_259 ?_
                    refine va_sld hx hb hX hbl hbA hS in1 dL_law_260 ?_
                    refine in_i (v := (S0_run (xs (nI i + 1).toNatClampNeg) u).1) (As := [.int (xs (nI i + 1).toNatClampNeg)]) (rest := []) (w1 := ww0 cI h q1 q2 q3 ((S0_run (xs (nI i + 1).toNatClampNeg) u).2)) ⟨hx, hb, hml, hown, hts⟩ (c0_run l ap0 (xs (nI i + 1).toNatClampNeg) u hs3) gL_law_X0_run rfl hdX0_run ⟨Nat.le_of_ble_eq_true rfl, Nat.le_of_ble_eq_true rfl⟩ hK0 rfl rfl hl.1 rfl (Nat.le_of_ble_eq_true rfl) dL_law_261 hf8 hP0 hS ge0 (fun H1 locs hP0 hS hz hk => ?_)
                    have hP1 := hP1.kept (fun k q hq => hk q.1 ((hP1 k q hq).lt) (fun x => dis q.1 x ((ap4_D ap1).2 k q hq)))
                    refine lv_aload_n hx hb dL_law_264 rfl (lv_at hl 2 rfl) ?_
                    refine lv_aload_n hx hb dL_law_265 rfl (lv_at hl 0 rfl) ?_
                    refine lv_iload_n hx hb dL_law_266 rfl (lv_at hl 3 rfl) ?_
                    refine lv_iconst (v := 1) hx hb dL_law_267 (by decide) ?_
                    refine lv_iadd hx hb dL_law_268 ?_
                    refine va_sld hx hb hX hbl hbA hS in1 dL_law_269 ?_
                    refine in_i (v := (S1_run (xs (nI i + 1).toNatClampNeg) v).1) (As := [.int (xs (nI i + 1).toNatClampNeg)]) (rest := [.int ((S0_run (xs (nI i + 1).toNatClampNeg) u).1)]) (w1 := ww1 cI' cJ cB g r1 r2 r3 ((S1_run (xs (nI i + 1).toNatClampNeg) v).2)) ⟨hx, hb, hml, hown, hts⟩ (c1_run l ap1 (xs (nI i + 1).toNatClampNeg) v hs4 hs5) gL_law_X1_run rfl hdX1_run ⟨Nat.le_of_ble_eq_true rfl, Nat.le_of_ble_eq_true rfl⟩ hK1 rfl rfl hl.1 rfl (Nat.le_of_ble_eq_true rfl) dL_law_270 hf8 hP1 hS ge1 (fun H2 locs hP1 hS hz hk => ?_)
                    have hP0 := hP0.kept (fun k q hq => hk q.1 ((hP0 k q hq).lt) (fun x => dis q.1 ((ap4_D ap0).2 k q hq) x))
                    refine lv_icmp_eq (tgt := 291) hx hb dL_law_273 (by decide) (fun _ => ?_) (fun c9 => absurd (sim_run hs (xs (nI i + 1).toNatClampNeg)).1 c9)
                    exact J _ _ (sim_run hs (xs (nI i + 1).toNatClampNeg)).2 _ _ hP0 hP1 hS
                  · skip
                    by_cases c9 : kk = 8
                    · refine lv_tableIn (tgt := 278) hx hb dL_law_32 (by rw [c9]; decide) (by rw [c9]; decide) (by rw [c9]; rfl) (by decide) ?_
                      refine lv_aload_n hx hb dL_law_278 rfl (lv_at hl 1 rfl) ?_
                      refine in_i (v := S0_steps u) (As := []) (rest := []) (w1 := ww0 cI h q1 q2 q3 u) ⟨hx, hb, hml, hown, hts⟩ (c0_steps l ap0  u ) gL_law_X0_steps rfl hdX0_steps ⟨Nat.le_of_ble_eq_true rfl, Nat.le_of_ble_eq_true rfl⟩ hK0 rfl rfl hl.1 rfl (Nat.le_of_ble_eq_true rfl) dL_law_279 hf8 hP0 hS ge0 (fun H1 locs hP0 hS hz hk => ?_)
                      have hP1 := hP1.kept (fun k q hq => hk q.1 ((hP1 k q hq).lt) (fun x => dis q.1 x ((ap4_D ap1).2 k q hq)))
                      refine lv_aload_n hx hb dL_law_282 rfl (lv_at hl 2 rfl) ?_
                      refine in_i (v := S1_steps v) (As := []) (rest := [.int (S0_steps u)]) (w1 := ww1 cI' cJ cB g r1 r2 r3 v) ⟨hx, hb, hml, hown, hts⟩ (c1_steps l ap1  v ) gL_law_X1_steps rfl hdX1_steps ⟨Nat.le_of_ble_eq_true rfl, Nat.le_of_ble_eq_true rfl⟩ hK1 rfl rfl hl.1 rfl (Nat.le_of_ble_eq_true rfl) dL_law_283 hf8 hP1 hS ge1 (fun H2 locs hP1 hS hz hk => ?_)
                      have hP0 := hP0.kept (fun k q hq => hk q.1 ((hP0 k q hq).lt) (fun x => dis q.1 ((ap4_D ap0).2 k q hq) x))
                      refine lv_icmp_eq (tgt := 291) hx hb dL_law_286 (by decide) (fun _ => ?_) (fun c9 => absurd (sim_steps hs ) c9)
                      exact J u v hs _ _ hP0 hP1 hS
                    · skip
                      refine lv_tableOut (tgt := 291) hx hb dL_law_32 (by have nc1 := lv_neT c1 (show (0 : Int32).toInt = 0 from by decide); have nc2 := lv_neT c2 (show (1 : Int32).toInt = 1 from by decide); have nc3 := lv_neT c3 (show (2 : Int32).toInt = 2 from by decide); have nc4 := lv_neT c4 (show (3 : Int32).toInt = 3 from by decide); have nc5 := lv_neT c5 (show (4 : Int32).toInt = 4 from by decide); have nc6 := lv_neT c6 (show (5 : Int32).toInt = 5 from by decide); have nc7 := lv_neT c7 (show (6 : Int32).toInt = 6 from by decide); have nc8 := lv_neT c8 (show (7 : Int32).toInt = 7 from by decide); have nc9 := lv_neT c9 (show (8 : Int32).toInt = 8 from by decide); omega) (by decide) ?_
                      exact J u v hs _ _ hP0 hP1 hS
