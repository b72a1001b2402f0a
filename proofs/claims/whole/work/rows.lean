section
-- ===== PART A: goes FIRST, ahead of the names: the tables' words, and 'selects' of the private methods out of them =====
/-- a private method of a class that the tables say can be made, by its rows of tables_1 -/
def lw_okq (q : MethodName × Nat) : Prop := (q.1.cls ≠ "java/lang/invoke/MethodHandle" ∧ q.1.cls ≠ "java/lang/invoke/VarHandle") ∧ Cond.instantiable q.1.cls q.2 ∈ tables_1 ∧ Cond.privateMethod q.1 ∈ tables_1 ∧ Cond.instanceMethod q.1 ∈ tables_1
theorem lw_p0 : lw_okq (⟨"WordMachine", "setRegister", "(II)V"⟩, 6) := ⟨⟨by decide +kernel, by decide +kernel⟩, List.mem_of_getElem? (i := 4) (by decide +kernel), List.mem_of_getElem? (i := 43) (by decide +kernel), List.mem_of_getElem? (i := 44) (by decide +kernel)⟩
theorem lw_p1 : lw_okq (⟨"WordMachine", "replaceBits", "(III)V"⟩, 6) := ⟨⟨by decide +kernel, by decide +kernel⟩, List.mem_of_getElem? (i := 4) (by decide +kernel), List.mem_of_getElem? (i := 61) (by decide +kernel), List.mem_of_getElem? (i := 62) (by decide +kernel)⟩
theorem lw_p2 : lw_okq (⟨"WordMachine", "bitsFrom", "(I)I"⟩, 6) := ⟨⟨by decide +kernel, by decide +kernel⟩, List.mem_of_getElem? (i := 4) (by decide +kernel), List.mem_of_getElem? (i := 72) (by decide +kernel), List.mem_of_getElem? (i := 73) (by decide +kernel)⟩
theorem lw_p3 : lw_okq (⟨"WordMachine", "step", "()I"⟩, 6) := ⟨⟨by decide +kernel, by decide +kernel⟩, List.mem_of_getElem? (i := 4) (by decide +kernel), List.mem_of_getElem? (i := 88) (by decide +kernel), List.mem_of_getElem? (i := 89) (by decide +kernel)⟩
theorem lw_p4 : lw_okq (⟨"WordMachine", "isPlaceOfWord", "(I)Z"⟩, 6) := ⟨⟨by decide +kernel, by decide +kernel⟩, List.mem_of_getElem? (i := 4) (by decide +kernel), List.mem_of_getElem? (i := 92) (by decide +kernel), List.mem_of_getElem? (i := 93) (by decide +kernel)⟩
theorem lw_p5 : lw_okq (⟨"WordMachine", "perform", "(I)I"⟩, 6) := ⟨⟨by decide +kernel, by decide +kernel⟩, List.mem_of_getElem? (i := 4) (by decide +kernel), List.mem_of_getElem? (i := 96) (by decide +kernel), List.mem_of_getElem? (i := 97) (by decide +kernel)⟩
theorem lw_p6 : lw_okq (⟨"WordMachine", "calculateWithNumber", "(I)I"⟩, 6) := ⟨⟨by decide +kernel, by decide +kernel⟩, List.mem_of_getElem? (i := 4) (by decide +kernel), List.mem_of_getElem? (i := 103) (by decide +kernel), List.mem_of_getElem? (i := 104) (by decide +kernel)⟩
theorem lw_p7 : lw_okq (⟨"WordMachine", "valueX", "(I)I"⟩, 6) := ⟨⟨by decide +kernel, by decide +kernel⟩, List.mem_of_getElem? (i := 4) (by decide +kernel), List.mem_of_getElem? (i := 110) (by decide +kernel), List.mem_of_getElem? (i := 111) (by decide +kernel)⟩
theorem lw_p8 : lw_okq (⟨"WordMachine", "tell", "(II)I"⟩, 6) := ⟨⟨by decide +kernel, by decide +kernel⟩, List.mem_of_getElem? (i := 4) (by decide +kernel), List.mem_of_getElem? (i := 127) (by decide +kernel), List.mem_of_getElem? (i := 128) (by decide +kernel)⟩
theorem lw_p9 : lw_okq (⟨"WordMachine", "calculateWithRegister", "(I)I"⟩, 6) := ⟨⟨by decide +kernel, by decide +kernel⟩, List.mem_of_getElem? (i := 4) (by decide +kernel), List.mem_of_getElem? (i := 143) (by decide +kernel), List.mem_of_getElem? (i := 144) (by decide +kernel)⟩
theorem lw_p10 : lw_okq (⟨"WordMachine", "valueY", "(I)I"⟩, 6) := ⟨⟨by decide +kernel, by decide +kernel⟩, List.mem_of_getElem? (i := 4) (by decide +kernel), List.mem_of_getElem? (i := 147) (by decide +kernel), List.mem_of_getElem? (i := 148) (by decide +kernel)⟩
theorem lw_p11 : lw_okq (⟨"WordMachine", "load", "(I)I"⟩, 6) := ⟨⟨by decide +kernel, by decide +kernel⟩, List.mem_of_getElem? (i := 4) (by decide +kernel), List.mem_of_getElem? (i := 163) (by decide +kernel), List.mem_of_getElem? (i := 164) (by decide +kernel)⟩
theorem lw_p12 : lw_okq (⟨"WordMachine", "store", "(I)I"⟩, 6) := ⟨⟨by decide +kernel, by decide +kernel⟩, List.mem_of_getElem? (i := 4) (by decide +kernel), List.mem_of_getElem? (i := 174) (by decide +kernel), List.mem_of_getElem? (i := 175) (by decide +kernel)⟩
theorem lw_p13 : lw_okq (⟨"WordMachine", "branch", "(I)I"⟩, 6) := ⟨⟨by decide +kernel, by decide +kernel⟩, List.mem_of_getElem? (i := 4) (by decide +kernel), List.mem_of_getElem? (i := 184) (by decide +kernel), List.mem_of_getElem? (i := 185) (by decide +kernel)⟩
theorem lw_p14 : lw_okq (⟨"WordMachine", "jump", "(II)I"⟩, 6) := ⟨⟨by decide +kernel, by decide +kernel⟩, List.mem_of_getElem? (i := 4) (by decide +kernel), List.mem_of_getElem? (i := 198) (by decide +kernel), List.mem_of_getElem? (i := 199) (by decide +kernel)⟩
theorem lw_p15 : lw_okq (⟨"WordMachine", "jumpToRegister", "(I)I"⟩, 6) := ⟨⟨by decide +kernel, by decide +kernel⟩, List.mem_of_getElem? (i := 4) (by decide +kernel), List.mem_of_getElem? (i := 202) (by decide +kernel), List.mem_of_getElem? (i := 203) (by decide +kernel)⟩
def lw_privs_1 : List (MethodName × Nat) := [(⟨"WordMachine", "setRegister", "(II)V"⟩, 6), (⟨"WordMachine", "replaceBits", "(III)V"⟩, 6), (⟨"WordMachine", "bitsFrom", "(I)I"⟩, 6), (⟨"WordMachine", "step", "()I"⟩, 6), (⟨"WordMachine", "isPlaceOfWord", "(I)Z"⟩, 6), (⟨"WordMachine", "perform", "(I)I"⟩, 6), (⟨"WordMachine", "calculateWithNumber", "(I)I"⟩, 6), (⟨"WordMachine", "valueX", "(I)I"⟩, 6), (⟨"WordMachine", "tell", "(II)I"⟩, 6), (⟨"WordMachine", "calculateWithRegister", "(I)I"⟩, 6), (⟨"WordMachine", "valueY", "(I)I"⟩, 6), (⟨"WordMachine", "load", "(I)I"⟩, 6), (⟨"WordMachine", "store", "(I)I"⟩, 6), (⟨"WordMachine", "branch", "(I)I"⟩, 6), (⟨"WordMachine", "jump", "(II)I"⟩, 6), (⟨"WordMachine", "jumpToRegister", "(I)I"⟩, 6)]
theorem lw_r1 : ∀ q ∈ lw_privs_1, lw_okq q := List.forall_mem_cons.mpr ⟨lw_p0, List.forall_mem_cons.mpr ⟨lw_p1, List.forall_mem_cons.mpr ⟨lw_p2, List.forall_mem_cons.mpr ⟨lw_p3, List.forall_mem_cons.mpr ⟨lw_p4, List.forall_mem_cons.mpr ⟨lw_p5, List.forall_mem_cons.mpr ⟨lw_p6, List.forall_mem_cons.mpr ⟨lw_p7, List.forall_mem_cons.mpr ⟨lw_p8, List.forall_mem_cons.mpr ⟨lw_p9, List.forall_mem_cons.mpr ⟨lw_p10, List.forall_mem_cons.mpr ⟨lw_p11, List.forall_mem_cons.mpr ⟨lw_p12, List.forall_mem_cons.mpr ⟨lw_p13, List.forall_mem_cons.mpr ⟨lw_p14, List.forall_mem_cons.mpr ⟨lw_p15, fun _ h => absurd h List.not_mem_nil⟩⟩⟩⟩⟩⟩⟩⟩⟩⟩⟩⟩⟩⟩⟩⟩
theorem lw_p16 : lw_okq (⟨"WordMachine", "ask", "(I)I"⟩, 6) := ⟨⟨by decide +kernel, by decide +kernel⟩, List.mem_of_getElem? (i := 4) (by decide +kernel), List.mem_of_getElem? (i := 206) (by decide +kernel), List.mem_of_getElem? (i := 207) (by decide +kernel)⟩
theorem lw_p17 : lw_okq (⟨"WordMachineModel", "give", "(IJ)V"⟩, 12) := ⟨⟨by decide +kernel, by decide +kernel⟩, List.mem_of_getElem? (i := 214) (by decide +kernel), List.mem_of_getElem? (i := 267) (by decide +kernel), List.mem_of_getElem? (i := 268) (by decide +kernel)⟩
theorem lw_p18 : lw_okq (⟨"WordMachineModel", "step", "()I"⟩, 12) := ⟨⟨by decide +kernel, by decide +kernel⟩, List.mem_of_getElem? (i := 214) (by decide +kernel), List.mem_of_getElem? (i := 303) (by decide +kernel), List.mem_of_getElem? (i := 304) (by decide +kernel)⟩
theorem lw_p19 : lw_okq (⟨"WordMachineModel", "work", "(II)I"⟩, 12) := ⟨⟨by decide +kernel, by decide +kernel⟩, List.mem_of_getElem? (i := 214) (by decide +kernel), List.mem_of_getElem? (i := 313) (by decide +kernel), List.mem_of_getElem? (i := 314) (by decide +kernel)⟩
theorem lw_p20 : lw_okq (⟨"WordMachineModel", "branch", "(I)I"⟩, 12) := ⟨⟨by decide +kernel, by decide +kernel⟩, List.mem_of_getElem? (i := 214) (by decide +kernel), List.mem_of_getElem? (i := 317) (by decide +kernel), List.mem_of_getElem? (i := 318) (by decide +kernel)⟩
theorem lw_p21 : lw_okq (⟨"WordMachineModel", "load", "()I"⟩, 12) := ⟨⟨by decide +kernel, by decide +kernel⟩, List.mem_of_getElem? (i := 214) (by decide +kernel), List.mem_of_getElem? (i := 327) (by decide +kernel), List.mem_of_getElem? (i := 328) (by decide +kernel)⟩
theorem lw_p22 : lw_okq (⟨"WordMachineModel", "width", "(Z)I"⟩, 12) := ⟨⟨by decide +kernel, by decide +kernel⟩, List.mem_of_getElem? (i := 214) (by decide +kernel), List.mem_of_getElem? (i := 331) (by decide +kernel), List.mem_of_getElem? (i := 332) (by decide +kernel)⟩
theorem lw_p23 : lw_okq (⟨"WordMachineModel", "isThere", "(JI)Z"⟩, 12) := ⟨⟨by decide +kernel, by decide +kernel⟩, List.mem_of_getElem? (i := 214) (by decide +kernel), List.mem_of_getElem? (i := 335) (by decide +kernel), List.mem_of_getElem? (i := 336) (by decide +kernel)⟩
theorem lw_p24 : lw_okq (⟨"WordMachineModel", "store", "()I"⟩, 12) := ⟨⟨by decide +kernel, by decide +kernel⟩, List.mem_of_getElem? (i := 214) (by decide +kernel), List.mem_of_getElem? (i := 342) (by decide +kernel), List.mem_of_getElem? (i := 343) (by decide +kernel)⟩
theorem lw_p25 : lw_okq (⟨"WordMachineModel", "number", "(II)I"⟩, 12) := ⟨⟨by decide +kernel, by decide +kernel⟩, List.mem_of_getElem? (i := 214) (by decide +kernel), List.mem_of_getElem? (i := 346) (by decide +kernel), List.mem_of_getElem? (i := 347) (by decide +kernel)⟩
theorem lw_p26 : lw_okq (⟨"WordMachineModel", "product", "()J"⟩, 12) := ⟨⟨by decide +kernel, by decide +kernel⟩, List.mem_of_getElem? (i := 214) (by decide +kernel), List.mem_of_getElem? (i := 360) (by decide +kernel), List.mem_of_getElem? (i := 361) (by decide +kernel)⟩
theorem lw_p27 : lw_okq (⟨"WordMachineModel", "upper", "()J"⟩, 12) := ⟨⟨by decide +kernel, by decide +kernel⟩, List.mem_of_getElem? (i := 214) (by decide +kernel), List.mem_of_getElem? (i := 364) (by decide +kernel), List.mem_of_getElem? (i := 365) (by decide +kernel)⟩
def lw_privs_2 : List (MethodName × Nat) := [(⟨"WordMachine", "ask", "(I)I"⟩, 6), (⟨"WordMachineModel", "give", "(IJ)V"⟩, 12), (⟨"WordMachineModel", "step", "()I"⟩, 12), (⟨"WordMachineModel", "work", "(II)I"⟩, 12), (⟨"WordMachineModel", "branch", "(I)I"⟩, 12), (⟨"WordMachineModel", "load", "()I"⟩, 12), (⟨"WordMachineModel", "width", "(Z)I"⟩, 12), (⟨"WordMachineModel", "isThere", "(JI)Z"⟩, 12), (⟨"WordMachineModel", "store", "()I"⟩, 12), (⟨"WordMachineModel", "number", "(II)I"⟩, 12), (⟨"WordMachineModel", "product", "()J"⟩, 12), (⟨"WordMachineModel", "upper", "()J"⟩, 12)]
theorem lw_r2 : ∀ q ∈ lw_privs_2, lw_okq q := List.forall_mem_cons.mpr ⟨lw_p16, List.forall_mem_cons.mpr ⟨lw_p17, List.forall_mem_cons.mpr ⟨lw_p18, List.forall_mem_cons.mpr ⟨lw_p19, List.forall_mem_cons.mpr ⟨lw_p20, List.forall_mem_cons.mpr ⟨lw_p21, List.forall_mem_cons.mpr ⟨lw_p22, List.forall_mem_cons.mpr ⟨lw_p23, List.forall_mem_cons.mpr ⟨lw_p24, List.forall_mem_cons.mpr ⟨lw_p25, List.forall_mem_cons.mpr ⟨lw_p26, List.forall_mem_cons.mpr ⟨lw_p27, fun _ h => absurd h List.not_mem_nil⟩⟩⟩⟩⟩⟩⟩⟩⟩⟩⟩⟩
def lw_privs : List (MethodName × Nat) := lw_privs_1 ++ (lw_privs_2)
def lw_tbl : List Cond := k2_sels lw_privs ++ tables_1
theorem lw_privs_ok : ∀ q ∈ lw_privs, lw_okq q := by
  show ∀ q ∈ lw_privs_1 ++ (lw_privs_2), lw_okq q
  exact List.forall_mem_append.mpr ⟨lw_r1, lw_r2⟩
end
section
/-! ===== BEGIN words of one list among another's, by their places ===== -/
theorem goodIn_r {big : List Cond} (ws : List Cond) (ps : List Nat) (hp : ws = ps.filterMap (fun i => big[i]?)) (h : ws.all goodWord = true) : GoodIn big ws := by
  intro w hw
  have h1 := List.all_eq_true.mp h w hw
  rw [hp] at hw
  obtain ⟨i, -, hi⟩ := List.mem_filterMap.mp hw
  have hm : w ∈ big := by first | exact List.mem_of_getElem? hi | exact List.getElem?_mem hi
  exact ⟨hm, good_of_word h1⟩
theorem goodIn_app {big a b : List Cond} (ha : GoodIn big a) (hb : GoodIn big b) : GoodIn big (a ++ b) := fun w h => (List.mem_append.mp h).elim (ha w) (hb w)
theorem goodIn_ca {big a b : List Cond} {c : Cond} (ha : GoodIn big (c :: a)) (hb : GoodIn big b) : GoodIn big (c :: (a ++ b)) := fun w h => (List.mem_cons.mp h).elim (fun e => ha w (List.mem_cons.mpr (Or.inl e))) (fun h => (List.mem_append.mp h).elim (fun h => ha w (List.mem_cons.mpr (Or.inr h))) (hb w))
theorem goodIn_sub {big ws : List Cond} (hm : ∀ w ∈ ws, w ∈ big) (h : ws.all goodWord = true) : GoodIn big ws := fun w hw => ⟨hm w hw, good_of_word (List.all_eq_true.mp h w hw)⟩
/-! ===== END ===== -/

/-! ===== BEGIN printed: names, fields, word lists, decode rows ===== -/
def RX0 : String := "WordMachine"
def TX0 : u_T := fun k => match k with
  | 0 => ("WordMachine", "code", "[I", true)
  | 1 => ("WordMachine", "registers", "[I", true)
  | 2 => ("WordMachine", "memory", "[I", true)
  | 3 => ("WordMachine", "wordCount", "I", false)
  | 4 => ("WordMachine", "pc", "I", false)
  | _ => ("WordMachine", "stepsDone", "I", false)
def tyX0 : Nat → FieldType := fun k => match k with
  | 0 => .array .int
  | 1 => .array .int
  | 2 => .array .int
  | 3 => .int
  | 4 => .int
  | _ => .int
abbrev wsX00 : List Cond := u_ws RX0 TX0 6
theorem nmX0 : ∀ a, a < 6 → ∀ b, b < 6 → a ≠ b → (TX0 a).2.1 ≠ (TX0 b).2.1 := by decide +kernel
theorem tyX0_ok : ∀ k, k < 6 → parseFieldDescriptor (TX0 k).2.2.1 = some (tyX0 k) := by decide +kernel
abbrev cX0_init : ByteArray := prog_1_method_1_code
def yX0_init : MethodName := ⟨RX0, "<init>", "()V"⟩
abbrev cX0_word : ByteArray := prog_1_method_2_code
def yX0_word : MethodName := ⟨RX0, "word", "(I)I"⟩
abbrev cX0_put : ByteArray := prog_1_method_3_code
def yX0_put : MethodName := ⟨RX0, "put", "(II)Z"⟩
abbrev cX0_get : ByteArray := prog_1_method_4_code
def yX0_get : MethodName := ⟨RX0, "get", "(I)I"⟩
abbrev cX0_poke : ByteArray := prog_1_method_5_code
def yX0_poke : MethodName := ⟨RX0, "poke", "(II)Z"⟩
abbrev cX0_peek : ByteArray := prog_1_method_6_code
def yX0_peek : MethodName := ⟨RX0, "peek", "(I)I"⟩
abbrev cX0_go : ByteArray := prog_1_method_7_code
def yX0_go : MethodName := ⟨RX0, "go", "(I)Z"⟩
abbrev cX0_pc : ByteArray := prog_1_method_8_code
def yX0_pc : MethodName := ⟨RX0, "pc", "()I"⟩
abbrev cX0_run : ByteArray := prog_1_method_9_code
def yX0_run : MethodName := ⟨RX0, "run", "(I)I"⟩
abbrev cX0_steps : ByteArray := prog_1_method_10_code
def yX0_steps : MethodName := ⟨RX0, "steps", "()I"⟩
abbrev cX0_step : ByteArray := prog_1_method_11_code
def yX0_step : MethodName := ⟨RX0, "step", "()I"⟩
abbrev cX0_perform : ByteArray := prog_1_method_12_code
def yX0_perform : MethodName := ⟨RX0, "perform", "(I)I"⟩
abbrev cX0_calculateWithNumber : ByteArray := prog_1_method_13_code
def yX0_calculateWithNumber : MethodName := ⟨RX0, "calculateWithNumber", "(I)I"⟩
abbrev cX0_calculateWithRegister : ByteArray := prog_1_method_14_code
def yX0_calculateWithRegister : MethodName := ⟨RX0, "calculateWithRegister", "(I)I"⟩
abbrev cX0_load : ByteArray := prog_1_method_15_code
def yX0_load : MethodName := ⟨RX0, "load", "(I)I"⟩
abbrev cX0_store : ByteArray := prog_1_method_16_code
def yX0_store : MethodName := ⟨RX0, "store", "(I)I"⟩
abbrev cX0_branch : ByteArray := prog_1_method_17_code
def yX0_branch : MethodName := ⟨RX0, "branch", "(I)I"⟩
abbrev cX0_jump : ByteArray := prog_1_method_18_code
def yX0_jump : MethodName := ⟨RX0, "jump", "(II)I"⟩
abbrev cX0_jumpToRegister : ByteArray := prog_1_method_19_code
def yX0_jumpToRegister : MethodName := ⟨RX0, "jumpToRegister", "(I)I"⟩
abbrev cX0_ask : ByteArray := prog_1_method_20_code
def yX0_ask : MethodName := ⟨RX0, "ask", "(I)I"⟩
abbrev cX0_tell : ByteArray := prog_1_method_21_code
def yX0_tell : MethodName := ⟨RX0, "tell", "(II)I"⟩
abbrev cX0_plain : ByteArray := prog_1_method_22_code
def yX0_plain : MethodName := ⟨RX0, "plain", "(III)I"⟩
abbrev cX0_movedRightWithSign : ByteArray := prog_1_method_23_code
def yX0_movedRightWithSign : MethodName := ⟨RX0, "movedRightWithSign", "(II)I"⟩
abbrev cX0_productOrQuotient : ByteArray := prog_1_method_24_code
def yX0_productOrQuotient : MethodName := ⟨RX0, "productOrQuotient", "(III)I"⟩
abbrev cX0_upperOfProduct : ByteArray := prog_1_method_25_code
def yX0_upperOfProduct : MethodName := ⟨RX0, "upperOfProduct", "(JJ)I"⟩
abbrev cX0_quotient : ByteArray := prog_1_method_26_code
def yX0_quotient : MethodName := ⟨RX0, "quotient", "(JJ)I"⟩
abbrev cX0_rest : ByteArray := prog_1_method_27_code
def yX0_rest : MethodName := ⟨RX0, "rest", "(JJ)I"⟩
abbrev cX0_holds : ByteArray := prog_1_method_28_code
def yX0_holds : MethodName := ⟨RX0, "holds", "(III)Z"⟩
abbrev cX0_unsigned : ByteArray := prog_1_method_29_code
def yX0_unsigned : MethodName := ⟨RX0, "unsigned", "(I)J"⟩
abbrev cX0_isRegister : ByteArray := prog_1_method_30_code
def yX0_isRegister : MethodName := ⟨RX0, "isRegister", "(I)Z"⟩
abbrev cX0_setRegister : ByteArray := prog_1_method_31_code
def yX0_setRegister : MethodName := ⟨RX0, "setRegister", "(II)V"⟩
abbrev cX0_valueX : ByteArray := prog_1_method_32_code
def yX0_valueX : MethodName := ⟨RX0, "valueX", "(I)I"⟩
abbrev cX0_valueY : ByteArray := prog_1_method_33_code
def yX0_valueY : MethodName := ⟨RX0, "valueY", "(I)I"⟩
abbrev cX0_isMultiple : ByteArray := prog_1_method_34_code
def yX0_isMultiple : MethodName := ⟨RX0, "isMultiple", "(II)Z"⟩
abbrev cX0_isAddress : ByteArray := prog_1_method_35_code
def yX0_isAddress : MethodName := ⟨RX0, "isAddress", "(II)Z"⟩
abbrev cX0_isPlaceOfWord : ByteArray := prog_1_method_36_code
def yX0_isPlaceOfWord : MethodName := ⟨RX0, "isPlaceOfWord", "(I)Z"⟩
abbrev cX0_bitsFrom : ByteArray := prog_1_method_37_code
def yX0_bitsFrom : MethodName := ⟨RX0, "bitsFrom", "(I)I"⟩
abbrev cX0_replaceBits : ByteArray := prog_1_method_38_code
def yX0_replaceBits : MethodName := ⟨RX0, "replaceBits", "(III)V"⟩
abbrev cX0_bitOffset : ByteArray := prog_1_method_39_code
def yX0_bitOffset : MethodName := ⟨RX0, "bitOffset", "(I)I"⟩
abbrev cX0_widthOf : ByteArray := prog_1_method_40_code
def yX0_widthOf : MethodName := ⟨RX0, "widthOf", "(I)I"⟩
abbrev cX0_loaded : ByteArray := prog_1_method_41_code
def yX0_loaded : MethodName := ⟨RX0, "loaded", "(II)I"⟩
abbrev cX0_storedBits : ByteArray := prog_1_method_42_code
def yX0_storedBits : MethodName := ⟨RX0, "storedBits", "(I)I"⟩
abbrev cX0_fieldOp : ByteArray := prog_1_method_43_code
def yX0_fieldOp : MethodName := ⟨RX0, "fieldOp", "(I)I"⟩
abbrev cX0_fieldD : ByteArray := prog_1_method_44_code
def yX0_fieldD : MethodName := ⟨RX0, "fieldD", "(I)I"⟩
abbrev cX0_fieldT : ByteArray := prog_1_method_45_code
def yX0_fieldT : MethodName := ⟨RX0, "fieldT", "(I)I"⟩
abbrev cX0_fieldX : ByteArray := prog_1_method_46_code
def yX0_fieldX : MethodName := ⟨RX0, "fieldX", "(I)I"⟩
abbrev cX0_fieldY : ByteArray := prog_1_method_47_code
def yX0_fieldY : MethodName := ⟨RX0, "fieldY", "(I)I"⟩
abbrev cX0_fieldS : ByteArray := prog_1_method_48_code
def yX0_fieldS : MethodName := ⟨RX0, "fieldS", "(I)I"⟩
abbrev cX0_numberI : ByteArray := prog_1_method_49_code
def yX0_numberI : MethodName := ⟨RX0, "numberI", "(I)I"⟩
abbrev cX0_storeDistance : ByteArray := prog_1_method_50_code
def yX0_storeDistance : MethodName := ⟨RX0, "storeDistance", "(I)I"⟩
abbrev cX0_branchDistance : ByteArray := prog_1_method_51_code
def yX0_branchDistance : MethodName := ⟨RX0, "branchDistance", "(I)I"⟩
abbrev cX0_jumpDistance : ByteArray := prog_1_method_52_code
def yX0_jumpDistance : MethodName := ⟨RX0, "jumpDistance", "(I)I"⟩
def RX1 : String := "WordMachineModel"
def TX1 : u_T := fun k => match k with
  | 0 => ("WordMachineModel", "code", "[I", true)
  | 1 => ("WordMachineModel", "words", "I", false)
  | 2 => ("WordMachineModel", "pc", "I", false)
  | 3 => ("WordMachineModel", "steps", "I", false)
  | 4 => ("WordMachineModel", "registers", "[J", true)
  | 5 => ("WordMachineModel", "memory", "[B", true)
  | 6 => ("WordMachineModel", "d", "I", false)
  | 7 => ("WordMachineModel", "t", "I", false)
  | 8 => ("WordMachineModel", "s", "I", false)
  | 9 => ("WordMachineModel", "immediate", "I", false)
  | 10 => ("WordMachineModel", "x", "J", false)
  | _ => ("WordMachineModel", "y", "J", false)
def tyX1 : Nat → FieldType := fun k => match k with
  | 0 => .array .int
  | 1 => .int
  | 2 => .int
  | 3 => .int
  | 4 => .array .long
  | 5 => .array .byte
  | 6 => .int
  | 7 => .int
  | 8 => .int
  | 9 => .int
  | 10 => .long
  | _ => .long
abbrev wsX10 : List Cond := u_ws RX1 TX1 12
theorem nmX1 : ∀ a, a < 12 → ∀ b, b < 12 → a ≠ b → (TX1 a).2.1 ≠ (TX1 b).2.1 := by decide +kernel
theorem tyX1_ok : ∀ k, k < 12 → parseFieldDescriptor (TX1 k).2.2.1 = some (tyX1 k) := by decide +kernel
abbrev cX1_init : ByteArray := prog_3_method_1_code
def yX1_init : MethodName := ⟨RX1, "<init>", "()V"⟩
abbrev cX1_word : ByteArray := prog_3_method_3_code
def yX1_word : MethodName := ⟨RX1, "word", "(I)I"⟩
abbrev cX1_plain : ByteArray := prog_3_method_4_code
def yX1_plain : MethodName := ⟨RX1, "plain", "(J)J"⟩
abbrev cX1_signed : ByteArray := prog_3_method_5_code
def yX1_signed : MethodName := ⟨RX1, "signed", "(J)J"⟩
abbrev cX1_give : ByteArray := prog_3_method_6_code
def yX1_give : MethodName := ⟨RX1, "give", "(IJ)V"⟩
abbrev cX1_put : ByteArray := prog_3_method_7_code
def yX1_put : MethodName := ⟨RX1, "put", "(II)Z"⟩
abbrev cX1_get : ByteArray := prog_3_method_8_code
def yX1_get : MethodName := ⟨RX1, "get", "(I)I"⟩
abbrev cX1_poke : ByteArray := prog_3_method_9_code
def yX1_poke : MethodName := ⟨RX1, "poke", "(II)Z"⟩
abbrev cX1_peek : ByteArray := prog_3_method_10_code
def yX1_peek : MethodName := ⟨RX1, "peek", "(I)I"⟩
abbrev cX1_go : ByteArray := prog_3_method_11_code
def yX1_go : MethodName := ⟨RX1, "go", "(I)Z"⟩
abbrev cX1_pc : ByteArray := prog_3_method_12_code
def yX1_pc : MethodName := ⟨RX1, "pc", "()I"⟩
abbrev cX1_steps : ByteArray := prog_3_method_13_code
def yX1_steps : MethodName := ⟨RX1, "steps", "()I"⟩
abbrev cX1_run : ByteArray := prog_3_method_14_code
def yX1_run : MethodName := ⟨RX1, "run", "(I)I"⟩
abbrev cX1_bits : ByteArray := prog_3_method_15_code
def yX1_bits : MethodName := ⟨RX1, "bits", "(III)I"⟩
abbrev cX1_withSign : ByteArray := prog_3_method_16_code
def yX1_withSign : MethodName := ⟨RX1, "withSign", "(II)I"⟩
abbrev cX1_step : ByteArray := prog_3_method_17_code
def yX1_step : MethodName := ⟨RX1, "step", "()I"⟩
abbrev cX1_work : ByteArray := prog_3_method_18_code
def yX1_work : MethodName := ⟨RX1, "work", "(II)I"⟩
abbrev cX1_branch : ByteArray := prog_3_method_19_code
def yX1_branch : MethodName := ⟨RX1, "branch", "(I)I"⟩
abbrev cX1_width : ByteArray := prog_3_method_20_code
def yX1_width : MethodName := ⟨RX1, "width", "(Z)I"⟩
abbrev cX1_isThere : ByteArray := prog_3_method_21_code
def yX1_isThere : MethodName := ⟨RX1, "isThere", "(JI)Z"⟩
abbrev cX1_load : ByteArray := prog_3_method_22_code
def yX1_load : MethodName := ⟨RX1, "load", "()I"⟩
abbrev cX1_store : ByteArray := prog_3_method_23_code
def yX1_store : MethodName := ⟨RX1, "store", "()I"⟩
abbrev cX1_number : ByteArray := prog_3_method_24_code
def yX1_number : MethodName := ⟨RX1, "number", "(II)I"⟩
abbrev cX1_power : ByteArray := prog_3_method_25_code
def yX1_power : MethodName := ⟨RX1, "power", "(J)J"⟩
abbrev cX1_made : ByteArray := prog_3_method_26_code
def yX1_made : MethodName := ⟨RX1, "made", "(IIJJ)J"⟩
abbrev cX1_down : ByteArray := prog_3_method_27_code
def yX1_down : MethodName := ⟨RX1, "down", "(JJ)J"⟩
abbrev cX1_product : ByteArray := prog_3_method_28_code
def yX1_product : MethodName := ⟨RX1, "product", "()J"⟩
abbrev cX1_upper : ByteArray := prog_3_method_29_code
def yX1_upper : MethodName := ⟨RX1, "upper", "()J"⟩
def RL : String := "WordMachineLaw"
abbrev cL_law : ByteArray := code
def yL_law : MethodName := ⟨RL, "law", "([I)Z"⟩
def wsX0_init : List Cond := .code yX0_init cX0_init 1 none :: ([.methodLink RX0 1 objectInit, .instanceMethod objectInit, .code objectInit ⟨#[0xb1]⟩ 1 none, .arrayClass .int, .fieldLink RX0 9 "WordMachine" "code" "[I", .fieldLink RX0 13 "WordMachine" "registers" "[I", .fieldLink RX0 16 "WordMachine" "memory" "[I", .fieldLink RX0 19 "WordMachine" "wordCount" "I", .fieldLink RX0 23 "WordMachine" "pc" "I", .fieldLink RX0 26 "WordMachine" "stepsDone" "I"] ++ wsX00)
def wsX0_word : List Cond := .code yX0_word cX0_word 2 (some .int) :: ([.fieldLink RX0 19 "WordMachine" "wordCount" "I", .fieldLink RX0 9 "WordMachine" "code" "[I"] ++ wsX00)
def wsX0_isRegister : List Cond := .code yX0_isRegister cX0_isRegister 1 (some .boolean) :: ([])
def wsX0_setRegister : List Cond := .code yX0_setRegister cX0_setRegister 3 none :: ([.fieldLink RX0 13 "WordMachine" "registers" "[I"] ++ wsX00)
def wsX0_put : List Cond := .code yX0_put cX0_put 3 (some .boolean) :: ([.methodLink RX0 29 yX0_isRegister, .static yX0_isRegister, .initialized RX0, .code yX0_isRegister cX0_isRegister 1 (some .boolean), .methodLink RX0 33 yX0_setRegister, .instanceMethod yX0_setRegister, .selects RX0 yX0_setRegister yX0_setRegister, .code yX0_setRegister cX0_setRegister 3 none, .fieldLink RX0 13 "WordMachine" "registers" "[I"] ++ wsX00)
def wsX0_get : List Cond := .code yX0_get cX0_get 2 (some .int) :: ([.fieldLink RX0 13 "WordMachine" "registers" "[I", .methodLink RX0 29 yX0_isRegister, .static yX0_isRegister, .initialized RX0, .code yX0_isRegister cX0_isRegister 1 (some .boolean)] ++ wsX00)
def wsX0_isMultiple : List Cond := .code yX0_isMultiple cX0_isMultiple 2 (some .boolean) :: ([])
def wsX0_isAddress : List Cond := .code yX0_isAddress cX0_isAddress 2 (some .boolean) :: ([.methodLink RX0 49 yX0_isMultiple, .static yX0_isMultiple, .initialized RX0, .code yX0_isMultiple cX0_isMultiple 2 (some .boolean)])
def wsX0_bitOffset : List Cond := .code yX0_bitOffset cX0_bitOffset 1 (some .int) :: ([])
def wsX0_replaceBits : List Cond := .code yX0_replaceBits cX0_replaceBits 5 none :: ([.fieldLink RX0 16 "WordMachine" "memory" "[I", .methodLink RX0 165 yX0_bitOffset, .static yX0_bitOffset, .initialized RX0, .code yX0_bitOffset cX0_bitOffset 1 (some .int)] ++ wsX00)
def wsX0_poke : List Cond := .code yX0_poke cX0_poke 3 (some .boolean) :: ([.methodLink RX0 37 yX0_isAddress, .static yX0_isAddress, .initialized RX0, .code yX0_isAddress cX0_isAddress 2 (some .boolean), .methodLink RX0 49 yX0_isMultiple, .static yX0_isMultiple, .code yX0_isMultiple cX0_isMultiple 2 (some .boolean), .methodLink RX0 41 yX0_replaceBits, .instanceMethod yX0_replaceBits, .selects RX0 yX0_replaceBits yX0_replaceBits, .code yX0_replaceBits cX0_replaceBits 5 none, .fieldLink RX0 16 "WordMachine" "memory" "[I", .methodLink RX0 165 yX0_bitOffset, .static yX0_bitOffset, .code yX0_bitOffset cX0_bitOffset 1 (some .int)] ++ wsX00)
def wsX0_bitsFrom : List Cond := .code yX0_bitsFrom cX0_bitsFrom 2 (some .int) :: ([.fieldLink RX0 16 "WordMachine" "memory" "[I", .methodLink RX0 165 yX0_bitOffset, .static yX0_bitOffset, .initialized RX0, .code yX0_bitOffset cX0_bitOffset 1 (some .int)] ++ wsX00)
def wsX0_peek : List Cond := .code yX0_peek cX0_peek 2 (some .int) :: ([.methodLink RX0 37 yX0_isAddress, .static yX0_isAddress, .initialized RX0, .code yX0_isAddress cX0_isAddress 2 (some .boolean), .methodLink RX0 49 yX0_isMultiple, .static yX0_isMultiple, .code yX0_isMultiple cX0_isMultiple 2 (some .boolean), .methodLink RX0 45 yX0_bitsFrom, .instanceMethod yX0_bitsFrom, .selects RX0 yX0_bitsFrom yX0_bitsFrom, .code yX0_bitsFrom cX0_bitsFrom 2 (some .int), .fieldLink RX0 16 "WordMachine" "memory" "[I", .methodLink RX0 165 yX0_bitOffset, .static yX0_bitOffset, .code yX0_bitOffset cX0_bitOffset 1 (some .int)] ++ wsX00)
def wsX0_go : List Cond := .code yX0_go cX0_go 2 (some .boolean) :: ([.fieldLink RX0 23 "WordMachine" "pc" "I", .methodLink RX0 49 yX0_isMultiple, .static yX0_isMultiple, .initialized RX0, .code yX0_isMultiple cX0_isMultiple 2 (some .boolean)] ++ wsX00)
def wsX0_pc : List Cond := .code yX0_pc cX0_pc 1 (some .int) :: ([.fieldLink RX0 23 "WordMachine" "pc" "I"] ++ wsX00)
def wsX0_isPlaceOfWord : List Cond := .code yX0_isPlaceOfWord cX0_isPlaceOfWord 2 (some .boolean) :: ([.fieldLink RX0 19 "WordMachine" "wordCount" "I", .methodLink RX0 49 yX0_isMultiple, .static yX0_isMultiple, .initialized RX0, .code yX0_isMultiple cX0_isMultiple 2 (some .boolean)] ++ wsX00)
def wsX0_fieldOp : List Cond := .code yX0_fieldOp cX0_fieldOp 1 (some .int) :: ([])
def wsX0_fieldT : List Cond := .code yX0_fieldT cX0_fieldT 1 (some .int) :: ([])
def wsX0_fieldX : List Cond := .code yX0_fieldX cX0_fieldX 1 (some .int) :: ([])
def wsX0_valueX : List Cond := .code yX0_valueX cX0_valueX 2 (some .int) :: ([.fieldLink RX0 13 "WordMachine" "registers" "[I", .methodLink RX0 162 yX0_fieldX, .static yX0_fieldX, .initialized RX0, .code yX0_fieldX cX0_fieldX 1 (some .int)] ++ wsX00)
def wsX0_numberI : List Cond := .code yX0_numberI cX0_numberI 1 (some .int) :: ([])
def wsX0_unsigned : List Cond := .code yX0_unsigned cX0_unsigned 1 (some .long) :: ([.constantLong RX0 160 (4294967295)])
def wsX0_plain : List Cond := .code yX0_plain cX0_plain 3 (some .int) :: ([.methodLink RX0 146 yX0_unsigned, .static yX0_unsigned, .initialized RX0, .code yX0_unsigned cX0_unsigned 1 (some .long), .constantLong RX0 160 (4294967295)])
def wsX0_fieldD : List Cond := .code yX0_fieldD cX0_fieldD 1 (some .int) :: ([])
def wsX0_tell : List Cond := .code yX0_tell cX0_tell 3 (some .int) :: ([.fieldLink RX0 23 "WordMachine" "pc" "I", .methodLink RX0 143 yX0_fieldD, .static yX0_fieldD, .initialized RX0, .code yX0_fieldD cX0_fieldD 1 (some .int), .methodLink RX0 33 yX0_setRegister, .instanceMethod yX0_setRegister, .selects RX0 yX0_setRegister yX0_setRegister, .code yX0_setRegister cX0_setRegister 3 none, .fieldLink RX0 13 "WordMachine" "registers" "[I"] ++ wsX00)
def wsX0_fieldS : List Cond := .code yX0_fieldS cX0_fieldS 1 (some .int) :: ([])
def wsX0_fieldY : List Cond := .code yX0_fieldY cX0_fieldY 1 (some .int) :: ([])
def wsX0_movedRightWithSign : List Cond := .code yX0_movedRightWithSign cX0_movedRightWithSign 2 (some .int) :: ([])
def wsX0_calculateWithNumber_r1 : List Cond := [Cond.methodLink RX0 96 yX0_fieldT, Cond.static yX0_fieldT, Cond.initialized RX0, Cond.code yX0_fieldT cX0_fieldT 1 (some .int), Cond.methodLink RX0 99 yX0_valueX, Cond.instanceMethod yX0_valueX, Cond.selects RX0 yX0_valueX yX0_valueX, Cond.code yX0_valueX cX0_valueX 2 (some .int), Cond.fieldLink RX0 13 "WordMachine" "registers" "[I", Cond.methodLink RX0 162 yX0_fieldX, Cond.static yX0_fieldX, Cond.code yX0_fieldX cX0_fieldX 1 (some .int), Cond.methodLink RX0 102 yX0_numberI, Cond.static yX0_numberI, Cond.code yX0_numberI cX0_numberI 1 (some .int), Cond.methodLink RX0 105 yX0_plain, Cond.static yX0_plain, Cond.code yX0_plain cX0_plain 3 (some .int), Cond.methodLink RX0 146 yX0_unsigned, Cond.static yX0_unsigned, Cond.code yX0_unsigned cX0_unsigned 1 (some .long), Cond.constantLong RX0 160 (4294967295), Cond.methodLink RX0 71 yX0_tell, Cond.instanceMethod yX0_tell]
def wsX0_calculateWithNumber_r2 : List Cond := [Cond.selects RX0 yX0_tell yX0_tell, Cond.code yX0_tell cX0_tell 3 (some .int), Cond.fieldLink RX0 23 "WordMachine" "pc" "I", Cond.methodLink RX0 143 yX0_fieldD, Cond.static yX0_fieldD, Cond.code yX0_fieldD cX0_fieldD 1 (some .int), Cond.methodLink RX0 33 yX0_setRegister, Cond.instanceMethod yX0_setRegister, Cond.selects RX0 yX0_setRegister yX0_setRegister, Cond.code yX0_setRegister cX0_setRegister 3 none, Cond.methodLink RX0 109 yX0_fieldS, Cond.static yX0_fieldS, Cond.code yX0_fieldS cX0_fieldS 1 (some .int), Cond.methodLink RX0 112 yX0_fieldY, Cond.static yX0_fieldY, Cond.code yX0_fieldY cX0_fieldY 1 (some .int), Cond.methodLink RX0 115 yX0_movedRightWithSign, Cond.static yX0_movedRightWithSign, Cond.code yX0_movedRightWithSign cX0_movedRightWithSign 2 (some .int)]
def wsX0_calculateWithNumber : List Cond := .code yX0_calculateWithNumber cX0_calculateWithNumber 4 (some .int) :: ((wsX0_calculateWithNumber_r1 ++ wsX0_calculateWithNumber_r2) ++ wsX00)
def wsX0_valueY : List Cond := .code yX0_valueY cX0_valueY 2 (some .int) :: ([.fieldLink RX0 13 "WordMachine" "registers" "[I", .methodLink RX0 112 yX0_fieldY, .static yX0_fieldY, .initialized RX0, .code yX0_fieldY cX0_fieldY 1 (some .int)] ++ wsX00)
def wsX0_upperOfProduct : List Cond := .code yX0_upperOfProduct cX0_upperOfProduct 4 (some .int) :: ([])
def wsX0_quotient : List Cond := .code yX0_quotient cX0_quotient 4 (some .int) :: ([])
def wsX0_rest : List Cond := .code yX0_rest cX0_rest 4 (some .int) :: ([])
def wsX0_productOrQuotient : List Cond := .code yX0_productOrQuotient cX0_productOrQuotient 3 (some .int) :: ([.methodLink RX0 150 yX0_upperOfProduct, .static yX0_upperOfProduct, .initialized RX0, .code yX0_upperOfProduct cX0_upperOfProduct 4 (some .int), .methodLink RX0 146 yX0_unsigned, .static yX0_unsigned, .code yX0_unsigned cX0_unsigned 1 (some .long), .constantLong RX0 160 (4294967295), .methodLink RX0 154 yX0_quotient, .static yX0_quotient, .code yX0_quotient cX0_quotient 4 (some .int), .methodLink RX0 157 yX0_rest, .static yX0_rest, .code yX0_rest cX0_rest 4 (some .int)])
def wsX0_calculateWithRegister_r1 : List Cond := [Cond.methodLink RX0 96 yX0_fieldT, Cond.static yX0_fieldT, Cond.initialized RX0, Cond.code yX0_fieldT cX0_fieldT 1 (some .int), Cond.methodLink RX0 99 yX0_valueX, Cond.instanceMethod yX0_valueX, Cond.selects RX0 yX0_valueX yX0_valueX, Cond.code yX0_valueX cX0_valueX 2 (some .int), Cond.fieldLink RX0 13 "WordMachine" "registers" "[I", Cond.methodLink RX0 162 yX0_fieldX, Cond.static yX0_fieldX, Cond.code yX0_fieldX cX0_fieldX 1 (some .int), Cond.methodLink RX0 118 yX0_valueY, Cond.instanceMethod yX0_valueY, Cond.selects RX0 yX0_valueY yX0_valueY, Cond.code yX0_valueY cX0_valueY 2 (some .int), Cond.methodLink RX0 112 yX0_fieldY, Cond.static yX0_fieldY, Cond.code yX0_fieldY cX0_fieldY 1 (some .int), Cond.methodLink RX0 109 yX0_fieldS, Cond.static yX0_fieldS, Cond.code yX0_fieldS cX0_fieldS 1 (some .int), Cond.methodLink RX0 105 yX0_plain, Cond.static yX0_plain]
def wsX0_calculateWithRegister_r2 : List Cond := [Cond.code yX0_plain cX0_plain 3 (some .int), Cond.methodLink RX0 146 yX0_unsigned, Cond.static yX0_unsigned, Cond.code yX0_unsigned cX0_unsigned 1 (some .long), Cond.constantLong RX0 160 (4294967295), Cond.methodLink RX0 71 yX0_tell, Cond.instanceMethod yX0_tell, Cond.selects RX0 yX0_tell yX0_tell, Cond.code yX0_tell cX0_tell 3 (some .int), Cond.fieldLink RX0 23 "WordMachine" "pc" "I", Cond.methodLink RX0 143 yX0_fieldD, Cond.static yX0_fieldD, Cond.code yX0_fieldD cX0_fieldD 1 (some .int), Cond.methodLink RX0 33 yX0_setRegister, Cond.instanceMethod yX0_setRegister, Cond.selects RX0 yX0_setRegister yX0_setRegister, Cond.code yX0_setRegister cX0_setRegister 3 none, Cond.methodLink RX0 121 yX0_productOrQuotient, Cond.static yX0_productOrQuotient, Cond.code yX0_productOrQuotient cX0_productOrQuotient 3 (some .int), Cond.methodLink RX0 150 yX0_upperOfProduct, Cond.static yX0_upperOfProduct, Cond.code yX0_upperOfProduct cX0_upperOfProduct 4 (some .int), Cond.methodLink RX0 154 yX0_quotient]
def wsX0_calculateWithRegister_r3 : List Cond := [Cond.static yX0_quotient, Cond.code yX0_quotient cX0_quotient 4 (some .int), Cond.methodLink RX0 157 yX0_rest, Cond.static yX0_rest, Cond.code yX0_rest cX0_rest 4 (some .int), Cond.methodLink RX0 115 yX0_movedRightWithSign, Cond.static yX0_movedRightWithSign, Cond.code yX0_movedRightWithSign cX0_movedRightWithSign 2 (some .int)]
def wsX0_calculateWithRegister : List Cond := .code yX0_calculateWithRegister cX0_calculateWithRegister 5 (some .int) :: ((wsX0_calculateWithRegister_r1 ++ (wsX0_calculateWithRegister_r2 ++ wsX0_calculateWithRegister_r3)) ++ wsX00)
def wsX0_widthOf : List Cond := .code yX0_widthOf cX0_widthOf 1 (some .int) :: ([])
def wsX0_loaded : List Cond := .code yX0_loaded cX0_loaded 2 (some .int) :: ([.constant RX0 168 (65535)])
def wsX0_load_r1 : List Cond := [Cond.methodLink RX0 96 yX0_fieldT, Cond.static yX0_fieldT, Cond.initialized RX0, Cond.code yX0_fieldT cX0_fieldT 1 (some .int), Cond.methodLink RX0 99 yX0_valueX, Cond.instanceMethod yX0_valueX, Cond.selects RX0 yX0_valueX yX0_valueX, Cond.code yX0_valueX cX0_valueX 2 (some .int), Cond.fieldLink RX0 13 "WordMachine" "registers" "[I", Cond.methodLink RX0 162 yX0_fieldX, Cond.static yX0_fieldX, Cond.code yX0_fieldX cX0_fieldX 1 (some .int), Cond.methodLink RX0 102 yX0_numberI, Cond.static yX0_numberI, Cond.code yX0_numberI cX0_numberI 1 (some .int), Cond.methodLink RX0 124 yX0_widthOf, Cond.static yX0_widthOf, Cond.code yX0_widthOf cX0_widthOf 1 (some .int), Cond.methodLink RX0 37 yX0_isAddress, Cond.static yX0_isAddress, Cond.code yX0_isAddress cX0_isAddress 2 (some .boolean), Cond.methodLink RX0 49 yX0_isMultiple, Cond.static yX0_isMultiple, Cond.code yX0_isMultiple cX0_isMultiple 2 (some .boolean)]
def wsX0_load_r2 : List Cond := [Cond.methodLink RX0 45 yX0_bitsFrom, Cond.instanceMethod yX0_bitsFrom, Cond.selects RX0 yX0_bitsFrom yX0_bitsFrom, Cond.code yX0_bitsFrom cX0_bitsFrom 2 (some .int), Cond.fieldLink RX0 16 "WordMachine" "memory" "[I", Cond.methodLink RX0 165 yX0_bitOffset, Cond.static yX0_bitOffset, Cond.code yX0_bitOffset cX0_bitOffset 1 (some .int), Cond.methodLink RX0 127 yX0_loaded, Cond.static yX0_loaded, Cond.code yX0_loaded cX0_loaded 2 (some .int), Cond.constant RX0 168 (65535), Cond.methodLink RX0 71 yX0_tell, Cond.instanceMethod yX0_tell, Cond.selects RX0 yX0_tell yX0_tell, Cond.code yX0_tell cX0_tell 3 (some .int), Cond.fieldLink RX0 23 "WordMachine" "pc" "I", Cond.methodLink RX0 143 yX0_fieldD, Cond.static yX0_fieldD, Cond.code yX0_fieldD cX0_fieldD 1 (some .int), Cond.methodLink RX0 33 yX0_setRegister, Cond.instanceMethod yX0_setRegister, Cond.selects RX0 yX0_setRegister yX0_setRegister, Cond.code yX0_setRegister cX0_setRegister 3 none]
def wsX0_load : List Cond := .code yX0_load cX0_load 4 (some .int) :: ((wsX0_load_r1 ++ wsX0_load_r2) ++ wsX00)
def wsX0_storeDistance : List Cond := .code yX0_storeDistance cX0_storeDistance 1 (some .int) :: ([.methodLink RX0 143 yX0_fieldD, .static yX0_fieldD, .initialized RX0, .code yX0_fieldD cX0_fieldD 1 (some .int)])
def wsX0_storedBits : List Cond := .code yX0_storedBits cX0_storedBits 1 (some .int) :: ([.constant RX0 168 (65535)])
def wsX0_store_r1 : List Cond := [Cond.fieldLink RX0 23 "WordMachine" "pc" "I", Cond.methodLink RX0 96 yX0_fieldT, Cond.static yX0_fieldT, Cond.initialized RX0, Cond.code yX0_fieldT cX0_fieldT 1 (some .int), Cond.methodLink RX0 99 yX0_valueX, Cond.instanceMethod yX0_valueX, Cond.selects RX0 yX0_valueX yX0_valueX, Cond.code yX0_valueX cX0_valueX 2 (some .int), Cond.fieldLink RX0 13 "WordMachine" "registers" "[I", Cond.methodLink RX0 162 yX0_fieldX, Cond.static yX0_fieldX, Cond.code yX0_fieldX cX0_fieldX 1 (some .int), Cond.methodLink RX0 130 yX0_storeDistance, Cond.static yX0_storeDistance, Cond.code yX0_storeDistance cX0_storeDistance 1 (some .int), Cond.methodLink RX0 143 yX0_fieldD, Cond.static yX0_fieldD, Cond.code yX0_fieldD cX0_fieldD 1 (some .int), Cond.methodLink RX0 124 yX0_widthOf, Cond.static yX0_widthOf, Cond.code yX0_widthOf cX0_widthOf 1 (some .int), Cond.methodLink RX0 37 yX0_isAddress, Cond.static yX0_isAddress]
def wsX0_store_r2 : List Cond := [Cond.code yX0_isAddress cX0_isAddress 2 (some .boolean), Cond.methodLink RX0 49 yX0_isMultiple, Cond.static yX0_isMultiple, Cond.code yX0_isMultiple cX0_isMultiple 2 (some .boolean), Cond.methodLink RX0 133 yX0_storedBits, Cond.static yX0_storedBits, Cond.code yX0_storedBits cX0_storedBits 1 (some .int), Cond.constant RX0 168 (65535), Cond.methodLink RX0 118 yX0_valueY, Cond.instanceMethod yX0_valueY, Cond.selects RX0 yX0_valueY yX0_valueY, Cond.code yX0_valueY cX0_valueY 2 (some .int), Cond.methodLink RX0 112 yX0_fieldY, Cond.static yX0_fieldY, Cond.code yX0_fieldY cX0_fieldY 1 (some .int), Cond.methodLink RX0 41 yX0_replaceBits, Cond.instanceMethod yX0_replaceBits, Cond.selects RX0 yX0_replaceBits yX0_replaceBits, Cond.code yX0_replaceBits cX0_replaceBits 5 none, Cond.fieldLink RX0 16 "WordMachine" "memory" "[I", Cond.methodLink RX0 165 yX0_bitOffset, Cond.static yX0_bitOffset, Cond.code yX0_bitOffset cX0_bitOffset 1 (some .int)]
def wsX0_store : List Cond := .code yX0_store cX0_store 4 (some .int) :: ((wsX0_store_r1 ++ wsX0_store_r2) ++ wsX00)
def wsX0_holds : List Cond := .code yX0_holds cX0_holds 3 (some .boolean) :: ([.methodLink RX0 146 yX0_unsigned, .static yX0_unsigned, .initialized RX0, .code yX0_unsigned cX0_unsigned 1 (some .long), .constantLong RX0 160 (4294967295)])
def wsX0_branchDistance : List Cond := .code yX0_branchDistance cX0_branchDistance 1 (some .int) :: ([])
def wsX0_branch_r1 : List Cond := [Cond.fieldLink RX0 23 "WordMachine" "pc" "I", Cond.methodLink RX0 96 yX0_fieldT, Cond.static yX0_fieldT, Cond.initialized RX0, Cond.code yX0_fieldT cX0_fieldT 1 (some .int), Cond.methodLink RX0 99 yX0_valueX, Cond.instanceMethod yX0_valueX, Cond.selects RX0 yX0_valueX yX0_valueX, Cond.code yX0_valueX cX0_valueX 2 (some .int), Cond.fieldLink RX0 13 "WordMachine" "registers" "[I", Cond.methodLink RX0 162 yX0_fieldX, Cond.static yX0_fieldX, Cond.code yX0_fieldX cX0_fieldX 1 (some .int), Cond.methodLink RX0 118 yX0_valueY, Cond.instanceMethod yX0_valueY, Cond.selects RX0 yX0_valueY yX0_valueY, Cond.code yX0_valueY cX0_valueY 2 (some .int), Cond.methodLink RX0 112 yX0_fieldY, Cond.static yX0_fieldY, Cond.code yX0_fieldY cX0_fieldY 1 (some .int), Cond.methodLink RX0 136 yX0_holds, Cond.static yX0_holds, Cond.code yX0_holds cX0_holds 3 (some .boolean), Cond.methodLink RX0 146 yX0_unsigned]
def wsX0_branch_r2 : List Cond := [Cond.static yX0_unsigned, Cond.code yX0_unsigned cX0_unsigned 1 (some .long), Cond.constantLong RX0 160 (4294967295), Cond.methodLink RX0 140 yX0_branchDistance, Cond.static yX0_branchDistance, Cond.code yX0_branchDistance cX0_branchDistance 1 (some .int)]
def wsX0_branch : List Cond := .code yX0_branch cX0_branch 3 (some .int) :: ((wsX0_branch_r1 ++ wsX0_branch_r2) ++ wsX00)
def wsX0_jumpDistance : List Cond := .code yX0_jumpDistance cX0_jumpDistance 1 (some .int) :: ([.constant RX0 169 (1044480)])
def wsX0_jump : List Cond := .code yX0_jump cX0_jump 3 (some .int) :: ([.fieldLink RX0 23 "WordMachine" "pc" "I", .methodLink RX0 143 yX0_fieldD, .static yX0_fieldD, .initialized RX0, .code yX0_fieldD cX0_fieldD 1 (some .int), .methodLink RX0 33 yX0_setRegister, .instanceMethod yX0_setRegister, .selects RX0 yX0_setRegister yX0_setRegister, .code yX0_setRegister cX0_setRegister 3 none, .fieldLink RX0 13 "WordMachine" "registers" "[I"] ++ wsX00)
def wsX0_jumpToRegister_r1 : List Cond := [Cond.methodLink RX0 96 yX0_fieldT, Cond.static yX0_fieldT, Cond.initialized RX0, Cond.code yX0_fieldT cX0_fieldT 1 (some .int), Cond.methodLink RX0 99 yX0_valueX, Cond.instanceMethod yX0_valueX, Cond.selects RX0 yX0_valueX yX0_valueX, Cond.code yX0_valueX cX0_valueX 2 (some .int), Cond.fieldLink RX0 13 "WordMachine" "registers" "[I", Cond.methodLink RX0 162 yX0_fieldX, Cond.static yX0_fieldX, Cond.code yX0_fieldX cX0_fieldX 1 (some .int), Cond.methodLink RX0 102 yX0_numberI, Cond.static yX0_numberI, Cond.code yX0_numberI cX0_numberI 1 (some .int), Cond.methodLink RX0 87 yX0_jump, Cond.instanceMethod yX0_jump, Cond.selects RX0 yX0_jump yX0_jump, Cond.code yX0_jump cX0_jump 3 (some .int), Cond.fieldLink RX0 23 "WordMachine" "pc" "I", Cond.methodLink RX0 143 yX0_fieldD, Cond.static yX0_fieldD, Cond.code yX0_fieldD cX0_fieldD 1 (some .int), Cond.methodLink RX0 33 yX0_setRegister]
def wsX0_jumpToRegister_r2 : List Cond := [Cond.instanceMethod yX0_setRegister, Cond.selects RX0 yX0_setRegister yX0_setRegister, Cond.code yX0_setRegister cX0_setRegister 3 none]
def wsX0_jumpToRegister : List Cond := .code yX0_jumpToRegister cX0_jumpToRegister 2 (some .int) :: ((wsX0_jumpToRegister_r1 ++ wsX0_jumpToRegister_r2) ++ wsX00)
def wsX0_ask : List Cond := .code yX0_ask cX0_ask 2 (some .int) :: ([.fieldLink RX0 23 "WordMachine" "pc" "I"] ++ wsX00)
def wsX0_perform_r1 : List Cond := [Cond.fieldLink RX0 23 "WordMachine" "pc" "I", Cond.methodLink RX0 62 yX0_fieldOp, Cond.static yX0_fieldOp, Cond.initialized RX0, Cond.code yX0_fieldOp cX0_fieldOp 1 (some .int), Cond.methodLink RX0 65 yX0_calculateWithNumber, Cond.instanceMethod yX0_calculateWithNumber, Cond.selects RX0 yX0_calculateWithNumber yX0_calculateWithNumber, Cond.code yX0_calculateWithNumber cX0_calculateWithNumber 4 (some .int), Cond.methodLink RX0 96 yX0_fieldT, Cond.static yX0_fieldT, Cond.code yX0_fieldT cX0_fieldT 1 (some .int), Cond.methodLink RX0 99 yX0_valueX, Cond.instanceMethod yX0_valueX, Cond.selects RX0 yX0_valueX yX0_valueX, Cond.code yX0_valueX cX0_valueX 2 (some .int), Cond.fieldLink RX0 13 "WordMachine" "registers" "[I", Cond.methodLink RX0 162 yX0_fieldX, Cond.static yX0_fieldX, Cond.code yX0_fieldX cX0_fieldX 1 (some .int), Cond.methodLink RX0 102 yX0_numberI, Cond.static yX0_numberI, Cond.code yX0_numberI cX0_numberI 1 (some .int), Cond.methodLink RX0 105 yX0_plain]
def wsX0_perform_r2 : List Cond := [Cond.static yX0_plain, Cond.code yX0_plain cX0_plain 3 (some .int), Cond.methodLink RX0 146 yX0_unsigned, Cond.static yX0_unsigned, Cond.code yX0_unsigned cX0_unsigned 1 (some .long), Cond.constantLong RX0 160 (4294967295), Cond.methodLink RX0 71 yX0_tell, Cond.instanceMethod yX0_tell, Cond.selects RX0 yX0_tell yX0_tell, Cond.code yX0_tell cX0_tell 3 (some .int), Cond.methodLink RX0 143 yX0_fieldD, Cond.static yX0_fieldD, Cond.code yX0_fieldD cX0_fieldD 1 (some .int), Cond.methodLink RX0 33 yX0_setRegister, Cond.instanceMethod yX0_setRegister, Cond.selects RX0 yX0_setRegister yX0_setRegister, Cond.code yX0_setRegister cX0_setRegister 3 none, Cond.methodLink RX0 109 yX0_fieldS, Cond.static yX0_fieldS, Cond.code yX0_fieldS cX0_fieldS 1 (some .int), Cond.methodLink RX0 112 yX0_fieldY, Cond.static yX0_fieldY, Cond.code yX0_fieldY cX0_fieldY 1 (some .int), Cond.methodLink RX0 115 yX0_movedRightWithSign]
def wsX0_perform_r3 : List Cond := [Cond.static yX0_movedRightWithSign, Cond.code yX0_movedRightWithSign cX0_movedRightWithSign 2 (some .int), Cond.methodLink RX0 68 yX0_calculateWithRegister, Cond.instanceMethod yX0_calculateWithRegister, Cond.selects RX0 yX0_calculateWithRegister yX0_calculateWithRegister, Cond.code yX0_calculateWithRegister cX0_calculateWithRegister 5 (some .int), Cond.methodLink RX0 118 yX0_valueY, Cond.instanceMethod yX0_valueY, Cond.selects RX0 yX0_valueY yX0_valueY, Cond.code yX0_valueY cX0_valueY 2 (some .int), Cond.methodLink RX0 121 yX0_productOrQuotient, Cond.static yX0_productOrQuotient, Cond.code yX0_productOrQuotient cX0_productOrQuotient 3 (some .int), Cond.methodLink RX0 150 yX0_upperOfProduct, Cond.static yX0_upperOfProduct, Cond.code yX0_upperOfProduct cX0_upperOfProduct 4 (some .int), Cond.methodLink RX0 154 yX0_quotient, Cond.static yX0_quotient, Cond.code yX0_quotient cX0_quotient 4 (some .int), Cond.methodLink RX0 157 yX0_rest, Cond.static yX0_rest, Cond.code yX0_rest cX0_rest 4 (some .int), Cond.methodLink RX0 75 yX0_load, Cond.instanceMethod yX0_load]
def wsX0_perform_r4 : List Cond := [Cond.selects RX0 yX0_load yX0_load, Cond.code yX0_load cX0_load 4 (some .int), Cond.methodLink RX0 124 yX0_widthOf, Cond.static yX0_widthOf, Cond.code yX0_widthOf cX0_widthOf 1 (some .int), Cond.methodLink RX0 37 yX0_isAddress, Cond.static yX0_isAddress, Cond.code yX0_isAddress cX0_isAddress 2 (some .boolean), Cond.methodLink RX0 49 yX0_isMultiple, Cond.static yX0_isMultiple, Cond.code yX0_isMultiple cX0_isMultiple 2 (some .boolean), Cond.methodLink RX0 45 yX0_bitsFrom, Cond.instanceMethod yX0_bitsFrom, Cond.selects RX0 yX0_bitsFrom yX0_bitsFrom, Cond.code yX0_bitsFrom cX0_bitsFrom 2 (some .int), Cond.fieldLink RX0 16 "WordMachine" "memory" "[I", Cond.methodLink RX0 165 yX0_bitOffset, Cond.static yX0_bitOffset, Cond.code yX0_bitOffset cX0_bitOffset 1 (some .int), Cond.methodLink RX0 127 yX0_loaded, Cond.static yX0_loaded, Cond.code yX0_loaded cX0_loaded 2 (some .int), Cond.constant RX0 168 (65535), Cond.methodLink RX0 78 yX0_store]
def wsX0_perform_r5 : List Cond := [Cond.instanceMethod yX0_store, Cond.selects RX0 yX0_store yX0_store, Cond.code yX0_store cX0_store 4 (some .int), Cond.methodLink RX0 130 yX0_storeDistance, Cond.static yX0_storeDistance, Cond.code yX0_storeDistance cX0_storeDistance 1 (some .int), Cond.methodLink RX0 133 yX0_storedBits, Cond.static yX0_storedBits, Cond.code yX0_storedBits cX0_storedBits 1 (some .int), Cond.methodLink RX0 41 yX0_replaceBits, Cond.instanceMethod yX0_replaceBits, Cond.selects RX0 yX0_replaceBits yX0_replaceBits, Cond.code yX0_replaceBits cX0_replaceBits 5 none, Cond.methodLink RX0 81 yX0_branch, Cond.instanceMethod yX0_branch, Cond.selects RX0 yX0_branch yX0_branch, Cond.code yX0_branch cX0_branch 3 (some .int), Cond.methodLink RX0 136 yX0_holds, Cond.static yX0_holds, Cond.code yX0_holds cX0_holds 3 (some .boolean), Cond.methodLink RX0 140 yX0_branchDistance, Cond.static yX0_branchDistance, Cond.code yX0_branchDistance cX0_branchDistance 1 (some .int), Cond.methodLink RX0 84 yX0_jumpDistance]
def wsX0_perform_r6 : List Cond := [Cond.static yX0_jumpDistance, Cond.code yX0_jumpDistance cX0_jumpDistance 1 (some .int), Cond.constant RX0 169 (1044480), Cond.methodLink RX0 87 yX0_jump, Cond.instanceMethod yX0_jump, Cond.selects RX0 yX0_jump yX0_jump, Cond.code yX0_jump cX0_jump 3 (some .int), Cond.methodLink RX0 90 yX0_jumpToRegister, Cond.instanceMethod yX0_jumpToRegister, Cond.selects RX0 yX0_jumpToRegister yX0_jumpToRegister, Cond.code yX0_jumpToRegister cX0_jumpToRegister 2 (some .int), Cond.methodLink RX0 93 yX0_ask, Cond.instanceMethod yX0_ask, Cond.selects RX0 yX0_ask yX0_ask, Cond.code yX0_ask cX0_ask 2 (some .int)]
def wsX0_perform : List Cond := .code yX0_perform cX0_perform 2 (some .int) :: ((wsX0_perform_r1 ++ (wsX0_perform_r2 ++ (wsX0_perform_r3 ++ (wsX0_perform_r4 ++ (wsX0_perform_r5 ++ wsX0_perform_r6))))) ++ wsX00)
def wsX0_step_r1 : List Cond := [Cond.fieldLink RX0 23 "WordMachine" "pc" "I", Cond.fieldLink RX0 9 "WordMachine" "code" "[I", Cond.fieldLink RX0 26 "WordMachine" "stepsDone" "I", Cond.methodLink RX0 56 yX0_isPlaceOfWord, Cond.instanceMethod yX0_isPlaceOfWord, Cond.selects RX0 yX0_isPlaceOfWord yX0_isPlaceOfWord, Cond.initialized RX0, Cond.code yX0_isPlaceOfWord cX0_isPlaceOfWord 2 (some .boolean), Cond.fieldLink RX0 19 "WordMachine" "wordCount" "I", Cond.methodLink RX0 49 yX0_isMultiple, Cond.static yX0_isMultiple, Cond.code yX0_isMultiple cX0_isMultiple 2 (some .boolean), Cond.methodLink RX0 59 yX0_perform, Cond.instanceMethod yX0_perform, Cond.selects RX0 yX0_perform yX0_perform, Cond.code yX0_perform cX0_perform 2 (some .int), Cond.methodLink RX0 62 yX0_fieldOp, Cond.static yX0_fieldOp, Cond.code yX0_fieldOp cX0_fieldOp 1 (some .int), Cond.methodLink RX0 65 yX0_calculateWithNumber, Cond.instanceMethod yX0_calculateWithNumber, Cond.selects RX0 yX0_calculateWithNumber yX0_calculateWithNumber, Cond.code yX0_calculateWithNumber cX0_calculateWithNumber 4 (some .int), Cond.methodLink RX0 96 yX0_fieldT]
def wsX0_step_r2 : List Cond := [Cond.static yX0_fieldT, Cond.code yX0_fieldT cX0_fieldT 1 (some .int), Cond.methodLink RX0 99 yX0_valueX, Cond.instanceMethod yX0_valueX, Cond.selects RX0 yX0_valueX yX0_valueX, Cond.code yX0_valueX cX0_valueX 2 (some .int), Cond.fieldLink RX0 13 "WordMachine" "registers" "[I", Cond.methodLink RX0 162 yX0_fieldX, Cond.static yX0_fieldX, Cond.code yX0_fieldX cX0_fieldX 1 (some .int), Cond.methodLink RX0 102 yX0_numberI, Cond.static yX0_numberI, Cond.code yX0_numberI cX0_numberI 1 (some .int), Cond.methodLink RX0 105 yX0_plain, Cond.static yX0_plain, Cond.code yX0_plain cX0_plain 3 (some .int), Cond.methodLink RX0 146 yX0_unsigned, Cond.static yX0_unsigned, Cond.code yX0_unsigned cX0_unsigned 1 (some .long), Cond.constantLong RX0 160 (4294967295), Cond.methodLink RX0 71 yX0_tell, Cond.instanceMethod yX0_tell, Cond.selects RX0 yX0_tell yX0_tell, Cond.code yX0_tell cX0_tell 3 (some .int)]
def wsX0_step_r3 : List Cond := [Cond.methodLink RX0 143 yX0_fieldD, Cond.static yX0_fieldD, Cond.code yX0_fieldD cX0_fieldD 1 (some .int), Cond.methodLink RX0 33 yX0_setRegister, Cond.instanceMethod yX0_setRegister, Cond.selects RX0 yX0_setRegister yX0_setRegister, Cond.code yX0_setRegister cX0_setRegister 3 none, Cond.methodLink RX0 109 yX0_fieldS, Cond.static yX0_fieldS, Cond.code yX0_fieldS cX0_fieldS 1 (some .int), Cond.methodLink RX0 112 yX0_fieldY, Cond.static yX0_fieldY, Cond.code yX0_fieldY cX0_fieldY 1 (some .int), Cond.methodLink RX0 115 yX0_movedRightWithSign, Cond.static yX0_movedRightWithSign, Cond.code yX0_movedRightWithSign cX0_movedRightWithSign 2 (some .int), Cond.methodLink RX0 68 yX0_calculateWithRegister, Cond.instanceMethod yX0_calculateWithRegister, Cond.selects RX0 yX0_calculateWithRegister yX0_calculateWithRegister, Cond.code yX0_calculateWithRegister cX0_calculateWithRegister 5 (some .int), Cond.methodLink RX0 118 yX0_valueY, Cond.instanceMethod yX0_valueY, Cond.selects RX0 yX0_valueY yX0_valueY, Cond.code yX0_valueY cX0_valueY 2 (some .int)]
def wsX0_step_r4 : List Cond := [Cond.methodLink RX0 121 yX0_productOrQuotient, Cond.static yX0_productOrQuotient, Cond.code yX0_productOrQuotient cX0_productOrQuotient 3 (some .int), Cond.methodLink RX0 150 yX0_upperOfProduct, Cond.static yX0_upperOfProduct, Cond.code yX0_upperOfProduct cX0_upperOfProduct 4 (some .int), Cond.methodLink RX0 154 yX0_quotient, Cond.static yX0_quotient, Cond.code yX0_quotient cX0_quotient 4 (some .int), Cond.methodLink RX0 157 yX0_rest, Cond.static yX0_rest, Cond.code yX0_rest cX0_rest 4 (some .int), Cond.methodLink RX0 75 yX0_load, Cond.instanceMethod yX0_load, Cond.selects RX0 yX0_load yX0_load, Cond.code yX0_load cX0_load 4 (some .int), Cond.methodLink RX0 124 yX0_widthOf, Cond.static yX0_widthOf, Cond.code yX0_widthOf cX0_widthOf 1 (some .int), Cond.methodLink RX0 37 yX0_isAddress, Cond.static yX0_isAddress, Cond.code yX0_isAddress cX0_isAddress 2 (some .boolean), Cond.methodLink RX0 45 yX0_bitsFrom, Cond.instanceMethod yX0_bitsFrom]
def wsX0_step_r5 : List Cond := [Cond.selects RX0 yX0_bitsFrom yX0_bitsFrom, Cond.code yX0_bitsFrom cX0_bitsFrom 2 (some .int), Cond.fieldLink RX0 16 "WordMachine" "memory" "[I", Cond.methodLink RX0 165 yX0_bitOffset, Cond.static yX0_bitOffset, Cond.code yX0_bitOffset cX0_bitOffset 1 (some .int), Cond.methodLink RX0 127 yX0_loaded, Cond.static yX0_loaded, Cond.code yX0_loaded cX0_loaded 2 (some .int), Cond.constant RX0 168 (65535), Cond.methodLink RX0 78 yX0_store, Cond.instanceMethod yX0_store, Cond.selects RX0 yX0_store yX0_store, Cond.code yX0_store cX0_store 4 (some .int), Cond.methodLink RX0 130 yX0_storeDistance, Cond.static yX0_storeDistance, Cond.code yX0_storeDistance cX0_storeDistance 1 (some .int), Cond.methodLink RX0 133 yX0_storedBits, Cond.static yX0_storedBits, Cond.code yX0_storedBits cX0_storedBits 1 (some .int), Cond.methodLink RX0 41 yX0_replaceBits, Cond.instanceMethod yX0_replaceBits, Cond.selects RX0 yX0_replaceBits yX0_replaceBits, Cond.code yX0_replaceBits cX0_replaceBits 5 none]
def wsX0_step_r6 : List Cond := [Cond.methodLink RX0 81 yX0_branch, Cond.instanceMethod yX0_branch, Cond.selects RX0 yX0_branch yX0_branch, Cond.code yX0_branch cX0_branch 3 (some .int), Cond.methodLink RX0 136 yX0_holds, Cond.static yX0_holds, Cond.code yX0_holds cX0_holds 3 (some .boolean), Cond.methodLink RX0 140 yX0_branchDistance, Cond.static yX0_branchDistance, Cond.code yX0_branchDistance cX0_branchDistance 1 (some .int), Cond.methodLink RX0 84 yX0_jumpDistance, Cond.static yX0_jumpDistance, Cond.code yX0_jumpDistance cX0_jumpDistance 1 (some .int), Cond.constant RX0 169 (1044480), Cond.methodLink RX0 87 yX0_jump, Cond.instanceMethod yX0_jump, Cond.selects RX0 yX0_jump yX0_jump, Cond.code yX0_jump cX0_jump 3 (some .int), Cond.methodLink RX0 90 yX0_jumpToRegister, Cond.instanceMethod yX0_jumpToRegister, Cond.selects RX0 yX0_jumpToRegister yX0_jumpToRegister, Cond.code yX0_jumpToRegister cX0_jumpToRegister 2 (some .int), Cond.methodLink RX0 93 yX0_ask, Cond.instanceMethod yX0_ask]
def wsX0_step_r7 : List Cond := [Cond.selects RX0 yX0_ask yX0_ask, Cond.code yX0_ask cX0_ask 2 (some .int)]
def wsX0_step : List Cond := .code yX0_step cX0_step 2 (some .int) :: ((wsX0_step_r1 ++ (wsX0_step_r2 ++ (wsX0_step_r3 ++ (wsX0_step_r4 ++ (wsX0_step_r5 ++ (wsX0_step_r6 ++ wsX0_step_r7)))))) ++ wsX00)
def wsX0_run_r1 : List Cond := [Cond.methodLink RX0 52 yX0_step, Cond.instanceMethod yX0_step, Cond.selects RX0 yX0_step yX0_step, Cond.initialized RX0, Cond.code yX0_step cX0_step 2 (some .int), Cond.fieldLink RX0 23 "WordMachine" "pc" "I", Cond.fieldLink RX0 9 "WordMachine" "code" "[I", Cond.fieldLink RX0 26 "WordMachine" "stepsDone" "I", Cond.methodLink RX0 56 yX0_isPlaceOfWord, Cond.instanceMethod yX0_isPlaceOfWord, Cond.selects RX0 yX0_isPlaceOfWord yX0_isPlaceOfWord, Cond.code yX0_isPlaceOfWord cX0_isPlaceOfWord 2 (some .boolean), Cond.fieldLink RX0 19 "WordMachine" "wordCount" "I", Cond.methodLink RX0 49 yX0_isMultiple, Cond.static yX0_isMultiple, Cond.code yX0_isMultiple cX0_isMultiple 2 (some .boolean), Cond.methodLink RX0 59 yX0_perform, Cond.instanceMethod yX0_perform, Cond.selects RX0 yX0_perform yX0_perform, Cond.code yX0_perform cX0_perform 2 (some .int), Cond.methodLink RX0 62 yX0_fieldOp, Cond.static yX0_fieldOp, Cond.code yX0_fieldOp cX0_fieldOp 1 (some .int), Cond.methodLink RX0 65 yX0_calculateWithNumber]
def wsX0_run_r2 : List Cond := [Cond.instanceMethod yX0_calculateWithNumber, Cond.selects RX0 yX0_calculateWithNumber yX0_calculateWithNumber, Cond.code yX0_calculateWithNumber cX0_calculateWithNumber 4 (some .int), Cond.methodLink RX0 96 yX0_fieldT, Cond.static yX0_fieldT, Cond.code yX0_fieldT cX0_fieldT 1 (some .int), Cond.methodLink RX0 99 yX0_valueX, Cond.instanceMethod yX0_valueX, Cond.selects RX0 yX0_valueX yX0_valueX, Cond.code yX0_valueX cX0_valueX 2 (some .int), Cond.fieldLink RX0 13 "WordMachine" "registers" "[I", Cond.methodLink RX0 162 yX0_fieldX, Cond.static yX0_fieldX, Cond.code yX0_fieldX cX0_fieldX 1 (some .int), Cond.methodLink RX0 102 yX0_numberI, Cond.static yX0_numberI, Cond.code yX0_numberI cX0_numberI 1 (some .int), Cond.methodLink RX0 105 yX0_plain, Cond.static yX0_plain, Cond.code yX0_plain cX0_plain 3 (some .int), Cond.methodLink RX0 146 yX0_unsigned, Cond.static yX0_unsigned, Cond.code yX0_unsigned cX0_unsigned 1 (some .long), Cond.constantLong RX0 160 (4294967295)]
def wsX0_run_r3 : List Cond := [Cond.methodLink RX0 71 yX0_tell, Cond.instanceMethod yX0_tell, Cond.selects RX0 yX0_tell yX0_tell, Cond.code yX0_tell cX0_tell 3 (some .int), Cond.methodLink RX0 143 yX0_fieldD, Cond.static yX0_fieldD, Cond.code yX0_fieldD cX0_fieldD 1 (some .int), Cond.methodLink RX0 33 yX0_setRegister, Cond.instanceMethod yX0_setRegister, Cond.selects RX0 yX0_setRegister yX0_setRegister, Cond.code yX0_setRegister cX0_setRegister 3 none, Cond.methodLink RX0 109 yX0_fieldS, Cond.static yX0_fieldS, Cond.code yX0_fieldS cX0_fieldS 1 (some .int), Cond.methodLink RX0 112 yX0_fieldY, Cond.static yX0_fieldY, Cond.code yX0_fieldY cX0_fieldY 1 (some .int), Cond.methodLink RX0 115 yX0_movedRightWithSign, Cond.static yX0_movedRightWithSign, Cond.code yX0_movedRightWithSign cX0_movedRightWithSign 2 (some .int), Cond.methodLink RX0 68 yX0_calculateWithRegister, Cond.instanceMethod yX0_calculateWithRegister, Cond.selects RX0 yX0_calculateWithRegister yX0_calculateWithRegister, Cond.code yX0_calculateWithRegister cX0_calculateWithRegister 5 (some .int)]
def wsX0_run_r4 : List Cond := [Cond.methodLink RX0 118 yX0_valueY, Cond.instanceMethod yX0_valueY, Cond.selects RX0 yX0_valueY yX0_valueY, Cond.code yX0_valueY cX0_valueY 2 (some .int), Cond.methodLink RX0 121 yX0_productOrQuotient, Cond.static yX0_productOrQuotient, Cond.code yX0_productOrQuotient cX0_productOrQuotient 3 (some .int), Cond.methodLink RX0 150 yX0_upperOfProduct, Cond.static yX0_upperOfProduct, Cond.code yX0_upperOfProduct cX0_upperOfProduct 4 (some .int), Cond.methodLink RX0 154 yX0_quotient, Cond.static yX0_quotient, Cond.code yX0_quotient cX0_quotient 4 (some .int), Cond.methodLink RX0 157 yX0_rest, Cond.static yX0_rest, Cond.code yX0_rest cX0_rest 4 (some .int), Cond.methodLink RX0 75 yX0_load, Cond.instanceMethod yX0_load, Cond.selects RX0 yX0_load yX0_load, Cond.code yX0_load cX0_load 4 (some .int), Cond.methodLink RX0 124 yX0_widthOf, Cond.static yX0_widthOf, Cond.code yX0_widthOf cX0_widthOf 1 (some .int), Cond.methodLink RX0 37 yX0_isAddress]
def wsX0_run_r5 : List Cond := [Cond.static yX0_isAddress, Cond.code yX0_isAddress cX0_isAddress 2 (some .boolean), Cond.methodLink RX0 45 yX0_bitsFrom, Cond.instanceMethod yX0_bitsFrom, Cond.selects RX0 yX0_bitsFrom yX0_bitsFrom, Cond.code yX0_bitsFrom cX0_bitsFrom 2 (some .int), Cond.fieldLink RX0 16 "WordMachine" "memory" "[I", Cond.methodLink RX0 165 yX0_bitOffset, Cond.static yX0_bitOffset, Cond.code yX0_bitOffset cX0_bitOffset 1 (some .int), Cond.methodLink RX0 127 yX0_loaded, Cond.static yX0_loaded, Cond.code yX0_loaded cX0_loaded 2 (some .int), Cond.constant RX0 168 (65535), Cond.methodLink RX0 78 yX0_store, Cond.instanceMethod yX0_store, Cond.selects RX0 yX0_store yX0_store, Cond.code yX0_store cX0_store 4 (some .int), Cond.methodLink RX0 130 yX0_storeDistance, Cond.static yX0_storeDistance, Cond.code yX0_storeDistance cX0_storeDistance 1 (some .int), Cond.methodLink RX0 133 yX0_storedBits, Cond.static yX0_storedBits, Cond.code yX0_storedBits cX0_storedBits 1 (some .int)]
def wsX0_run_r6 : List Cond := [Cond.methodLink RX0 41 yX0_replaceBits, Cond.instanceMethod yX0_replaceBits, Cond.selects RX0 yX0_replaceBits yX0_replaceBits, Cond.code yX0_replaceBits cX0_replaceBits 5 none, Cond.methodLink RX0 81 yX0_branch, Cond.instanceMethod yX0_branch, Cond.selects RX0 yX0_branch yX0_branch, Cond.code yX0_branch cX0_branch 3 (some .int), Cond.methodLink RX0 136 yX0_holds, Cond.static yX0_holds, Cond.code yX0_holds cX0_holds 3 (some .boolean), Cond.methodLink RX0 140 yX0_branchDistance, Cond.static yX0_branchDistance, Cond.code yX0_branchDistance cX0_branchDistance 1 (some .int), Cond.methodLink RX0 84 yX0_jumpDistance, Cond.static yX0_jumpDistance, Cond.code yX0_jumpDistance cX0_jumpDistance 1 (some .int), Cond.constant RX0 169 (1044480), Cond.methodLink RX0 87 yX0_jump, Cond.instanceMethod yX0_jump, Cond.selects RX0 yX0_jump yX0_jump, Cond.code yX0_jump cX0_jump 3 (some .int), Cond.methodLink RX0 90 yX0_jumpToRegister, Cond.instanceMethod yX0_jumpToRegister]
def wsX0_run_r7 : List Cond := [Cond.selects RX0 yX0_jumpToRegister yX0_jumpToRegister, Cond.code yX0_jumpToRegister cX0_jumpToRegister 2 (some .int), Cond.methodLink RX0 93 yX0_ask, Cond.instanceMethod yX0_ask, Cond.selects RX0 yX0_ask yX0_ask, Cond.code yX0_ask cX0_ask 2 (some .int)]
def wsX0_run : List Cond := .code yX0_run cX0_run 4 (some .int) :: ((wsX0_run_r1 ++ (wsX0_run_r2 ++ (wsX0_run_r3 ++ (wsX0_run_r4 ++ (wsX0_run_r5 ++ (wsX0_run_r6 ++ wsX0_run_r7)))))) ++ wsX00)
def wsX0_steps : List Cond := .code yX0_steps cX0_steps 1 (some .int) :: ([.fieldLink RX0 26 "WordMachine" "stepsDone" "I"] ++ wsX00)
def wsX1_init : List Cond := .code yX1_init cX1_init 1 none :: ([.methodLink RX1 1 objectInit, .instanceMethod objectInit, .code objectInit ⟨#[0xb1]⟩ 1 none, .arrayClass .int, .fieldLink RX1 7 "WordMachineModel" "code" "[I", .arrayClass .long, .fieldLink RX1 13 "WordMachineModel" "registers" "[J", .arrayClass .byte, .fieldLink RX1 17 "WordMachineModel" "memory" "[B"] ++ wsX10)
def wsX1_word : List Cond := .code yX1_word cX1_word 2 (some .int) :: ([.fieldLink RX1 21 "WordMachineModel" "words" "I", .fieldLink RX1 7 "WordMachineModel" "code" "[I"] ++ wsX10)
def wsX1_plain : List Cond := .code yX1_plain cX1_plain 2 (some .long) :: ([.constantLong RX1 25 (4294967295)])
def wsX1_signed : List Cond := .code yX1_signed cX1_signed 2 (some .long) :: ([.constantLong RX1 27 (2147483648), .constantLong RX1 29 (4294967296)])
def wsX1_give : List Cond := .code yX1_give cX1_give 4 none :: ([.fieldLink RX1 13 "WordMachineModel" "registers" "[J", .methodLink RX1 31 yX1_plain, .static yX1_plain, .initialized RX1, .code yX1_plain cX1_plain 2 (some .long), .constantLong RX1 25 (4294967295)] ++ wsX10)
def wsX1_put : List Cond := .code yX1_put cX1_put 3 (some .boolean) :: ([.methodLink RX1 35 yX1_give, .instanceMethod yX1_give, .selects RX1 yX1_give yX1_give, .initialized RX1, .code yX1_give cX1_give 4 none, .fieldLink RX1 13 "WordMachineModel" "registers" "[J", .methodLink RX1 31 yX1_plain, .static yX1_plain, .code yX1_plain cX1_plain 2 (some .long), .constantLong RX1 25 (4294967295)] ++ wsX10)
def wsX1_get : List Cond := .code yX1_get cX1_get 2 (some .int) :: ([.fieldLink RX1 13 "WordMachineModel" "registers" "[J"] ++ wsX10)
def wsX1_poke : List Cond := .code yX1_poke cX1_poke 3 (some .boolean) :: ([.fieldLink RX1 17 "WordMachineModel" "memory" "[B"] ++ wsX10)
def wsX1_peek : List Cond := .code yX1_peek cX1_peek 2 (some .int) :: ([.fieldLink RX1 17 "WordMachineModel" "memory" "[B"] ++ wsX10)
def wsX1_go : List Cond := .code yX1_go cX1_go 2 (some .boolean) :: ([.fieldLink RX1 39 "WordMachineModel" "pc" "I"] ++ wsX10)
def wsX1_pc : List Cond := .code yX1_pc cX1_pc 1 (some .int) :: ([.fieldLink RX1 39 "WordMachineModel" "pc" "I"] ++ wsX10)
def wsX1_steps : List Cond := .code yX1_steps cX1_steps 1 (some .int) :: ([.fieldLink RX1 42 "WordMachineModel" "steps" "I"] ++ wsX10)
def wsX1_bits : List Cond := .code yX1_bits cX1_bits 3 (some .int) :: ([.methodLink RX1 31 yX1_plain, .static yX1_plain, .initialized RX1, .code yX1_plain cX1_plain 2 (some .long), .constantLong RX1 25 (4294967295)])
def wsX1_withSign : List Cond := .code yX1_withSign cX1_withSign 2 (some .int) :: ([])
def wsX1_branch : List Cond := .code yX1_branch cX1_branch 4 (some .int) :: ([.fieldLink RX1 56 "WordMachineModel" "t" "I", .fieldLink RX1 59 "WordMachineModel" "x" "J", .fieldLink RX1 63 "WordMachineModel" "y" "J", .fieldLink RX1 39 "WordMachineModel" "pc" "I", .methodLink RX1 93 yX1_signed, .static yX1_signed, .initialized RX1, .code yX1_signed cX1_signed 2 (some .long), .constantLong RX1 27 (2147483648), .constantLong RX1 29 (4294967296), .methodLink RX1 49 yX1_bits, .static yX1_bits, .code yX1_bits cX1_bits 3 (some .int), .methodLink RX1 31 yX1_plain, .static yX1_plain, .code yX1_plain cX1_plain 2 (some .long), .constantLong RX1 25 (4294967295), .methodLink RX1 69 yX1_withSign, .static yX1_withSign, .code yX1_withSign cX1_withSign 2 (some .int)] ++ wsX10)
def wsX1_width : List Cond := .code yX1_width cX1_width 2 (some .int) :: ([.fieldLink RX1 56 "WordMachineModel" "t" "I"] ++ wsX10)
def wsX1_isThere : List Cond := .code yX1_isThere cX1_isThere 4 (some .boolean) :: ([.constantLong RX1 96 (4096)])
def wsX1_load_r1 : List Cond := [Cond.fieldLink RX1 59 "WordMachineModel" "x" "J", Cond.fieldLink RX1 73 "WordMachineModel" "immediate" "I", Cond.fieldLink RX1 17 "WordMachineModel" "memory" "[B", Cond.constantLong RX1 106 (256), Cond.fieldLink RX1 56 "WordMachineModel" "t" "I", Cond.constantLong RX1 108 (2), Cond.fieldLink RX1 53 "WordMachineModel" "d" "I", Cond.methodLink RX1 98 yX1_width, Cond.instanceMethod yX1_width, Cond.selects RX1 yX1_width yX1_width, Cond.initialized RX1, Cond.code yX1_width cX1_width 2 (some .int), Cond.methodLink RX1 31 yX1_plain, Cond.static yX1_plain, Cond.code yX1_plain cX1_plain 2 (some .long), Cond.constantLong RX1 25 (4294967295), Cond.methodLink RX1 102 yX1_isThere, Cond.instanceMethod yX1_isThere, Cond.selects RX1 yX1_isThere yX1_isThere, Cond.code yX1_isThere cX1_isThere 4 (some .boolean), Cond.constantLong RX1 96 (4096), Cond.methodLink RX1 35 yX1_give, Cond.instanceMethod yX1_give, Cond.selects RX1 yX1_give yX1_give]
def wsX1_load_r2 : List Cond := [Cond.code yX1_give cX1_give 4 none, Cond.fieldLink RX1 13 "WordMachineModel" "registers" "[J"]
def wsX1_load : List Cond := .code yX1_load cX1_load 9 (some .int) :: ((wsX1_load_r1 ++ wsX1_load_r2) ++ wsX10)
def wsX1_store : List Cond := .code yX1_store cX1_store 7 (some .int) :: ([.fieldLink RX1 59 "WordMachineModel" "x" "J", .fieldLink RX1 66 "WordMachineModel" "s" "I", .fieldLink RX1 53 "WordMachineModel" "d" "I", .fieldLink RX1 63 "WordMachineModel" "y" "J", .fieldLink RX1 17 "WordMachineModel" "memory" "[B", .constantLong RX1 106 (256), .methodLink RX1 98 yX1_width, .instanceMethod yX1_width, .selects RX1 yX1_width yX1_width, .initialized RX1, .code yX1_width cX1_width 2 (some .int), .fieldLink RX1 56 "WordMachineModel" "t" "I", .methodLink RX1 69 yX1_withSign, .static yX1_withSign, .code yX1_withSign cX1_withSign 2 (some .int), .methodLink RX1 31 yX1_plain, .static yX1_plain, .code yX1_plain cX1_plain 2 (some .long), .constantLong RX1 25 (4294967295), .methodLink RX1 102 yX1_isThere, .instanceMethod yX1_isThere, .selects RX1 yX1_isThere yX1_isThere, .code yX1_isThere cX1_isThere 4 (some .boolean), .constantLong RX1 96 (4096)] ++ wsX10)
def wsX1_power : List Cond := .code yX1_power cX1_power 6 (some .long) :: ([.constantLong RX1 108 (2)])
def wsX1_down : List Cond := .code yX1_down cX1_down 6 (some .long) :: ([])
def wsX1_made : List Cond := .code yX1_made cX1_made 6 (some .long) :: ([.constantLong RX1 118 (32), .methodLink RX1 120 yX1_power, .static yX1_power, .initialized RX1, .code yX1_power cX1_power 6 (some .long), .constantLong RX1 108 (2), .methodLink RX1 93 yX1_signed, .static yX1_signed, .code yX1_signed cX1_signed 2 (some .long), .constantLong RX1 27 (2147483648), .constantLong RX1 29 (4294967296), .methodLink RX1 123 yX1_down, .static yX1_down, .code yX1_down cX1_down 6 (some .long)])
def wsX1_upper : List Cond := .code yX1_upper cX1_upper 13 (some .long) :: ([.fieldLink RX1 59 "WordMachineModel" "x" "J", .constantLong RX1 132 (65536), .fieldLink RX1 63 "WordMachineModel" "y" "J"] ++ wsX10)
def wsX1_product : List Cond := .code yX1_product cX1_product 5 (some .long) :: ([.fieldLink RX1 59 "WordMachineModel" "x" "J", .fieldLink RX1 63 "WordMachineModel" "y" "J", .fieldLink RX1 56 "WordMachineModel" "t" "I", .constantLong RX1 29 (4294967296), .constantLong RX1 130 (-1), .methodLink RX1 93 yX1_signed, .static yX1_signed, .initialized RX1, .code yX1_signed cX1_signed 2 (some .long), .constantLong RX1 27 (2147483648), .methodLink RX1 123 yX1_down, .static yX1_down, .code yX1_down cX1_down 6 (some .long), .methodLink RX1 127 yX1_upper, .instanceMethod yX1_upper, .selects RX1 yX1_upper yX1_upper, .code yX1_upper cX1_upper 13 (some .long), .constantLong RX1 132 (65536)] ++ wsX10)
def wsX1_number_r1 : List Cond := [Cond.fieldLink RX1 53 "WordMachineModel" "d" "I", Cond.constantLong RX1 96 (4096), Cond.fieldLink RX1 39 "WordMachineModel" "pc" "I", Cond.fieldLink RX1 56 "WordMachineModel" "t" "I", Cond.fieldLink RX1 66 "WordMachineModel" "s" "I", Cond.fieldLink RX1 59 "WordMachineModel" "x" "J", Cond.fieldLink RX1 73 "WordMachineModel" "immediate" "I", Cond.fieldLink RX1 63 "WordMachineModel" "y" "J", Cond.methodLink RX1 35 yX1_give, Cond.instanceMethod yX1_give, Cond.selects RX1 yX1_give yX1_give, Cond.initialized RX1, Cond.code yX1_give cX1_give 4 none, Cond.fieldLink RX1 13 "WordMachineModel" "registers" "[J", Cond.methodLink RX1 31 yX1_plain, Cond.static yX1_plain, Cond.code yX1_plain cX1_plain 2 (some .long), Cond.constantLong RX1 25 (4294967295), Cond.methodLink RX1 110 yX1_made, Cond.static yX1_made, Cond.code yX1_made cX1_made 6 (some .long), Cond.constantLong RX1 118 (32), Cond.methodLink RX1 120 yX1_power, Cond.static yX1_power]
def wsX1_number_r2 : List Cond := [Cond.code yX1_power cX1_power 6 (some .long), Cond.constantLong RX1 108 (2), Cond.methodLink RX1 93 yX1_signed, Cond.static yX1_signed, Cond.code yX1_signed cX1_signed 2 (some .long), Cond.constantLong RX1 27 (2147483648), Cond.constantLong RX1 29 (4294967296), Cond.methodLink RX1 123 yX1_down, Cond.static yX1_down, Cond.code yX1_down cX1_down 6 (some .long), Cond.methodLink RX1 114 yX1_product, Cond.instanceMethod yX1_product, Cond.selects RX1 yX1_product yX1_product, Cond.code yX1_product cX1_product 5 (some .long), Cond.constantLong RX1 130 (-1), Cond.methodLink RX1 127 yX1_upper, Cond.instanceMethod yX1_upper, Cond.selects RX1 yX1_upper yX1_upper, Cond.code yX1_upper cX1_upper 13 (some .long), Cond.constantLong RX1 132 (65536)]
def wsX1_number : List Cond := .code yX1_number cX1_number 5 (some .int) :: ((wsX1_number_r1 ++ wsX1_number_r2) ++ wsX10)
def wsX1_work_r1 : List Cond := [Cond.constant RX1 83 (1048576), Cond.fieldLink RX1 53 "WordMachineModel" "d" "I", Cond.fieldLink RX1 39 "WordMachineModel" "pc" "I", Cond.fieldLink RX1 56 "WordMachineModel" "t" "I", Cond.fieldLink RX1 59 "WordMachineModel" "x" "J", Cond.fieldLink RX1 73 "WordMachineModel" "immediate" "I", Cond.methodLink RX1 79 yX1_branch, Cond.instanceMethod yX1_branch, Cond.selects RX1 yX1_branch yX1_branch, Cond.initialized RX1, Cond.code yX1_branch cX1_branch 4 (some .int), Cond.fieldLink RX1 63 "WordMachineModel" "y" "J", Cond.methodLink RX1 93 yX1_signed, Cond.static yX1_signed, Cond.code yX1_signed cX1_signed 2 (some .long), Cond.constantLong RX1 27 (2147483648), Cond.constantLong RX1 29 (4294967296), Cond.methodLink RX1 49 yX1_bits, Cond.static yX1_bits, Cond.code yX1_bits cX1_bits 3 (some .int), Cond.methodLink RX1 31 yX1_plain, Cond.static yX1_plain, Cond.code yX1_plain cX1_plain 2 (some .long), Cond.constantLong RX1 25 (4294967295)]
def wsX1_work_r2 : List Cond := [Cond.methodLink RX1 69 yX1_withSign, Cond.static yX1_withSign, Cond.code yX1_withSign cX1_withSign 2 (some .int), Cond.methodLink RX1 35 yX1_give, Cond.instanceMethod yX1_give, Cond.selects RX1 yX1_give yX1_give, Cond.code yX1_give cX1_give 4 none, Cond.fieldLink RX1 13 "WordMachineModel" "registers" "[J", Cond.methodLink RX1 84 yX1_load, Cond.instanceMethod yX1_load, Cond.selects RX1 yX1_load yX1_load, Cond.code yX1_load cX1_load 9 (some .int), Cond.fieldLink RX1 17 "WordMachineModel" "memory" "[B", Cond.constantLong RX1 106 (256), Cond.constantLong RX1 108 (2), Cond.methodLink RX1 98 yX1_width, Cond.instanceMethod yX1_width, Cond.selects RX1 yX1_width yX1_width, Cond.code yX1_width cX1_width 2 (some .int), Cond.methodLink RX1 102 yX1_isThere, Cond.instanceMethod yX1_isThere, Cond.selects RX1 yX1_isThere yX1_isThere, Cond.code yX1_isThere cX1_isThere 4 (some .boolean), Cond.constantLong RX1 96 (4096)]
def wsX1_work_r3 : List Cond := [Cond.methodLink RX1 87 yX1_store, Cond.instanceMethod yX1_store, Cond.selects RX1 yX1_store yX1_store, Cond.code yX1_store cX1_store 7 (some .int), Cond.fieldLink RX1 66 "WordMachineModel" "s" "I", Cond.methodLink RX1 90 yX1_number, Cond.instanceMethod yX1_number, Cond.selects RX1 yX1_number yX1_number, Cond.code yX1_number cX1_number 5 (some .int), Cond.methodLink RX1 110 yX1_made, Cond.static yX1_made, Cond.code yX1_made cX1_made 6 (some .long), Cond.constantLong RX1 118 (32), Cond.methodLink RX1 120 yX1_power, Cond.static yX1_power, Cond.code yX1_power cX1_power 6 (some .long), Cond.methodLink RX1 123 yX1_down, Cond.static yX1_down, Cond.code yX1_down cX1_down 6 (some .long), Cond.methodLink RX1 114 yX1_product, Cond.instanceMethod yX1_product, Cond.selects RX1 yX1_product yX1_product, Cond.code yX1_product cX1_product 5 (some .long), Cond.constantLong RX1 130 (-1)]
def wsX1_work_r4 : List Cond := [Cond.methodLink RX1 127 yX1_upper, Cond.instanceMethod yX1_upper, Cond.selects RX1 yX1_upper yX1_upper, Cond.code yX1_upper cX1_upper 13 (some .long), Cond.constantLong RX1 132 (65536)]
def wsX1_work : List Cond := .code yX1_work cX1_work 4 (some .int) :: ((wsX1_work_r1 ++ (wsX1_work_r2 ++ (wsX1_work_r3 ++ wsX1_work_r4))) ++ wsX10)
def wsX1_step_r1 : List Cond := [Cond.fieldLink RX1 39 "WordMachineModel" "pc" "I", Cond.fieldLink RX1 21 "WordMachineModel" "words" "I", Cond.fieldLink RX1 7 "WordMachineModel" "code" "[I", Cond.fieldLink RX1 42 "WordMachineModel" "steps" "I", Cond.fieldLink RX1 53 "WordMachineModel" "d" "I", Cond.fieldLink RX1 56 "WordMachineModel" "t" "I", Cond.fieldLink RX1 13 "WordMachineModel" "registers" "[J", Cond.fieldLink RX1 59 "WordMachineModel" "x" "J", Cond.fieldLink RX1 63 "WordMachineModel" "y" "J", Cond.fieldLink RX1 66 "WordMachineModel" "s" "I", Cond.fieldLink RX1 73 "WordMachineModel" "immediate" "I", Cond.methodLink RX1 49 yX1_bits, Cond.static yX1_bits, Cond.initialized RX1, Cond.code yX1_bits cX1_bits 3 (some .int), Cond.methodLink RX1 31 yX1_plain, Cond.static yX1_plain, Cond.code yX1_plain cX1_plain 2 (some .long), Cond.constantLong RX1 25 (4294967295), Cond.methodLink RX1 69 yX1_withSign, Cond.static yX1_withSign, Cond.code yX1_withSign cX1_withSign 2 (some .int), Cond.methodLink RX1 76 yX1_work, Cond.instanceMethod yX1_work]
def wsX1_step_r2 : List Cond := [Cond.selects RX1 yX1_work yX1_work, Cond.code yX1_work cX1_work 4 (some .int), Cond.constant RX1 83 (1048576), Cond.methodLink RX1 79 yX1_branch, Cond.instanceMethod yX1_branch, Cond.selects RX1 yX1_branch yX1_branch, Cond.code yX1_branch cX1_branch 4 (some .int), Cond.methodLink RX1 93 yX1_signed, Cond.static yX1_signed, Cond.code yX1_signed cX1_signed 2 (some .long), Cond.constantLong RX1 27 (2147483648), Cond.constantLong RX1 29 (4294967296), Cond.methodLink RX1 35 yX1_give, Cond.instanceMethod yX1_give, Cond.selects RX1 yX1_give yX1_give, Cond.code yX1_give cX1_give 4 none, Cond.methodLink RX1 84 yX1_load, Cond.instanceMethod yX1_load, Cond.selects RX1 yX1_load yX1_load, Cond.code yX1_load cX1_load 9 (some .int), Cond.fieldLink RX1 17 "WordMachineModel" "memory" "[B", Cond.constantLong RX1 106 (256), Cond.constantLong RX1 108 (2), Cond.methodLink RX1 98 yX1_width]
def wsX1_step_r3 : List Cond := [Cond.instanceMethod yX1_width, Cond.selects RX1 yX1_width yX1_width, Cond.code yX1_width cX1_width 2 (some .int), Cond.methodLink RX1 102 yX1_isThere, Cond.instanceMethod yX1_isThere, Cond.selects RX1 yX1_isThere yX1_isThere, Cond.code yX1_isThere cX1_isThere 4 (some .boolean), Cond.constantLong RX1 96 (4096), Cond.methodLink RX1 87 yX1_store, Cond.instanceMethod yX1_store, Cond.selects RX1 yX1_store yX1_store, Cond.code yX1_store cX1_store 7 (some .int), Cond.methodLink RX1 90 yX1_number, Cond.instanceMethod yX1_number, Cond.selects RX1 yX1_number yX1_number, Cond.code yX1_number cX1_number 5 (some .int), Cond.methodLink RX1 110 yX1_made, Cond.static yX1_made, Cond.code yX1_made cX1_made 6 (some .long), Cond.constantLong RX1 118 (32), Cond.methodLink RX1 120 yX1_power, Cond.static yX1_power, Cond.code yX1_power cX1_power 6 (some .long), Cond.methodLink RX1 123 yX1_down]
def wsX1_step_r4 : List Cond := [Cond.static yX1_down, Cond.code yX1_down cX1_down 6 (some .long), Cond.methodLink RX1 114 yX1_product, Cond.instanceMethod yX1_product, Cond.selects RX1 yX1_product yX1_product, Cond.code yX1_product cX1_product 5 (some .long), Cond.constantLong RX1 130 (-1), Cond.methodLink RX1 127 yX1_upper, Cond.instanceMethod yX1_upper, Cond.selects RX1 yX1_upper yX1_upper, Cond.code yX1_upper cX1_upper 13 (some .long), Cond.constantLong RX1 132 (65536)]
def wsX1_step : List Cond := .code yX1_step cX1_step 3 (some .int) :: ((wsX1_step_r1 ++ (wsX1_step_r2 ++ (wsX1_step_r3 ++ wsX1_step_r4))) ++ wsX10)
def wsX1_run_r1 : List Cond := [Cond.methodLink RX1 45 yX1_step, Cond.instanceMethod yX1_step, Cond.selects RX1 yX1_step yX1_step, Cond.initialized RX1, Cond.code yX1_step cX1_step 3 (some .int), Cond.fieldLink RX1 39 "WordMachineModel" "pc" "I", Cond.fieldLink RX1 21 "WordMachineModel" "words" "I", Cond.fieldLink RX1 7 "WordMachineModel" "code" "[I", Cond.fieldLink RX1 42 "WordMachineModel" "steps" "I", Cond.fieldLink RX1 53 "WordMachineModel" "d" "I", Cond.fieldLink RX1 56 "WordMachineModel" "t" "I", Cond.fieldLink RX1 13 "WordMachineModel" "registers" "[J", Cond.fieldLink RX1 59 "WordMachineModel" "x" "J", Cond.fieldLink RX1 63 "WordMachineModel" "y" "J", Cond.fieldLink RX1 66 "WordMachineModel" "s" "I", Cond.fieldLink RX1 73 "WordMachineModel" "immediate" "I", Cond.methodLink RX1 49 yX1_bits, Cond.static yX1_bits, Cond.code yX1_bits cX1_bits 3 (some .int), Cond.methodLink RX1 31 yX1_plain, Cond.static yX1_plain, Cond.code yX1_plain cX1_plain 2 (some .long), Cond.constantLong RX1 25 (4294967295), Cond.methodLink RX1 69 yX1_withSign]
def wsX1_run_r2 : List Cond := [Cond.static yX1_withSign, Cond.code yX1_withSign cX1_withSign 2 (some .int), Cond.methodLink RX1 76 yX1_work, Cond.instanceMethod yX1_work, Cond.selects RX1 yX1_work yX1_work, Cond.code yX1_work cX1_work 4 (some .int), Cond.constant RX1 83 (1048576), Cond.methodLink RX1 79 yX1_branch, Cond.instanceMethod yX1_branch, Cond.selects RX1 yX1_branch yX1_branch, Cond.code yX1_branch cX1_branch 4 (some .int), Cond.methodLink RX1 93 yX1_signed, Cond.static yX1_signed, Cond.code yX1_signed cX1_signed 2 (some .long), Cond.constantLong RX1 27 (2147483648), Cond.constantLong RX1 29 (4294967296), Cond.methodLink RX1 35 yX1_give, Cond.instanceMethod yX1_give, Cond.selects RX1 yX1_give yX1_give, Cond.code yX1_give cX1_give 4 none, Cond.methodLink RX1 84 yX1_load, Cond.instanceMethod yX1_load, Cond.selects RX1 yX1_load yX1_load, Cond.code yX1_load cX1_load 9 (some .int)]
def wsX1_run_r3 : List Cond := [Cond.fieldLink RX1 17 "WordMachineModel" "memory" "[B", Cond.constantLong RX1 106 (256), Cond.constantLong RX1 108 (2), Cond.methodLink RX1 98 yX1_width, Cond.instanceMethod yX1_width, Cond.selects RX1 yX1_width yX1_width, Cond.code yX1_width cX1_width 2 (some .int), Cond.methodLink RX1 102 yX1_isThere, Cond.instanceMethod yX1_isThere, Cond.selects RX1 yX1_isThere yX1_isThere, Cond.code yX1_isThere cX1_isThere 4 (some .boolean), Cond.constantLong RX1 96 (4096), Cond.methodLink RX1 87 yX1_store, Cond.instanceMethod yX1_store, Cond.selects RX1 yX1_store yX1_store, Cond.code yX1_store cX1_store 7 (some .int), Cond.methodLink RX1 90 yX1_number, Cond.instanceMethod yX1_number, Cond.selects RX1 yX1_number yX1_number, Cond.code yX1_number cX1_number 5 (some .int), Cond.methodLink RX1 110 yX1_made, Cond.static yX1_made, Cond.code yX1_made cX1_made 6 (some .long), Cond.constantLong RX1 118 (32)]
def wsX1_run_r4 : List Cond := [Cond.methodLink RX1 120 yX1_power, Cond.static yX1_power, Cond.code yX1_power cX1_power 6 (some .long), Cond.methodLink RX1 123 yX1_down, Cond.static yX1_down, Cond.code yX1_down cX1_down 6 (some .long), Cond.methodLink RX1 114 yX1_product, Cond.instanceMethod yX1_product, Cond.selects RX1 yX1_product yX1_product, Cond.code yX1_product cX1_product 5 (some .long), Cond.constantLong RX1 130 (-1), Cond.methodLink RX1 127 yX1_upper, Cond.instanceMethod yX1_upper, Cond.selects RX1 yX1_upper yX1_upper, Cond.code yX1_upper cX1_upper 13 (some .long), Cond.constantLong RX1 132 (65536)]
def wsX1_run : List Cond := .code yX1_run cX1_run 4 (some .int) :: ((wsX1_run_r1 ++ (wsX1_run_r2 ++ (wsX1_run_r3 ++ wsX1_run_r4))) ++ wsX10)
def wsL_law_r1 : List Cond := [Cond.classLink RL 7 RX0, Cond.instantiable RX0 6, Cond.initialized RX0, Cond.classLink RL 10 RX1, Cond.instantiable RX1 12, Cond.initialized RX1, Cond.methodLink RL 9 yX0_init, Cond.instanceMethod yX0_init, Cond.code yX0_init cX0_init 1 none, Cond.methodLink RX0 1 objectInit, Cond.instanceMethod objectInit, Cond.code objectInit ⟨#[0xb1]⟩ 1 none, Cond.arrayClass .int, Cond.fieldLink RX0 9 "WordMachine" "code" "[I", Cond.fieldLink RX0 13 "WordMachine" "registers" "[I", Cond.fieldLink RX0 16 "WordMachine" "memory" "[I", Cond.fieldLink RX0 19 "WordMachine" "wordCount" "I", Cond.fieldLink RX0 23 "WordMachine" "pc" "I", Cond.fieldLink RX0 26 "WordMachine" "stepsDone" "I", Cond.methodLink RL 12 yX1_init, Cond.instanceMethod yX1_init, Cond.code yX1_init cX1_init 1 none, Cond.methodLink RX1 1 objectInit, Cond.fieldLink RX1 7 "WordMachineModel" "code" "[I"]
def wsL_law_r2 : List Cond := [Cond.arrayClass .long, Cond.fieldLink RX1 13 "WordMachineModel" "registers" "[J", Cond.arrayClass .byte, Cond.fieldLink RX1 17 "WordMachineModel" "memory" "[B", Cond.methodLink RL 13 yX0_word, Cond.instanceMethod yX0_word, Cond.selects RX0 yX0_word yX0_word, Cond.code yX0_word cX0_word 2 (some .int), Cond.methodLink RL 17 yX1_word, Cond.instanceMethod yX1_word, Cond.selects RX1 yX1_word yX1_word, Cond.code yX1_word cX1_word 2 (some .int), Cond.fieldLink RX1 21 "WordMachineModel" "words" "I", Cond.methodLink RL 18 yX0_put, Cond.instanceMethod yX0_put, Cond.selects RX0 yX0_put yX0_put, Cond.code yX0_put cX0_put 3 (some .boolean), Cond.methodLink RX0 29 yX0_isRegister, Cond.static yX0_isRegister, Cond.code yX0_isRegister cX0_isRegister 1 (some .boolean), Cond.methodLink RX0 33 yX0_setRegister, Cond.instanceMethod yX0_setRegister, Cond.selects RX0 yX0_setRegister yX0_setRegister, Cond.code yX0_setRegister cX0_setRegister 3 none]
def wsL_law_r3 : List Cond := [Cond.methodLink RL 22 yX1_put, Cond.instanceMethod yX1_put, Cond.selects RX1 yX1_put yX1_put, Cond.code yX1_put cX1_put 3 (some .boolean), Cond.methodLink RX1 35 yX1_give, Cond.instanceMethod yX1_give, Cond.selects RX1 yX1_give yX1_give, Cond.code yX1_give cX1_give 4 none, Cond.methodLink RX1 31 yX1_plain, Cond.static yX1_plain, Cond.code yX1_plain cX1_plain 2 (some .long), Cond.constantLong RX1 25 (4294967295), Cond.methodLink RL 23 yX0_get, Cond.instanceMethod yX0_get, Cond.selects RX0 yX0_get yX0_get, Cond.code yX0_get cX0_get 2 (some .int), Cond.methodLink RL 26 yX1_get, Cond.instanceMethod yX1_get, Cond.selects RX1 yX1_get yX1_get, Cond.code yX1_get cX1_get 2 (some .int), Cond.methodLink RL 27 yX0_poke, Cond.instanceMethod yX0_poke, Cond.selects RX0 yX0_poke yX0_poke, Cond.code yX0_poke cX0_poke 3 (some .boolean)]
def wsL_law_r4 : List Cond := [Cond.methodLink RX0 37 yX0_isAddress, Cond.static yX0_isAddress, Cond.code yX0_isAddress cX0_isAddress 2 (some .boolean), Cond.methodLink RX0 49 yX0_isMultiple, Cond.static yX0_isMultiple, Cond.code yX0_isMultiple cX0_isMultiple 2 (some .boolean), Cond.methodLink RX0 41 yX0_replaceBits, Cond.instanceMethod yX0_replaceBits, Cond.selects RX0 yX0_replaceBits yX0_replaceBits, Cond.code yX0_replaceBits cX0_replaceBits 5 none, Cond.methodLink RX0 165 yX0_bitOffset, Cond.static yX0_bitOffset, Cond.code yX0_bitOffset cX0_bitOffset 1 (some .int), Cond.methodLink RL 30 yX1_poke, Cond.instanceMethod yX1_poke, Cond.selects RX1 yX1_poke yX1_poke, Cond.code yX1_poke cX1_poke 3 (some .boolean), Cond.methodLink RL 31 yX0_peek, Cond.instanceMethod yX0_peek, Cond.selects RX0 yX0_peek yX0_peek, Cond.code yX0_peek cX0_peek 2 (some .int), Cond.methodLink RX0 45 yX0_bitsFrom, Cond.instanceMethod yX0_bitsFrom, Cond.selects RX0 yX0_bitsFrom yX0_bitsFrom]
def wsL_law_r5 : List Cond := [Cond.code yX0_bitsFrom cX0_bitsFrom 2 (some .int), Cond.methodLink RL 34 yX1_peek, Cond.instanceMethod yX1_peek, Cond.selects RX1 yX1_peek yX1_peek, Cond.code yX1_peek cX1_peek 2 (some .int), Cond.methodLink RL 35 yX0_go, Cond.instanceMethod yX0_go, Cond.selects RX0 yX0_go yX0_go, Cond.code yX0_go cX0_go 2 (some .boolean), Cond.methodLink RL 39 yX1_go, Cond.instanceMethod yX1_go, Cond.selects RX1 yX1_go yX1_go, Cond.code yX1_go cX1_go 2 (some .boolean), Cond.fieldLink RX1 39 "WordMachineModel" "pc" "I", Cond.methodLink RL 40 yX0_pc, Cond.instanceMethod yX0_pc, Cond.selects RX0 yX0_pc yX0_pc, Cond.code yX0_pc cX0_pc 1 (some .int), Cond.methodLink RL 44 yX1_pc, Cond.instanceMethod yX1_pc, Cond.selects RX1 yX1_pc yX1_pc, Cond.code yX1_pc cX1_pc 1 (some .int), Cond.methodLink RL 45 yX0_run, Cond.instanceMethod yX0_run]
def wsL_law_r6 : List Cond := [Cond.selects RX0 yX0_run yX0_run, Cond.code yX0_run cX0_run 4 (some .int), Cond.methodLink RX0 52 yX0_step, Cond.instanceMethod yX0_step, Cond.selects RX0 yX0_step yX0_step, Cond.code yX0_step cX0_step 2 (some .int), Cond.methodLink RX0 56 yX0_isPlaceOfWord, Cond.instanceMethod yX0_isPlaceOfWord, Cond.selects RX0 yX0_isPlaceOfWord yX0_isPlaceOfWord, Cond.code yX0_isPlaceOfWord cX0_isPlaceOfWord 2 (some .boolean), Cond.methodLink RX0 59 yX0_perform, Cond.instanceMethod yX0_perform, Cond.selects RX0 yX0_perform yX0_perform, Cond.code yX0_perform cX0_perform 2 (some .int), Cond.methodLink RX0 62 yX0_fieldOp, Cond.static yX0_fieldOp, Cond.code yX0_fieldOp cX0_fieldOp 1 (some .int), Cond.methodLink RX0 65 yX0_calculateWithNumber, Cond.instanceMethod yX0_calculateWithNumber, Cond.selects RX0 yX0_calculateWithNumber yX0_calculateWithNumber, Cond.code yX0_calculateWithNumber cX0_calculateWithNumber 4 (some .int), Cond.methodLink RX0 96 yX0_fieldT, Cond.static yX0_fieldT, Cond.code yX0_fieldT cX0_fieldT 1 (some .int)]
def wsL_law_r7 : List Cond := [Cond.methodLink RX0 99 yX0_valueX, Cond.instanceMethod yX0_valueX, Cond.selects RX0 yX0_valueX yX0_valueX, Cond.code yX0_valueX cX0_valueX 2 (some .int), Cond.methodLink RX0 162 yX0_fieldX, Cond.static yX0_fieldX, Cond.code yX0_fieldX cX0_fieldX 1 (some .int), Cond.methodLink RX0 102 yX0_numberI, Cond.static yX0_numberI, Cond.code yX0_numberI cX0_numberI 1 (some .int), Cond.methodLink RX0 105 yX0_plain, Cond.static yX0_plain, Cond.code yX0_plain cX0_plain 3 (some .int), Cond.methodLink RX0 146 yX0_unsigned, Cond.static yX0_unsigned, Cond.code yX0_unsigned cX0_unsigned 1 (some .long), Cond.constantLong RX0 160 (4294967295), Cond.methodLink RX0 71 yX0_tell, Cond.instanceMethod yX0_tell, Cond.selects RX0 yX0_tell yX0_tell, Cond.code yX0_tell cX0_tell 3 (some .int), Cond.methodLink RX0 143 yX0_fieldD, Cond.static yX0_fieldD, Cond.code yX0_fieldD cX0_fieldD 1 (some .int)]
def wsL_law_r8 : List Cond := [Cond.methodLink RX0 109 yX0_fieldS, Cond.static yX0_fieldS, Cond.code yX0_fieldS cX0_fieldS 1 (some .int), Cond.methodLink RX0 112 yX0_fieldY, Cond.static yX0_fieldY, Cond.code yX0_fieldY cX0_fieldY 1 (some .int), Cond.methodLink RX0 115 yX0_movedRightWithSign, Cond.static yX0_movedRightWithSign, Cond.code yX0_movedRightWithSign cX0_movedRightWithSign 2 (some .int), Cond.methodLink RX0 68 yX0_calculateWithRegister, Cond.instanceMethod yX0_calculateWithRegister, Cond.selects RX0 yX0_calculateWithRegister yX0_calculateWithRegister, Cond.code yX0_calculateWithRegister cX0_calculateWithRegister 5 (some .int), Cond.methodLink RX0 118 yX0_valueY, Cond.instanceMethod yX0_valueY, Cond.selects RX0 yX0_valueY yX0_valueY, Cond.code yX0_valueY cX0_valueY 2 (some .int), Cond.methodLink RX0 121 yX0_productOrQuotient, Cond.static yX0_productOrQuotient, Cond.code yX0_productOrQuotient cX0_productOrQuotient 3 (some .int), Cond.methodLink RX0 150 yX0_upperOfProduct, Cond.static yX0_upperOfProduct, Cond.code yX0_upperOfProduct cX0_upperOfProduct 4 (some .int), Cond.methodLink RX0 154 yX0_quotient]
def wsL_law_r9 : List Cond := [Cond.static yX0_quotient, Cond.code yX0_quotient cX0_quotient 4 (some .int), Cond.methodLink RX0 157 yX0_rest, Cond.static yX0_rest, Cond.code yX0_rest cX0_rest 4 (some .int), Cond.methodLink RX0 75 yX0_load, Cond.instanceMethod yX0_load, Cond.selects RX0 yX0_load yX0_load, Cond.code yX0_load cX0_load 4 (some .int), Cond.methodLink RX0 124 yX0_widthOf, Cond.static yX0_widthOf, Cond.code yX0_widthOf cX0_widthOf 1 (some .int), Cond.methodLink RX0 127 yX0_loaded, Cond.static yX0_loaded, Cond.code yX0_loaded cX0_loaded 2 (some .int), Cond.constant RX0 168 (65535), Cond.methodLink RX0 78 yX0_store, Cond.instanceMethod yX0_store, Cond.selects RX0 yX0_store yX0_store, Cond.code yX0_store cX0_store 4 (some .int), Cond.methodLink RX0 130 yX0_storeDistance, Cond.static yX0_storeDistance, Cond.code yX0_storeDistance cX0_storeDistance 1 (some .int), Cond.methodLink RX0 133 yX0_storedBits]
def wsL_law_r10 : List Cond := [Cond.static yX0_storedBits, Cond.code yX0_storedBits cX0_storedBits 1 (some .int), Cond.methodLink RX0 81 yX0_branch, Cond.instanceMethod yX0_branch, Cond.selects RX0 yX0_branch yX0_branch, Cond.code yX0_branch cX0_branch 3 (some .int), Cond.methodLink RX0 136 yX0_holds, Cond.static yX0_holds, Cond.code yX0_holds cX0_holds 3 (some .boolean), Cond.methodLink RX0 140 yX0_branchDistance, Cond.static yX0_branchDistance, Cond.code yX0_branchDistance cX0_branchDistance 1 (some .int), Cond.methodLink RX0 84 yX0_jumpDistance, Cond.static yX0_jumpDistance, Cond.code yX0_jumpDistance cX0_jumpDistance 1 (some .int), Cond.constant RX0 169 (1044480), Cond.methodLink RX0 87 yX0_jump, Cond.instanceMethod yX0_jump, Cond.selects RX0 yX0_jump yX0_jump, Cond.code yX0_jump cX0_jump 3 (some .int), Cond.methodLink RX0 90 yX0_jumpToRegister, Cond.instanceMethod yX0_jumpToRegister, Cond.selects RX0 yX0_jumpToRegister yX0_jumpToRegister, Cond.code yX0_jumpToRegister cX0_jumpToRegister 2 (some .int)]
def wsL_law_r11 : List Cond := [Cond.methodLink RX0 93 yX0_ask, Cond.instanceMethod yX0_ask, Cond.selects RX0 yX0_ask yX0_ask, Cond.code yX0_ask cX0_ask 2 (some .int), Cond.methodLink RL 48 yX1_run, Cond.instanceMethod yX1_run, Cond.selects RX1 yX1_run yX1_run, Cond.code yX1_run cX1_run 4 (some .int), Cond.methodLink RX1 45 yX1_step, Cond.instanceMethod yX1_step, Cond.selects RX1 yX1_step yX1_step, Cond.code yX1_step cX1_step 3 (some .int), Cond.fieldLink RX1 42 "WordMachineModel" "steps" "I", Cond.fieldLink RX1 53 "WordMachineModel" "d" "I", Cond.fieldLink RX1 56 "WordMachineModel" "t" "I", Cond.fieldLink RX1 59 "WordMachineModel" "x" "J", Cond.fieldLink RX1 63 "WordMachineModel" "y" "J", Cond.fieldLink RX1 66 "WordMachineModel" "s" "I", Cond.fieldLink RX1 73 "WordMachineModel" "immediate" "I", Cond.methodLink RX1 49 yX1_bits, Cond.static yX1_bits, Cond.code yX1_bits cX1_bits 3 (some .int), Cond.methodLink RX1 69 yX1_withSign, Cond.static yX1_withSign]
def wsL_law_r12 : List Cond := [Cond.code yX1_withSign cX1_withSign 2 (some .int), Cond.methodLink RX1 76 yX1_work, Cond.instanceMethod yX1_work, Cond.selects RX1 yX1_work yX1_work, Cond.code yX1_work cX1_work 4 (some .int), Cond.constant RX1 83 (1048576), Cond.methodLink RX1 79 yX1_branch, Cond.instanceMethod yX1_branch, Cond.selects RX1 yX1_branch yX1_branch, Cond.code yX1_branch cX1_branch 4 (some .int), Cond.methodLink RX1 93 yX1_signed, Cond.static yX1_signed, Cond.code yX1_signed cX1_signed 2 (some .long), Cond.constantLong RX1 27 (2147483648), Cond.constantLong RX1 29 (4294967296), Cond.methodLink RX1 84 yX1_load, Cond.instanceMethod yX1_load, Cond.selects RX1 yX1_load yX1_load, Cond.code yX1_load cX1_load 9 (some .int), Cond.constantLong RX1 106 (256), Cond.constantLong RX1 108 (2), Cond.methodLink RX1 98 yX1_width, Cond.instanceMethod yX1_width, Cond.selects RX1 yX1_width yX1_width]
def wsL_law_r13 : List Cond := [Cond.code yX1_width cX1_width 2 (some .int), Cond.methodLink RX1 102 yX1_isThere, Cond.instanceMethod yX1_isThere, Cond.selects RX1 yX1_isThere yX1_isThere, Cond.code yX1_isThere cX1_isThere 4 (some .boolean), Cond.constantLong RX1 96 (4096), Cond.methodLink RX1 87 yX1_store, Cond.instanceMethod yX1_store, Cond.selects RX1 yX1_store yX1_store, Cond.code yX1_store cX1_store 7 (some .int), Cond.methodLink RX1 90 yX1_number, Cond.instanceMethod yX1_number, Cond.selects RX1 yX1_number yX1_number, Cond.code yX1_number cX1_number 5 (some .int), Cond.methodLink RX1 110 yX1_made, Cond.static yX1_made, Cond.code yX1_made cX1_made 6 (some .long), Cond.constantLong RX1 118 (32), Cond.methodLink RX1 120 yX1_power, Cond.static yX1_power, Cond.code yX1_power cX1_power 6 (some .long), Cond.methodLink RX1 123 yX1_down, Cond.static yX1_down, Cond.code yX1_down cX1_down 6 (some .long)]
def wsL_law_r14 : List Cond := [Cond.methodLink RX1 114 yX1_product, Cond.instanceMethod yX1_product, Cond.selects RX1 yX1_product yX1_product, Cond.code yX1_product cX1_product 5 (some .long), Cond.constantLong RX1 130 (-1), Cond.methodLink RX1 127 yX1_upper, Cond.instanceMethod yX1_upper, Cond.selects RX1 yX1_upper yX1_upper, Cond.code yX1_upper cX1_upper 13 (some .long), Cond.constantLong RX1 132 (65536), Cond.methodLink RL 49 yX0_steps, Cond.instanceMethod yX0_steps, Cond.selects RX0 yX0_steps yX0_steps, Cond.code yX0_steps cX0_steps 1 (some .int), Cond.methodLink RL 52 yX1_steps, Cond.instanceMethod yX1_steps, Cond.selects RX1 yX1_steps yX1_steps, Cond.code yX1_steps cX1_steps 1 (some .int)]
def wsL_law : List Cond := (wsL_law_r1 ++ (wsL_law_r2 ++ (wsL_law_r3 ++ (wsL_law_r4 ++ (wsL_law_r5 ++ (wsL_law_r6 ++ (wsL_law_r7 ++ (wsL_law_r8 ++ (wsL_law_r9 ++ (wsL_law_r10 ++ (wsL_law_r11 ++ (wsL_law_r12 ++ (wsL_law_r13 ++ wsL_law_r14))))))))))))) ++ wsX00 ++ wsX10 ++ ([] : List Cond)
theorem lin_of (ws : List Cond) {big : List Cond} (ps : List Nat) (hp : ws = ps.filterMap (fun i => big[i]?)) : ∀ w ∈ ws, w ∈ big := by
  intro w hw
  rw [hp] at hw
  obtain ⟨i, -, hi⟩ := List.mem_filterMap.mp hw
  exact List.mem_of_getElem? hi
set_option maxRecDepth 20000 in
theorem lin_1 : ∀ w ∈ wsL_law_r1, w ∈ lw_tbl := fun w h => lin_of wsL_law_r1 [31, 32, 29, 241, 242, 30, 33, 34, 35, 36, 37, 38, 58, 39, 40, 41, 42, 43, 44, 243, 244, 245, 246, 247] (by decide +kernel) w h
set_option maxRecDepth 20000 in
theorem lin_2 : ∀ w ∈ wsL_law_r2, w ∈ lw_tbl := fun w h => lin_of wsL_law_r2 [284, 251, 285, 252, 59, 60, 61, 62, 286, 287, 288, 289, 248, 63, 64, 65, 66, 67, 68, 69, 70, 72, 0, 73] (by decide +kernel) w h
set_option maxRecDepth 20000 in
theorem lin_3 : ∀ w ∈ wsL_law_r3, w ∈ lw_tbl := fun w h => lin_of wsL_law_r3 [290, 291, 292, 293, 294, 296, 17, 297, 298, 299, 300, 301, 74, 75, 76, 77, 302, 303, 304, 305, 78, 79, 80, 81] (by decide +kernel) w h
set_option maxRecDepth 20000 in
theorem lin_4 : ∀ w ∈ wsL_law_r4, w ∈ lw_tbl := fun w h => lin_of wsL_law_r4 [82, 83, 84, 85, 86, 87, 88, 90, 1, 91, 92, 93, 94, 306, 307, 308, 309, 95, 96, 97, 98, 99, 101, 2] (by decide +kernel) w h
set_option maxRecDepth 20000 in
theorem lin_5 : ∀ w ∈ wsL_law_r5, w ∈ lw_tbl := fun w h => lin_of wsL_law_r5 [102, 310, 311, 312, 313, 103, 104, 105, 106, 314, 315, 316, 317, 249, 107, 108, 109, 110, 318, 319, 320, 321, 111, 112] (by decide +kernel) w h
set_option maxRecDepth 20000 in
theorem lin_6 : ∀ w ∈ wsL_law_r6, w ∈ lw_tbl := fun w h => lin_of wsL_law_r6 [113, 114, 115, 117, 3, 118, 119, 121, 4, 122, 123, 125, 5, 126, 127, 128, 129, 130, 132, 6, 133, 134, 135, 136] (by decide +kernel) w h
set_option maxRecDepth 20000 in
theorem lin_7 : ∀ w ∈ wsL_law_r7, w ∈ lw_tbl := fun w h => lin_of wsL_law_r7 [137, 139, 7, 140, 141, 142, 143, 144, 145, 146, 147, 148, 149, 150, 151, 152, 153, 154, 156, 8, 157, 158, 159, 160] (by decide +kernel) w h
set_option maxRecDepth 20000 in
theorem lin_8 : ∀ w ∈ wsL_law_r8, w ∈ lw_tbl := fun w h => lin_of wsL_law_r8 [161, 162, 163, 164, 165, 166, 167, 168, 169, 170, 172, 9, 173, 174, 176, 10, 177, 178, 179, 180, 181, 182, 183, 184] (by decide +kernel) w h
set_option maxRecDepth 20000 in
theorem lin_9 : ∀ w ∈ wsL_law_r9, w ∈ lw_tbl := fun w h => lin_of wsL_law_r9 [185, 186, 187, 188, 189, 190, 192, 11, 193, 194, 195, 196, 197, 198, 199, 200, 201, 203, 12, 204, 205, 206, 207, 208] (by decide +kernel) w h
set_option maxRecDepth 20000 in
theorem lin_10 : ∀ w ∈ wsL_law_r10, w ∈ lw_tbl := fun w h => lin_of wsL_law_r10 [209, 210, 211, 213, 13, 214, 215, 216, 217, 218, 219, 220, 221, 222, 223, 224, 225, 227, 14, 228, 229, 231, 15, 232] (by decide +kernel) w h
set_option maxRecDepth 20000 in
theorem lin_11 : ∀ w ∈ wsL_law_r11, w ∈ lw_tbl := fun w h => lin_of wsL_law_r11 [233, 235, 16, 236, 326, 327, 328, 329, 330, 332, 18, 333, 250, 253, 254, 257, 258, 255, 256, 334, 335, 336, 337, 338] (by decide +kernel) w h
set_option maxRecDepth 20000 in
theorem lin_12 : ∀ w ∈ wsL_law_r12, w ∈ lw_tbl := fun w h => lin_of wsL_law_r12 [339, 340, 342, 19, 343, 353, 344, 346, 20, 347, 348, 349, 350, 351, 352, 354, 356, 21, 357, 367, 368, 358, 360, 22] (by decide +kernel) w h
set_option maxRecDepth 20000 in
theorem lin_13 : ∀ w ∈ wsL_law_r13, w ∈ lw_tbl := fun w h => lin_of wsL_law_r13 [361, 362, 364, 23, 365, 366, 369, 371, 24, 372, 373, 375, 25, 376, 377, 378, 379, 380, 381, 382, 383, 384, 385, 386] (by decide +kernel) w h
set_option maxRecDepth 20000 in
theorem lin_14 : ∀ w ∈ wsL_law_r14, w ∈ lw_tbl := fun w h => lin_of wsL_law_r14 [387, 389, 26, 390, 396, 391, 393, 27, 394, 395, 237, 238, 239, 240, 322, 323, 324, 325] (by decide +kernel) w h
theorem lin_X0 : ∀ w ∈ wsX00, w ∈ lw_tbl := by decide +kernel
theorem lin_X1 : ∀ w ∈ wsX10, w ∈ lw_tbl := by decide +kernel
theorem lin_app {a b big : List Cond} (ha : ∀ w ∈ a, w ∈ big) (hb : ∀ w ∈ b, w ∈ big) : ∀ w ∈ a ++ b, w ∈ big := fun w h => (List.mem_append.mp h).elim (ha w) (hb w)
theorem wsL_law_in : ∀ w ∈ wsL_law, w ∈ lw_tbl := lin_app (lin_app (lin_app (lin_app lin_1 (lin_app lin_2 (lin_app lin_3 (lin_app lin_4 (lin_app lin_5 (lin_app lin_6 (lin_app lin_7 (lin_app lin_8 (lin_app lin_9 (lin_app lin_10 (lin_app lin_11 (lin_app lin_12 (lin_app lin_13 lin_14))))))))))))) lin_X0) lin_X1) (fun w h => absurd h List.not_mem_nil)
theorem inlX0 : ∀ w ∈ wsX00, w ∈ wsL_law := fun _ h => List.mem_append_left _ (List.mem_append_left _ (List.mem_append_right _ h))
theorem inX0 : ∀ w ∈ wsX00, w ∈ lw_tbl := fun w h => wsL_law_in w (inlX0 w h)
theorem inlX1 : ∀ w ∈ wsX10, w ∈ wsL_law := fun _ h => List.mem_append_left _ (List.mem_append_right _ h)
theorem inX1 : ∀ w ∈ wsX10, w ∈ lw_tbl := fun w h => wsL_law_in w (inlX1 w h)
abbrev vwCl : List vw_C := [(RX0, TX0, 6), (RX1, TX1, 12)]
end
section
theorem dX0_init_0 : decode cX0_init 0 = .ok (.aload_n 0, 1) := by decide +kernel
theorem dX0_init_1 : decode cX0_init 1 = .ok (.invokespecial 1, 3) := by decide +kernel
theorem dX0_init_4 : decode cX0_init 4 = .ok (.aload_n 0, 1) := by decide +kernel
theorem dX0_init_5 : decode cX0_init 5 = .ok (.sipush 1024, 3) := by decide +kernel
theorem dX0_init_8 : decode cX0_init 8 = .ok (.newarray .int, 2) := by decide +kernel
theorem dX0_init_10 : decode cX0_init 10 = .ok (.putfield 9, 3) := by decide +kernel
theorem dX0_init_13 : decode cX0_init 13 = .ok (.aload_n 0, 1) := by decide +kernel
theorem dX0_init_14 : decode cX0_init 14 = .ok (.bipush 32, 2) := by decide +kernel
theorem dX0_init_16 : decode cX0_init 16 = .ok (.newarray .int, 2) := by decide +kernel
theorem dX0_init_18 : decode cX0_init 18 = .ok (.putfield 13, 3) := by decide +kernel
theorem dX0_init_21 : decode cX0_init 21 = .ok (.aload_n 0, 1) := by decide +kernel
theorem dX0_init_22 : decode cX0_init 22 = .ok (.sipush 1024, 3) := by decide +kernel
theorem dX0_init_25 : decode cX0_init 25 = .ok (.newarray .int, 2) := by decide +kernel
theorem dX0_init_27 : decode cX0_init 27 = .ok (.putfield 16, 3) := by decide +kernel
theorem dX0_init_30 : decode cX0_init 30 = .ok (.aload_n 0, 1) := by decide +kernel
theorem dX0_init_31 : decode cX0_init 31 = .ok (.iconst 0, 1) := by decide +kernel
theorem dX0_init_32 : decode cX0_init 32 = .ok (.putfield 19, 3) := by decide +kernel
theorem dX0_init_35 : decode cX0_init 35 = .ok (.aload_n 0, 1) := by decide +kernel
theorem dX0_init_36 : decode cX0_init 36 = .ok (.iconst 0, 1) := by decide +kernel
theorem dX0_init_37 : decode cX0_init 37 = .ok (.putfield 23, 3) := by decide +kernel
theorem dX0_init_40 : decode cX0_init 40 = .ok (.aload_n 0, 1) := by decide +kernel
theorem dX0_init_41 : decode cX0_init 41 = .ok (.iconst 0, 1) := by decide +kernel
theorem dX0_init_42 : decode cX0_init 42 = .ok (.putfield 26, 3) := by decide +kernel
theorem dX0_init_45 : decode cX0_init 45 = .ok (.return_, 1) := by decide +kernel
theorem dX0_word_0 : decode cX0_word 0 = .ok (.aload_n 0, 1) := by decide +kernel
theorem dX0_word_1 : decode cX0_word 1 = .ok (.getfield 19, 3) := by decide +kernel
theorem dX0_word_4 : decode cX0_word 4 = .ok (.sipush 1024, 3) := by decide +kernel
theorem dX0_word_7 : decode cX0_word 7 = .ok (.if_icmp .lt 5, 3) := by decide +kernel
theorem dX0_word_10 : decode cX0_word 10 = .ok (.iconst (-1), 1) := by decide +kernel
theorem dX0_word_11 : decode cX0_word 11 = .ok (.ireturn, 1) := by decide +kernel
theorem dX0_word_12 : decode cX0_word 12 = .ok (.aload_n 0, 1) := by decide +kernel
theorem dX0_word_13 : decode cX0_word 13 = .ok (.getfield 9, 3) := by decide +kernel
theorem dX0_word_16 : decode cX0_word 16 = .ok (.aload_n 0, 1) := by decide +kernel
theorem dX0_word_17 : decode cX0_word 17 = .ok (.getfield 19, 3) := by decide +kernel
theorem dX0_word_20 : decode cX0_word 20 = .ok (.iload_n 1, 1) := by decide +kernel
theorem dX0_word_21 : decode cX0_word 21 = .ok (.iastore, 1) := by decide +kernel
theorem dX0_word_22 : decode cX0_word 22 = .ok (.aload_n 0, 1) := by decide +kernel
theorem dX0_word_23 : decode cX0_word 23 = .ok (.dup, 1) := by decide +kernel
theorem dX0_word_24 : decode cX0_word 24 = .ok (.getfield 19, 3) := by decide +kernel
theorem dX0_word_27 : decode cX0_word 27 = .ok (.iconst 1, 1) := by decide +kernel
theorem dX0_word_28 : decode cX0_word 28 = .ok (.iadd, 1) := by decide +kernel
theorem dX0_word_29 : decode cX0_word 29 = .ok (.putfield 19, 3) := by decide +kernel
theorem dX0_word_32 : decode cX0_word 32 = .ok (.aload_n 0, 1) := by decide +kernel
theorem dX0_word_33 : decode cX0_word 33 = .ok (.getfield 19, 3) := by decide +kernel
theorem dX0_word_36 : decode cX0_word 36 = .ok (.ireturn, 1) := by decide +kernel
set_option maxRecDepth 20000 in
theorem ggX0_put_X0_isRegister : GoodIn wsX0_put wsX0_isRegister := goodIn_r _ [4] (by decide +kernel) (by decide +kernel)
set_option maxRecDepth 20000 in
theorem gX0_put_X0_isRegister : GoodIn wsX0_put (va_wsS RX0 29 yX0_isRegister wsX0_isRegister) := goodIn_app (goodIn_of _ (by decide +kernel)) ggX0_put_X0_isRegister
set_option maxRecDepth 20000 in
theorem ggX0_put_X0_setRegister : GoodIn wsX0_put wsX0_setRegister := goodIn_r _ [8, 9, 10, 11, 12, 13, 14, 15] (by decide +kernel) (by decide +kernel)
set_option maxRecDepth 20000 in
theorem gX0_put_X0_setRegister : GoodIn wsX0_put (wsV RX0 33 RX0 yX0_setRegister wsX0_setRegister) := goodIn_app (goodIn_of _ (by decide +kernel)) ggX0_put_X0_setRegister
theorem dX0_put_0 : decode cX0_put 0 = .ok (.iload_n 1, 1) := by decide +kernel
theorem dX0_put_1 : decode cX0_put 1 = .ok (.invokestatic 29, 3) := by decide +kernel
theorem dX0_put_4 : decode cX0_put 4 = .ok (.ifCond .ne 5, 3) := by decide +kernel
theorem dX0_put_7 : decode cX0_put 7 = .ok (.iconst 0, 1) := by decide +kernel
theorem dX0_put_8 : decode cX0_put 8 = .ok (.ireturn, 1) := by decide +kernel
theorem dX0_put_9 : decode cX0_put 9 = .ok (.aload_n 0, 1) := by decide +kernel
theorem dX0_put_10 : decode cX0_put 10 = .ok (.iload_n 1, 1) := by decide +kernel
theorem dX0_put_11 : decode cX0_put 11 = .ok (.iload_n 2, 1) := by decide +kernel
theorem dX0_put_12 : decode cX0_put 12 = .ok (.invokevirtual 33, 3) := by decide +kernel
theorem dX0_put_15 : decode cX0_put 15 = .ok (.iconst 1, 1) := by decide +kernel
theorem dX0_put_16 : decode cX0_put 16 = .ok (.ireturn, 1) := by decide +kernel
set_option maxRecDepth 20000 in
theorem ggX0_get_X0_isRegister : GoodIn wsX0_get wsX0_isRegister := goodIn_r _ [5] (by decide +kernel) (by decide +kernel)
set_option maxRecDepth 20000 in
theorem gX0_get_X0_isRegister : GoodIn wsX0_get (va_wsS RX0 29 yX0_isRegister wsX0_isRegister) := goodIn_app (goodIn_of _ (by decide +kernel)) ggX0_get_X0_isRegister
theorem dX0_get_0 : decode cX0_get 0 = .ok (.iload_n 1, 1) := by decide +kernel
theorem dX0_get_1 : decode cX0_get 1 = .ok (.invokestatic 29, 3) := by decide +kernel
theorem dX0_get_4 : decode cX0_get 4 = .ok (.ifCond .eq 12, 3) := by decide +kernel
theorem dX0_get_7 : decode cX0_get 7 = .ok (.aload_n 0, 1) := by decide +kernel
theorem dX0_get_8 : decode cX0_get 8 = .ok (.getfield 13, 3) := by decide +kernel
theorem dX0_get_11 : decode cX0_get 11 = .ok (.iload_n 1, 1) := by decide +kernel
theorem dX0_get_12 : decode cX0_get 12 = .ok (.iaload, 1) := by decide +kernel
theorem dX0_get_13 : decode cX0_get 13 = .ok (.goto 4, 3) := by decide +kernel
theorem dX0_get_16 : decode cX0_get 16 = .ok (.iconst 0, 1) := by decide +kernel
theorem dX0_get_17 : decode cX0_get 17 = .ok (.ireturn, 1) := by decide +kernel
set_option maxRecDepth 20000 in
theorem ggX0_poke_X0_isAddress : GoodIn wsX0_poke wsX0_isAddress := goodIn_r _ [4, 5, 6, 3, 7] (by decide +kernel) (by decide +kernel)
set_option maxRecDepth 20000 in
theorem gX0_poke_X0_isAddress : GoodIn wsX0_poke (va_wsS RX0 37 yX0_isAddress wsX0_isAddress) := goodIn_app (goodIn_of _ (by decide +kernel)) ggX0_poke_X0_isAddress
set_option maxRecDepth 20000 in
theorem ggX0_poke_X0_replaceBits : GoodIn wsX0_poke wsX0_replaceBits := goodIn_r _ [11, 12, 13, 14, 3, 15, 16, 17, 18, 19, 20, 21] (by decide +kernel) (by decide +kernel)
set_option maxRecDepth 20000 in
theorem gX0_poke_X0_replaceBits : GoodIn wsX0_poke (wsV RX0 41 RX0 yX0_replaceBits wsX0_replaceBits) := goodIn_app (goodIn_of _ (by decide +kernel)) ggX0_poke_X0_replaceBits
theorem dX0_poke_0 : decode cX0_poke 0 = .ok (.iload_n 1, 1) := by decide +kernel
theorem dX0_poke_1 : decode cX0_poke 1 = .ok (.iconst 1, 1) := by decide +kernel
theorem dX0_poke_2 : decode cX0_poke 2 = .ok (.invokestatic 37, 3) := by decide +kernel
theorem dX0_poke_5 : decode cX0_poke 5 = .ok (.ifCond .ne 5, 3) := by decide +kernel
theorem dX0_poke_8 : decode cX0_poke 8 = .ok (.iconst 0, 1) := by decide +kernel
theorem dX0_poke_9 : decode cX0_poke 9 = .ok (.ireturn, 1) := by decide +kernel
theorem dX0_poke_10 : decode cX0_poke 10 = .ok (.aload_n 0, 1) := by decide +kernel
theorem dX0_poke_11 : decode cX0_poke 11 = .ok (.iload_n 1, 1) := by decide +kernel
theorem dX0_poke_12 : decode cX0_poke 12 = .ok (.sipush 255, 3) := by decide +kernel
theorem dX0_poke_15 : decode cX0_poke 15 = .ok (.iload_n 2, 1) := by decide +kernel
theorem dX0_poke_16 : decode cX0_poke 16 = .ok (.invokevirtual 41, 3) := by decide +kernel
theorem dX0_poke_19 : decode cX0_poke 19 = .ok (.iconst 1, 1) := by decide +kernel
theorem dX0_poke_20 : decode cX0_poke 20 = .ok (.ireturn, 1) := by decide +kernel
set_option maxRecDepth 20000 in
theorem ggX0_peek_X0_isAddress : GoodIn wsX0_peek wsX0_isAddress := goodIn_r _ [4, 5, 6, 3, 7] (by decide +kernel) (by decide +kernel)
set_option maxRecDepth 20000 in
theorem gX0_peek_X0_isAddress : GoodIn wsX0_peek (va_wsS RX0 37 yX0_isAddress wsX0_isAddress) := goodIn_app (goodIn_of _ (by decide +kernel)) ggX0_peek_X0_isAddress
set_option maxRecDepth 20000 in
theorem ggX0_peek_X0_bitsFrom : GoodIn wsX0_peek wsX0_bitsFrom := goodIn_r _ [11, 12, 13, 14, 3, 15, 16, 17, 18, 19, 20, 21] (by decide +kernel) (by decide +kernel)
set_option maxRecDepth 20000 in
theorem gX0_peek_X0_bitsFrom : GoodIn wsX0_peek (wsV RX0 45 RX0 yX0_bitsFrom wsX0_bitsFrom) := goodIn_app (goodIn_of _ (by decide +kernel)) ggX0_peek_X0_bitsFrom
theorem dX0_peek_0 : decode cX0_peek 0 = .ok (.iload_n 1, 1) := by decide +kernel
theorem dX0_peek_1 : decode cX0_peek 1 = .ok (.iconst 1, 1) := by decide +kernel
theorem dX0_peek_2 : decode cX0_peek 2 = .ok (.invokestatic 37, 3) := by decide +kernel
theorem dX0_peek_5 : decode cX0_peek 5 = .ok (.ifCond .eq 15, 3) := by decide +kernel
theorem dX0_peek_8 : decode cX0_peek 8 = .ok (.aload_n 0, 1) := by decide +kernel
theorem dX0_peek_9 : decode cX0_peek 9 = .ok (.iload_n 1, 1) := by decide +kernel
theorem dX0_peek_10 : decode cX0_peek 10 = .ok (.invokevirtual 45, 3) := by decide +kernel
theorem dX0_peek_13 : decode cX0_peek 13 = .ok (.sipush 255, 3) := by decide +kernel
theorem dX0_peek_16 : decode cX0_peek 16 = .ok (.iand, 1) := by decide +kernel
theorem dX0_peek_17 : decode cX0_peek 17 = .ok (.goto 4, 3) := by decide +kernel
theorem dX0_peek_20 : decode cX0_peek 20 = .ok (.iconst (-1), 1) := by decide +kernel
theorem dX0_peek_21 : decode cX0_peek 21 = .ok (.ireturn, 1) := by decide +kernel
set_option maxRecDepth 20000 in
theorem ggX0_go_X0_isMultiple : GoodIn wsX0_go wsX0_isMultiple := goodIn_r _ [5] (by decide +kernel) (by decide +kernel)
set_option maxRecDepth 20000 in
theorem gX0_go_X0_isMultiple : GoodIn wsX0_go (va_wsS RX0 49 yX0_isMultiple wsX0_isMultiple) := goodIn_app (goodIn_of _ (by decide +kernel)) ggX0_go_X0_isMultiple
theorem dX0_go_0 : decode cX0_go 0 = .ok (.iload_n 1, 1) := by decide +kernel
theorem dX0_go_1 : decode cX0_go 1 = .ok (.iconst 4, 1) := by decide +kernel
theorem dX0_go_2 : decode cX0_go 2 = .ok (.invokestatic 49, 3) := by decide +kernel
theorem dX0_go_5 : decode cX0_go 5 = .ok (.ifCond .ne 5, 3) := by decide +kernel
theorem dX0_go_8 : decode cX0_go 8 = .ok (.iconst 0, 1) := by decide +kernel
theorem dX0_go_9 : decode cX0_go 9 = .ok (.ireturn, 1) := by decide +kernel
theorem dX0_go_10 : decode cX0_go 10 = .ok (.aload_n 0, 1) := by decide +kernel
theorem dX0_go_11 : decode cX0_go 11 = .ok (.iload_n 1, 1) := by decide +kernel
theorem dX0_go_12 : decode cX0_go 12 = .ok (.putfield 23, 3) := by decide +kernel
theorem dX0_go_15 : decode cX0_go 15 = .ok (.iconst 1, 1) := by decide +kernel
theorem dX0_go_16 : decode cX0_go 16 = .ok (.ireturn, 1) := by decide +kernel
theorem dX0_pc_0 : decode cX0_pc 0 = .ok (.aload_n 0, 1) := by decide +kernel
theorem dX0_pc_1 : decode cX0_pc 1 = .ok (.getfield 23, 3) := by decide +kernel
theorem dX0_pc_4 : decode cX0_pc 4 = .ok (.ireturn, 1) := by decide +kernel
set_option maxRecDepth 20000 in
theorem ggX0_run_X0_step : GoodIn wsX0_run wsX0_step := goodIn_r _ [5, 6, 7, 8, 9, 10, 11, 4, 12, 13, 14, 15, 16, 17, 18, 19, 20, 21, 22, 23, 24, 25, 26, 27, 28, 29, 30, 31, 32, 33, 34, 35, 36, 37, 38, 39, 40, 41, 42, 43, 44, 45, 46, 47, 48, 49, 50, 51, 52, 53, 54, 55, 56, 57, 58, 59, 60, 61, 62, 63, 64, 65, 66, 67, 68, 69, 70, 71, 72, 73, 74, 75, 76, 77, 78, 79, 80, 81, 82, 83, 84, 85, 86, 87, 88, 89, 90, 91, 92, 93, 94, 95, 96, 97, 98, 99, 100, 101, 102, 103, 104, 105, 106, 107, 108, 109, 110, 111, 112, 113, 114, 115, 116, 117, 118, 119, 120, 121, 122, 123, 124, 125, 126, 127, 128, 129, 130, 131, 132, 133, 134, 135, 136, 137, 138, 139, 140, 141, 142, 143, 144, 145, 146, 147, 148, 149, 150, 151, 152, 153, 154, 155, 156] (by decide +kernel) (by decide +kernel)
set_option maxRecDepth 20000 in
theorem gX0_run_X0_step : GoodIn wsX0_run (wsV RX0 52 RX0 yX0_step wsX0_step) := goodIn_app (goodIn_of _ (by decide +kernel)) ggX0_run_X0_step
theorem dX0_run_0 : decode cX0_run 0 = .ok (.iload_n 1, 1) := by decide +kernel
theorem dX0_run_1 : decode cX0_run 1 = .ok (.ifCond .lt 10, 3) := by decide +kernel
theorem dX0_run_4 : decode cX0_run 4 = .ok (.iload_n 1, 1) := by decide +kernel
theorem dX0_run_5 : decode cX0_run 5 = .ok (.sipush 1000, 3) := by decide +kernel
theorem dX0_run_8 : decode cX0_run 8 = .ok (.if_icmp .le 5, 3) := by decide +kernel
theorem dX0_run_11 : decode cX0_run 11 = .ok (.iconst (-1), 1) := by decide +kernel
theorem dX0_run_12 : decode cX0_run 12 = .ok (.ireturn, 1) := by decide +kernel
theorem dX0_run_13 : decode cX0_run 13 = .ok (.iconst 0, 1) := by decide +kernel
theorem dX0_run_14 : decode cX0_run 14 = .ok (.istore_n 2, 1) := by decide +kernel
theorem dX0_run_15 : decode cX0_run 15 = .ok (.iload_n 2, 1) := by decide +kernel
theorem dX0_run_16 : decode cX0_run 16 = .ok (.iload_n 1, 1) := by decide +kernel
theorem dX0_run_17 : decode cX0_run 17 = .ok (.if_icmp .ge 20, 3) := by decide +kernel
theorem dX0_run_20 : decode cX0_run 20 = .ok (.aload_n 0, 1) := by decide +kernel
theorem dX0_run_21 : decode cX0_run 21 = .ok (.invokevirtual 52, 3) := by decide +kernel
theorem dX0_run_24 : decode cX0_run 24 = .ok (.istore_n 3, 1) := by decide +kernel
theorem dX0_run_25 : decode cX0_run 25 = .ok (.iload_n 3, 1) := by decide +kernel
theorem dX0_run_26 : decode cX0_run 26 = .ok (.ifCond .eq 5, 3) := by decide +kernel
theorem dX0_run_29 : decode cX0_run 29 = .ok (.iload_n 3, 1) := by decide +kernel
theorem dX0_run_30 : decode cX0_run 30 = .ok (.ireturn, 1) := by decide +kernel
theorem dX0_run_31 : decode cX0_run 31 = .ok (.iinc 2 1, 3) := by decide +kernel
theorem dX0_run_34 : decode cX0_run 34 = .ok (.goto (-19), 3) := by decide +kernel
theorem dX0_run_37 : decode cX0_run 37 = .ok (.iconst 0, 1) := by decide +kernel
theorem dX0_run_38 : decode cX0_run 38 = .ok (.ireturn, 1) := by decide +kernel
theorem dX0_steps_0 : decode cX0_steps 0 = .ok (.aload_n 0, 1) := by decide +kernel
theorem dX0_steps_1 : decode cX0_steps 1 = .ok (.getfield 26, 3) := by decide +kernel
theorem dX0_steps_4 : decode cX0_steps 4 = .ok (.ireturn, 1) := by decide +kernel
set_option maxRecDepth 20000 in
theorem ggX0_step_X0_isPlaceOfWord : GoodIn wsX0_step wsX0_isPlaceOfWord := goodIn_r _ [8, 9, 10, 11, 7, 12, 147, 148, 149, 150, 151, 152] (by decide +kernel) (by decide +kernel)
set_option maxRecDepth 20000 in
theorem gX0_step_X0_isPlaceOfWord : GoodIn wsX0_step (wsV RX0 56 RX0 yX0_isPlaceOfWord wsX0_isPlaceOfWord) := goodIn_app (goodIn_of _ (by decide +kernel)) ggX0_step_X0_isPlaceOfWord
set_option maxRecDepth 20000 in
theorem ggX0_step_X0_perform : GoodIn wsX0_step wsX0_perform := goodIn_r _ [16, 1, 17, 18, 7, 19, 20, 21, 22, 23, 24, 25, 26, 27, 28, 29, 30, 31, 32, 33, 34, 35, 36, 37, 38, 39, 40, 41, 42, 43, 44, 45, 46, 47, 48, 49, 50, 51, 52, 53, 54, 55, 56, 57, 58, 59, 60, 61, 62, 63, 64, 65, 66, 67, 68, 69, 70, 71, 72, 73, 74, 75, 76, 77, 78, 79, 80, 81, 82, 83, 84, 85, 86, 87, 88, 89, 90, 91, 92, 93, 94, 10, 11, 12, 95, 96, 97, 98, 99, 100, 101, 102, 103, 104, 105, 106, 107, 108, 109, 110, 111, 112, 113, 114, 115, 116, 117, 118, 119, 120, 121, 122, 123, 124, 125, 126, 127, 128, 129, 130, 131, 132, 133, 134, 135, 136, 137, 138, 139, 140, 141, 142, 143, 144, 145, 146, 147, 148, 149, 150, 151, 152] (by decide +kernel) (by decide +kernel)
set_option maxRecDepth 20000 in
theorem gX0_step_X0_perform : GoodIn wsX0_step (wsV RX0 59 RX0 yX0_perform wsX0_perform) := goodIn_app (goodIn_of _ (by decide +kernel)) ggX0_step_X0_perform
theorem dX0_step_0 : decode cX0_step 0 = .ok (.aload_n 0, 1) := by decide +kernel
theorem dX0_step_1 : decode cX0_step 1 = .ok (.aload_n 0, 1) := by decide +kernel
theorem dX0_step_2 : decode cX0_step 2 = .ok (.getfield 23, 3) := by decide +kernel
theorem dX0_step_5 : decode cX0_step 5 = .ok (.invokevirtual 56, 3) := by decide +kernel
theorem dX0_step_8 : decode cX0_step 8 = .ok (.ifCond .ne 5, 3) := by decide +kernel
theorem dX0_step_11 : decode cX0_step 11 = .ok (.iconst 2, 1) := by decide +kernel
theorem dX0_step_12 : decode cX0_step 12 = .ok (.ireturn, 1) := by decide +kernel
theorem dX0_step_13 : decode cX0_step 13 = .ok (.aload_n 0, 1) := by decide +kernel
theorem dX0_step_14 : decode cX0_step 14 = .ok (.aload_n 0, 1) := by decide +kernel
theorem dX0_step_15 : decode cX0_step 15 = .ok (.getfield 9, 3) := by decide +kernel
theorem dX0_step_18 : decode cX0_step 18 = .ok (.aload_n 0, 1) := by decide +kernel
theorem dX0_step_19 : decode cX0_step 19 = .ok (.getfield 23, 3) := by decide +kernel
theorem dX0_step_22 : decode cX0_step 22 = .ok (.iconst 4, 1) := by decide +kernel
theorem dX0_step_23 : decode cX0_step 23 = .ok (.idiv, 1) := by decide +kernel
theorem dX0_step_24 : decode cX0_step 24 = .ok (.iaload, 1) := by decide +kernel
theorem dX0_step_25 : decode cX0_step 25 = .ok (.invokevirtual 59, 3) := by decide +kernel
theorem dX0_step_28 : decode cX0_step 28 = .ok (.istore_n 1, 1) := by decide +kernel
theorem dX0_step_29 : decode cX0_step 29 = .ok (.iload_n 1, 1) := by decide +kernel
theorem dX0_step_30 : decode cX0_step 30 = .ok (.ifCond .eq 8, 3) := by decide +kernel
theorem dX0_step_33 : decode cX0_step 33 = .ok (.iload_n 1, 1) := by decide +kernel
theorem dX0_step_34 : decode cX0_step 34 = .ok (.iconst 1, 1) := by decide +kernel
theorem dX0_step_35 : decode cX0_step 35 = .ok (.if_icmp .ne 13, 3) := by decide +kernel
theorem dX0_step_38 : decode cX0_step 38 = .ok (.aload_n 0, 1) := by decide +kernel
theorem dX0_step_39 : decode cX0_step 39 = .ok (.dup, 1) := by decide +kernel
theorem dX0_step_40 : decode cX0_step 40 = .ok (.getfield 26, 3) := by decide +kernel
theorem dX0_step_43 : decode cX0_step 43 = .ok (.iconst 1, 1) := by decide +kernel
theorem dX0_step_44 : decode cX0_step 44 = .ok (.iadd, 1) := by decide +kernel
theorem dX0_step_45 : decode cX0_step 45 = .ok (.putfield 26, 3) := by decide +kernel
theorem dX0_step_48 : decode cX0_step 48 = .ok (.iload_n 1, 1) := by decide +kernel
theorem dX0_step_49 : decode cX0_step 49 = .ok (.ireturn, 1) := by decide +kernel
set_option maxRecDepth 20000 in
theorem ggX0_perform_X0_fieldOp : GoodIn wsX0_perform wsX0_fieldOp := goodIn_r _ [5] (by decide +kernel) (by decide +kernel)
set_option maxRecDepth 20000 in
theorem gX0_perform_X0_fieldOp : GoodIn wsX0_perform (va_wsS RX0 62 yX0_fieldOp wsX0_fieldOp) := goodIn_app (goodIn_of _ (by decide +kernel)) ggX0_perform_X0_fieldOp
set_option maxRecDepth 20000 in
theorem ggX0_perform_X0_calculateWithNumber : GoodIn wsX0_perform wsX0_calculateWithNumber := goodIn_r _ [9, 10, 11, 4, 12, 13, 14, 15, 16, 17, 18, 19, 20, 21, 22, 23, 24, 25, 26, 27, 28, 29, 30, 31, 32, 33, 34, 1, 35, 36, 37, 38, 39, 40, 41, 42, 43, 44, 45, 46, 47, 48, 49, 50, 136, 137, 138, 139, 140, 141] (by decide +kernel) (by decide +kernel)
set_option maxRecDepth 20000 in
theorem gX0_perform_X0_calculateWithNumber : GoodIn wsX0_perform (wsV RX0 65 RX0 yX0_calculateWithNumber wsX0_calculateWithNumber) := goodIn_app (goodIn_of _ (by decide +kernel)) ggX0_perform_X0_calculateWithNumber
set_option maxRecDepth 20000 in
theorem ggX0_perform_X0_calculateWithRegister : GoodIn wsX0_perform wsX0_calculateWithRegister := goodIn_r _ [54, 10, 11, 4, 12, 13, 14, 15, 16, 17, 18, 19, 20, 55, 56, 57, 58, 45, 46, 47, 42, 43, 44, 24, 25, 26, 27, 28, 29, 30, 31, 32, 33, 34, 1, 35, 36, 37, 38, 39, 40, 41, 59, 60, 61, 62, 63, 64, 65, 66, 67, 68, 69, 70, 48, 49, 50, 136, 137, 138, 139, 140, 141] (by decide +kernel) (by decide +kernel)
set_option maxRecDepth 20000 in
theorem gX0_perform_X0_calculateWithRegister : GoodIn wsX0_perform (wsV RX0 68 RX0 yX0_calculateWithRegister wsX0_calculateWithRegister) := goodIn_app (goodIn_of _ (by decide +kernel)) ggX0_perform_X0_calculateWithRegister
set_option maxRecDepth 20000 in
theorem ggX0_perform_X0_tell : GoodIn wsX0_perform wsX0_tell := goodIn_r _ [34, 1, 35, 36, 4, 37, 38, 39, 40, 41, 17, 136, 137, 138, 139, 140, 141] (by decide +kernel) (by decide +kernel)
set_option maxRecDepth 20000 in
theorem gX0_perform_X0_tell : GoodIn wsX0_perform (wsV RX0 71 RX0 yX0_tell wsX0_tell) := goodIn_app (goodIn_of _ (by decide +kernel)) ggX0_perform_X0_tell
set_option maxRecDepth 20000 in
theorem ggX0_perform_X0_load : GoodIn wsX0_perform wsX0_load := goodIn_r _ [74, 10, 11, 4, 12, 13, 14, 15, 16, 17, 18, 19, 20, 21, 22, 23, 75, 76, 77, 78, 79, 80, 81, 82, 83, 84, 85, 86, 87, 88, 89, 90, 91, 92, 93, 94, 95, 31, 32, 33, 34, 1, 35, 36, 37, 38, 39, 40, 41, 136, 137, 138, 139, 140, 141] (by decide +kernel) (by decide +kernel)
set_option maxRecDepth 20000 in
theorem gX0_perform_X0_load : GoodIn wsX0_perform (wsV RX0 75 RX0 yX0_load wsX0_load) := goodIn_app (goodIn_of _ (by decide +kernel)) ggX0_perform_X0_load
set_option maxRecDepth 20000 in
theorem ggX0_perform_X0_store : GoodIn wsX0_perform wsX0_store := goodIn_r _ [99, 1, 10, 11, 4, 12, 13, 14, 15, 16, 17, 18, 19, 20, 100, 101, 102, 35, 36, 37, 75, 76, 77, 78, 79, 80, 81, 82, 83, 103, 104, 105, 95, 55, 56, 57, 58, 45, 46, 47, 106, 107, 108, 109, 88, 89, 90, 91, 136, 137, 138, 139, 140, 141] (by decide +kernel) (by decide +kernel)
set_option maxRecDepth 20000 in
theorem gX0_perform_X0_store : GoodIn wsX0_perform (wsV RX0 78 RX0 yX0_store wsX0_store) := goodIn_app (goodIn_of _ (by decide +kernel)) ggX0_perform_X0_store
set_option maxRecDepth 20000 in
theorem ggX0_perform_X0_branch : GoodIn wsX0_perform wsX0_branch := goodIn_r _ [113, 1, 10, 11, 4, 12, 13, 14, 15, 16, 17, 18, 19, 20, 55, 56, 57, 58, 45, 46, 47, 114, 115, 116, 27, 28, 29, 30, 117, 118, 119, 136, 137, 138, 139, 140, 141] (by decide +kernel) (by decide +kernel)
set_option maxRecDepth 20000 in
theorem gX0_perform_X0_branch : GoodIn wsX0_perform (wsV RX0 81 RX0 yX0_branch wsX0_branch) := goodIn_app (goodIn_of _ (by decide +kernel)) ggX0_perform_X0_branch
set_option maxRecDepth 20000 in
theorem ggX0_perform_X0_jumpDistance : GoodIn wsX0_perform wsX0_jumpDistance := goodIn_r _ [122, 123] (by decide +kernel) (by decide +kernel)
set_option maxRecDepth 20000 in
theorem gX0_perform_X0_jumpDistance : GoodIn wsX0_perform (va_wsS RX0 84 yX0_jumpDistance wsX0_jumpDistance) := goodIn_app (goodIn_of _ (by decide +kernel)) ggX0_perform_X0_jumpDistance
set_option maxRecDepth 20000 in
theorem ggX0_perform_X0_jump : GoodIn wsX0_perform wsX0_jump := goodIn_r _ [127, 1, 35, 36, 4, 37, 38, 39, 40, 41, 17, 136, 137, 138, 139, 140, 141] (by decide +kernel) (by decide +kernel)
set_option maxRecDepth 20000 in
theorem gX0_perform_X0_jump : GoodIn wsX0_perform (wsV RX0 87 RX0 yX0_jump wsX0_jump) := goodIn_app (goodIn_of _ (by decide +kernel)) ggX0_perform_X0_jump
set_option maxRecDepth 20000 in
theorem ggX0_perform_X0_jumpToRegister : GoodIn wsX0_perform wsX0_jumpToRegister := goodIn_r _ [131, 10, 11, 4, 12, 13, 14, 15, 16, 17, 18, 19, 20, 21, 22, 23, 124, 125, 126, 127, 1, 35, 36, 37, 38, 39, 40, 41, 136, 137, 138, 139, 140, 141] (by decide +kernel) (by decide +kernel)
set_option maxRecDepth 20000 in
theorem gX0_perform_X0_jumpToRegister : GoodIn wsX0_perform (wsV RX0 90 RX0 yX0_jumpToRegister wsX0_jumpToRegister) := goodIn_app (goodIn_of _ (by decide +kernel)) ggX0_perform_X0_jumpToRegister
set_option maxRecDepth 20000 in
theorem ggX0_perform_X0_ask : GoodIn wsX0_perform wsX0_ask := goodIn_r _ [135, 1, 136, 137, 138, 139, 140, 141] (by decide +kernel) (by decide +kernel)
set_option maxRecDepth 20000 in
theorem gX0_perform_X0_ask : GoodIn wsX0_perform (wsV RX0 93 RX0 yX0_ask wsX0_ask) := goodIn_app (goodIn_of _ (by decide +kernel)) ggX0_perform_X0_ask
theorem dX0_perform_0 : decode cX0_perform 0 = .ok (.iload_n 1, 1) := by decide +kernel
theorem dX0_perform_1 : decode cX0_perform 1 = .ok (.invokestatic 62, 3) := by decide +kernel
theorem dX0_perform_4 : decode cX0_perform 4 = .ok (.lookupswitch 176 #[(3, 131), (19, 92), (23, 115), (35, 137), (51, 98), (55, 104), (99, 143), (103, 164), (111, 149), (115, 170)], 92) := by decide +kernel
theorem dX0_perform_96 : decode cX0_perform 96 = .ok (.aload_n 0, 1) := by decide +kernel
theorem dX0_perform_97 : decode cX0_perform 97 = .ok (.iload_n 1, 1) := by decide +kernel
theorem dX0_perform_98 : decode cX0_perform 98 = .ok (.invokevirtual 65, 3) := by decide +kernel
theorem dX0_perform_101 : decode cX0_perform 101 = .ok (.ireturn, 1) := by decide +kernel
theorem dX0_perform_102 : decode cX0_perform 102 = .ok (.aload_n 0, 1) := by decide +kernel
theorem dX0_perform_103 : decode cX0_perform 103 = .ok (.iload_n 1, 1) := by decide +kernel
theorem dX0_perform_104 : decode cX0_perform 104 = .ok (.invokevirtual 68, 3) := by decide +kernel
theorem dX0_perform_107 : decode cX0_perform 107 = .ok (.ireturn, 1) := by decide +kernel
theorem dX0_perform_108 : decode cX0_perform 108 = .ok (.aload_n 0, 1) := by decide +kernel
theorem dX0_perform_109 : decode cX0_perform 109 = .ok (.iload_n 1, 1) := by decide +kernel
theorem dX0_perform_110 : decode cX0_perform 110 = .ok (.iload_n 1, 1) := by decide +kernel
theorem dX0_perform_111 : decode cX0_perform 111 = .ok (.sipush (-4096), 3) := by decide +kernel
theorem dX0_perform_114 : decode cX0_perform 114 = .ok (.iand, 1) := by decide +kernel
theorem dX0_perform_115 : decode cX0_perform 115 = .ok (.invokevirtual 71, 3) := by decide +kernel
theorem dX0_perform_118 : decode cX0_perform 118 = .ok (.ireturn, 1) := by decide +kernel
theorem dX0_perform_119 : decode cX0_perform 119 = .ok (.aload_n 0, 1) := by decide +kernel
theorem dX0_perform_120 : decode cX0_perform 120 = .ok (.iload_n 1, 1) := by decide +kernel
theorem dX0_perform_121 : decode cX0_perform 121 = .ok (.aload_n 0, 1) := by decide +kernel
theorem dX0_perform_122 : decode cX0_perform 122 = .ok (.getfield 23, 3) := by decide +kernel
theorem dX0_perform_125 : decode cX0_perform 125 = .ok (.iload_n 1, 1) := by decide +kernel
theorem dX0_perform_126 : decode cX0_perform 126 = .ok (.sipush (-4096), 3) := by decide +kernel
theorem dX0_perform_129 : decode cX0_perform 129 = .ok (.iand, 1) := by decide +kernel
theorem dX0_perform_130 : decode cX0_perform 130 = .ok (.iadd, 1) := by decide +kernel
theorem dX0_perform_131 : decode cX0_perform 131 = .ok (.invokevirtual 71, 3) := by decide +kernel
theorem dX0_perform_134 : decode cX0_perform 134 = .ok (.ireturn, 1) := by decide +kernel
theorem dX0_perform_135 : decode cX0_perform 135 = .ok (.aload_n 0, 1) := by decide +kernel
theorem dX0_perform_136 : decode cX0_perform 136 = .ok (.iload_n 1, 1) := by decide +kernel
theorem dX0_perform_137 : decode cX0_perform 137 = .ok (.invokevirtual 75, 3) := by decide +kernel
theorem dX0_perform_140 : decode cX0_perform 140 = .ok (.ireturn, 1) := by decide +kernel
theorem dX0_perform_141 : decode cX0_perform 141 = .ok (.aload_n 0, 1) := by decide +kernel
theorem dX0_perform_142 : decode cX0_perform 142 = .ok (.iload_n 1, 1) := by decide +kernel
theorem dX0_perform_143 : decode cX0_perform 143 = .ok (.invokevirtual 78, 3) := by decide +kernel
theorem dX0_perform_146 : decode cX0_perform 146 = .ok (.ireturn, 1) := by decide +kernel
theorem dX0_perform_147 : decode cX0_perform 147 = .ok (.aload_n 0, 1) := by decide +kernel
theorem dX0_perform_148 : decode cX0_perform 148 = .ok (.iload_n 1, 1) := by decide +kernel
theorem dX0_perform_149 : decode cX0_perform 149 = .ok (.invokevirtual 81, 3) := by decide +kernel
theorem dX0_perform_152 : decode cX0_perform 152 = .ok (.ireturn, 1) := by decide +kernel
theorem dX0_perform_153 : decode cX0_perform 153 = .ok (.aload_n 0, 1) := by decide +kernel
theorem dX0_perform_154 : decode cX0_perform 154 = .ok (.iload_n 1, 1) := by decide +kernel
theorem dX0_perform_155 : decode cX0_perform 155 = .ok (.aload_n 0, 1) := by decide +kernel
theorem dX0_perform_156 : decode cX0_perform 156 = .ok (.getfield 23, 3) := by decide +kernel
theorem dX0_perform_159 : decode cX0_perform 159 = .ok (.iload_n 1, 1) := by decide +kernel
theorem dX0_perform_160 : decode cX0_perform 160 = .ok (.invokestatic 84, 3) := by decide +kernel
theorem dX0_perform_163 : decode cX0_perform 163 = .ok (.iadd, 1) := by decide +kernel
theorem dX0_perform_164 : decode cX0_perform 164 = .ok (.invokevirtual 87, 3) := by decide +kernel
theorem dX0_perform_167 : decode cX0_perform 167 = .ok (.ireturn, 1) := by decide +kernel
theorem dX0_perform_168 : decode cX0_perform 168 = .ok (.aload_n 0, 1) := by decide +kernel
theorem dX0_perform_169 : decode cX0_perform 169 = .ok (.iload_n 1, 1) := by decide +kernel
theorem dX0_perform_170 : decode cX0_perform 170 = .ok (.invokevirtual 90, 3) := by decide +kernel
theorem dX0_perform_173 : decode cX0_perform 173 = .ok (.ireturn, 1) := by decide +kernel
theorem dX0_perform_174 : decode cX0_perform 174 = .ok (.aload_n 0, 1) := by decide +kernel
theorem dX0_perform_175 : decode cX0_perform 175 = .ok (.iload_n 1, 1) := by decide +kernel
theorem dX0_perform_176 : decode cX0_perform 176 = .ok (.invokevirtual 93, 3) := by decide +kernel
theorem dX0_perform_179 : decode cX0_perform 179 = .ok (.ireturn, 1) := by decide +kernel
theorem dX0_perform_180 : decode cX0_perform 180 = .ok (.iconst 3, 1) := by decide +kernel
theorem dX0_perform_181 : decode cX0_perform 181 = .ok (.ireturn, 1) := by decide +kernel
set_option maxRecDepth 20000 in
theorem ggX0_calculateWithNumber_X0_fieldT : GoodIn wsX0_calculateWithNumber wsX0_fieldT := goodIn_r _ [4] (by decide +kernel) (by decide +kernel)
set_option maxRecDepth 20000 in
theorem gX0_calculateWithNumber_X0_fieldT : GoodIn wsX0_calculateWithNumber (va_wsS RX0 96 yX0_fieldT wsX0_fieldT) := goodIn_app (goodIn_of _ (by decide +kernel)) ggX0_calculateWithNumber_X0_fieldT
set_option maxRecDepth 20000 in
theorem ggX0_calculateWithNumber_X0_valueX : GoodIn wsX0_calculateWithNumber wsX0_valueX := goodIn_r _ [8, 9, 10, 11, 3, 12, 44, 45, 46, 47, 48, 49] (by decide +kernel) (by decide +kernel)
set_option maxRecDepth 20000 in
theorem gX0_calculateWithNumber_X0_valueX : GoodIn wsX0_calculateWithNumber (wsV RX0 99 RX0 yX0_valueX wsX0_valueX) := goodIn_app (goodIn_of _ (by decide +kernel)) ggX0_calculateWithNumber_X0_valueX
set_option maxRecDepth 20000 in
theorem ggX0_calculateWithNumber_X0_numberI : GoodIn wsX0_calculateWithNumber wsX0_numberI := goodIn_r _ [15] (by decide +kernel) (by decide +kernel)
set_option maxRecDepth 20000 in
theorem gX0_calculateWithNumber_X0_numberI : GoodIn wsX0_calculateWithNumber (va_wsS RX0 102 yX0_numberI wsX0_numberI) := goodIn_app (goodIn_of _ (by decide +kernel)) ggX0_calculateWithNumber_X0_numberI
set_option maxRecDepth 20000 in
theorem ggX0_calculateWithNumber_X0_plain : GoodIn wsX0_calculateWithNumber wsX0_plain := goodIn_r _ [18, 19, 20, 3, 21, 22] (by decide +kernel) (by decide +kernel)
set_option maxRecDepth 20000 in
theorem gX0_calculateWithNumber_X0_plain : GoodIn wsX0_calculateWithNumber (va_wsS RX0 105 yX0_plain wsX0_plain) := goodIn_app (goodIn_of _ (by decide +kernel)) ggX0_calculateWithNumber_X0_plain
set_option maxRecDepth 20000 in
theorem ggX0_calculateWithNumber_X0_tell : GoodIn wsX0_calculateWithNumber wsX0_tell := goodIn_r _ [26, 27, 28, 29, 3, 30, 31, 32, 33, 34, 9, 44, 45, 46, 47, 48, 49] (by decide +kernel) (by decide +kernel)
set_option maxRecDepth 20000 in
theorem gX0_calculateWithNumber_X0_tell : GoodIn wsX0_calculateWithNumber (wsV RX0 71 RX0 yX0_tell wsX0_tell) := goodIn_app (goodIn_of _ (by decide +kernel)) ggX0_calculateWithNumber_X0_tell
set_option maxRecDepth 20000 in
theorem ggX0_calculateWithNumber_X0_fieldS : GoodIn wsX0_calculateWithNumber wsX0_fieldS := goodIn_r _ [37] (by decide +kernel) (by decide +kernel)
set_option maxRecDepth 20000 in
theorem gX0_calculateWithNumber_X0_fieldS : GoodIn wsX0_calculateWithNumber (va_wsS RX0 109 yX0_fieldS wsX0_fieldS) := goodIn_app (goodIn_of _ (by decide +kernel)) ggX0_calculateWithNumber_X0_fieldS
set_option maxRecDepth 20000 in
theorem ggX0_calculateWithNumber_X0_fieldY : GoodIn wsX0_calculateWithNumber wsX0_fieldY := goodIn_r _ [40] (by decide +kernel) (by decide +kernel)
set_option maxRecDepth 20000 in
theorem gX0_calculateWithNumber_X0_fieldY : GoodIn wsX0_calculateWithNumber (va_wsS RX0 112 yX0_fieldY wsX0_fieldY) := goodIn_app (goodIn_of _ (by decide +kernel)) ggX0_calculateWithNumber_X0_fieldY
set_option maxRecDepth 20000 in
theorem ggX0_calculateWithNumber_X0_movedRightWithSign : GoodIn wsX0_calculateWithNumber wsX0_movedRightWithSign := goodIn_r _ [43] (by decide +kernel) (by decide +kernel)
set_option maxRecDepth 20000 in
theorem gX0_calculateWithNumber_X0_movedRightWithSign : GoodIn wsX0_calculateWithNumber (va_wsS RX0 115 yX0_movedRightWithSign wsX0_movedRightWithSign) := goodIn_app (goodIn_of _ (by decide +kernel)) ggX0_calculateWithNumber_X0_movedRightWithSign
theorem dX0_calculateWithNumber_0 : decode cX0_calculateWithNumber 0 = .ok (.iload_n 1, 1) := by decide +kernel
theorem dX0_calculateWithNumber_1 : decode cX0_calculateWithNumber 1 = .ok (.invokestatic 96, 3) := by decide +kernel
theorem dX0_calculateWithNumber_4 : decode cX0_calculateWithNumber 4 = .ok (.istore_n 2, 1) := by decide +kernel
theorem dX0_calculateWithNumber_5 : decode cX0_calculateWithNumber 5 = .ok (.iload_n 2, 1) := by decide +kernel
theorem dX0_calculateWithNumber_6 : decode cX0_calculateWithNumber 6 = .ok (.iconst 1, 1) := by decide +kernel
theorem dX0_calculateWithNumber_7 : decode cX0_calculateWithNumber 7 = .ok (.if_icmp .eq 27, 3) := by decide +kernel
theorem dX0_calculateWithNumber_10 : decode cX0_calculateWithNumber 10 = .ok (.iload_n 2, 1) := by decide +kernel
theorem dX0_calculateWithNumber_11 : decode cX0_calculateWithNumber 11 = .ok (.iconst 5, 1) := by decide +kernel
theorem dX0_calculateWithNumber_12 : decode cX0_calculateWithNumber 12 = .ok (.if_icmp .eq 22, 3) := by decide +kernel
theorem dX0_calculateWithNumber_15 : decode cX0_calculateWithNumber 15 = .ok (.aload_n 0, 1) := by decide +kernel
theorem dX0_calculateWithNumber_16 : decode cX0_calculateWithNumber 16 = .ok (.iload_n 1, 1) := by decide +kernel
theorem dX0_calculateWithNumber_17 : decode cX0_calculateWithNumber 17 = .ok (.iload_n 2, 1) := by decide +kernel
theorem dX0_calculateWithNumber_18 : decode cX0_calculateWithNumber 18 = .ok (.aload_n 0, 1) := by decide +kernel
theorem dX0_calculateWithNumber_19 : decode cX0_calculateWithNumber 19 = .ok (.iload_n 1, 1) := by decide +kernel
theorem dX0_calculateWithNumber_20 : decode cX0_calculateWithNumber 20 = .ok (.invokevirtual 99, 3) := by decide +kernel
theorem dX0_calculateWithNumber_23 : decode cX0_calculateWithNumber 23 = .ok (.iload_n 1, 1) := by decide +kernel
theorem dX0_calculateWithNumber_24 : decode cX0_calculateWithNumber 24 = .ok (.invokestatic 102, 3) := by decide +kernel
theorem dX0_calculateWithNumber_27 : decode cX0_calculateWithNumber 27 = .ok (.invokestatic 105, 3) := by decide +kernel
theorem dX0_calculateWithNumber_30 : decode cX0_calculateWithNumber 30 = .ok (.invokevirtual 71, 3) := by decide +kernel
theorem dX0_calculateWithNumber_33 : decode cX0_calculateWithNumber 33 = .ok (.ireturn, 1) := by decide +kernel
theorem dX0_calculateWithNumber_34 : decode cX0_calculateWithNumber 34 = .ok (.iload_n 1, 1) := by decide +kernel
theorem dX0_calculateWithNumber_35 : decode cX0_calculateWithNumber 35 = .ok (.invokestatic 109, 3) := by decide +kernel
theorem dX0_calculateWithNumber_38 : decode cX0_calculateWithNumber 38 = .ok (.istore_n 3, 1) := by decide +kernel
theorem dX0_calculateWithNumber_39 : decode cX0_calculateWithNumber 39 = .ok (.iload_n 3, 1) := by decide +kernel
theorem dX0_calculateWithNumber_40 : decode cX0_calculateWithNumber 40 = .ok (.ifCond .ne 22, 3) := by decide +kernel
theorem dX0_calculateWithNumber_43 : decode cX0_calculateWithNumber 43 = .ok (.aload_n 0, 1) := by decide +kernel
theorem dX0_calculateWithNumber_44 : decode cX0_calculateWithNumber 44 = .ok (.iload_n 1, 1) := by decide +kernel
theorem dX0_calculateWithNumber_45 : decode cX0_calculateWithNumber 45 = .ok (.iload_n 2, 1) := by decide +kernel
theorem dX0_calculateWithNumber_46 : decode cX0_calculateWithNumber 46 = .ok (.aload_n 0, 1) := by decide +kernel
theorem dX0_calculateWithNumber_47 : decode cX0_calculateWithNumber 47 = .ok (.iload_n 1, 1) := by decide +kernel
theorem dX0_calculateWithNumber_48 : decode cX0_calculateWithNumber 48 = .ok (.invokevirtual 99, 3) := by decide +kernel
theorem dX0_calculateWithNumber_51 : decode cX0_calculateWithNumber 51 = .ok (.iload_n 1, 1) := by decide +kernel
theorem dX0_calculateWithNumber_52 : decode cX0_calculateWithNumber 52 = .ok (.invokestatic 112, 3) := by decide +kernel
theorem dX0_calculateWithNumber_55 : decode cX0_calculateWithNumber 55 = .ok (.invokestatic 105, 3) := by decide +kernel
theorem dX0_calculateWithNumber_58 : decode cX0_calculateWithNumber 58 = .ok (.invokevirtual 71, 3) := by decide +kernel
theorem dX0_calculateWithNumber_61 : decode cX0_calculateWithNumber 61 = .ok (.ireturn, 1) := by decide +kernel
theorem dX0_calculateWithNumber_62 : decode cX0_calculateWithNumber 62 = .ok (.iload_n 3, 1) := by decide +kernel
theorem dX0_calculateWithNumber_63 : decode cX0_calculateWithNumber 63 = .ok (.bipush 32, 2) := by decide +kernel
theorem dX0_calculateWithNumber_65 : decode cX0_calculateWithNumber 65 = .ok (.if_icmp .ne 26, 3) := by decide +kernel
theorem dX0_calculateWithNumber_68 : decode cX0_calculateWithNumber 68 = .ok (.iload_n 2, 1) := by decide +kernel
theorem dX0_calculateWithNumber_69 : decode cX0_calculateWithNumber 69 = .ok (.iconst 5, 1) := by decide +kernel
theorem dX0_calculateWithNumber_70 : decode cX0_calculateWithNumber 70 = .ok (.if_icmp .ne 21, 3) := by decide +kernel
theorem dX0_calculateWithNumber_73 : decode cX0_calculateWithNumber 73 = .ok (.aload_n 0, 1) := by decide +kernel
theorem dX0_calculateWithNumber_74 : decode cX0_calculateWithNumber 74 = .ok (.iload_n 1, 1) := by decide +kernel
theorem dX0_calculateWithNumber_75 : decode cX0_calculateWithNumber 75 = .ok (.aload_n 0, 1) := by decide +kernel
theorem dX0_calculateWithNumber_76 : decode cX0_calculateWithNumber 76 = .ok (.iload_n 1, 1) := by decide +kernel
theorem dX0_calculateWithNumber_77 : decode cX0_calculateWithNumber 77 = .ok (.invokevirtual 99, 3) := by decide +kernel
theorem dX0_calculateWithNumber_80 : decode cX0_calculateWithNumber 80 = .ok (.iload_n 1, 1) := by decide +kernel
theorem dX0_calculateWithNumber_81 : decode cX0_calculateWithNumber 81 = .ok (.invokestatic 112, 3) := by decide +kernel
theorem dX0_calculateWithNumber_84 : decode cX0_calculateWithNumber 84 = .ok (.invokestatic 115, 3) := by decide +kernel
theorem dX0_calculateWithNumber_87 : decode cX0_calculateWithNumber 87 = .ok (.invokevirtual 71, 3) := by decide +kernel
theorem dX0_calculateWithNumber_90 : decode cX0_calculateWithNumber 90 = .ok (.ireturn, 1) := by decide +kernel
theorem dX0_calculateWithNumber_91 : decode cX0_calculateWithNumber 91 = .ok (.iconst 3, 1) := by decide +kernel
theorem dX0_calculateWithNumber_92 : decode cX0_calculateWithNumber 92 = .ok (.ireturn, 1) := by decide +kernel
set_option maxRecDepth 20000 in
theorem ggX0_calculateWithRegister_X0_fieldT : GoodIn wsX0_calculateWithRegister wsX0_fieldT := goodIn_r _ [4] (by decide +kernel) (by decide +kernel)
set_option maxRecDepth 20000 in
theorem gX0_calculateWithRegister_X0_fieldT : GoodIn wsX0_calculateWithRegister (va_wsS RX0 96 yX0_fieldT wsX0_fieldT) := goodIn_app (goodIn_of _ (by decide +kernel)) ggX0_calculateWithRegister_X0_fieldT
set_option maxRecDepth 20000 in
theorem ggX0_calculateWithRegister_X0_valueX : GoodIn wsX0_calculateWithRegister wsX0_valueX := goodIn_r _ [8, 9, 10, 11, 3, 12, 57, 58, 59, 60, 61, 62] (by decide +kernel) (by decide +kernel)
set_option maxRecDepth 20000 in
theorem gX0_calculateWithRegister_X0_valueX : GoodIn wsX0_calculateWithRegister (wsV RX0 99 RX0 yX0_valueX wsX0_valueX) := goodIn_app (goodIn_of _ (by decide +kernel)) ggX0_calculateWithRegister_X0_valueX
set_option maxRecDepth 20000 in
theorem ggX0_calculateWithRegister_X0_valueY : GoodIn wsX0_calculateWithRegister wsX0_valueY := goodIn_r _ [16, 9, 17, 18, 3, 19, 57, 58, 59, 60, 61, 62] (by decide +kernel) (by decide +kernel)
set_option maxRecDepth 20000 in
theorem gX0_calculateWithRegister_X0_valueY : GoodIn wsX0_calculateWithRegister (wsV RX0 118 RX0 yX0_valueY wsX0_valueY) := goodIn_app (goodIn_of _ (by decide +kernel)) ggX0_calculateWithRegister_X0_valueY
set_option maxRecDepth 20000 in
theorem ggX0_calculateWithRegister_X0_fieldS : GoodIn wsX0_calculateWithRegister wsX0_fieldS := goodIn_r _ [22] (by decide +kernel) (by decide +kernel)
set_option maxRecDepth 20000 in
theorem gX0_calculateWithRegister_X0_fieldS : GoodIn wsX0_calculateWithRegister (va_wsS RX0 109 yX0_fieldS wsX0_fieldS) := goodIn_app (goodIn_of _ (by decide +kernel)) ggX0_calculateWithRegister_X0_fieldS
set_option maxRecDepth 20000 in
theorem ggX0_calculateWithRegister_X0_plain : GoodIn wsX0_calculateWithRegister wsX0_plain := goodIn_r _ [25, 26, 27, 3, 28, 29] (by decide +kernel) (by decide +kernel)
set_option maxRecDepth 20000 in
theorem gX0_calculateWithRegister_X0_plain : GoodIn wsX0_calculateWithRegister (va_wsS RX0 105 yX0_plain wsX0_plain) := goodIn_app (goodIn_of _ (by decide +kernel)) ggX0_calculateWithRegister_X0_plain
set_option maxRecDepth 20000 in
theorem ggX0_calculateWithRegister_X0_tell : GoodIn wsX0_calculateWithRegister wsX0_tell := goodIn_r _ [33, 34, 35, 36, 3, 37, 38, 39, 40, 41, 9, 57, 58, 59, 60, 61, 62] (by decide +kernel) (by decide +kernel)
set_option maxRecDepth 20000 in
theorem gX0_calculateWithRegister_X0_tell : GoodIn wsX0_calculateWithRegister (wsV RX0 71 RX0 yX0_tell wsX0_tell) := goodIn_app (goodIn_of _ (by decide +kernel)) ggX0_calculateWithRegister_X0_tell
set_option maxRecDepth 20000 in
theorem ggX0_calculateWithRegister_X0_productOrQuotient : GoodIn wsX0_calculateWithRegister wsX0_productOrQuotient := goodIn_r _ [44, 45, 46, 3, 47, 26, 27, 28, 29, 48, 49, 50, 51, 52, 53] (by decide +kernel) (by decide +kernel)
set_option maxRecDepth 20000 in
theorem gX0_calculateWithRegister_X0_productOrQuotient : GoodIn wsX0_calculateWithRegister (va_wsS RX0 121 yX0_productOrQuotient wsX0_productOrQuotient) := goodIn_app (goodIn_of _ (by decide +kernel)) ggX0_calculateWithRegister_X0_productOrQuotient
set_option maxRecDepth 20000 in
theorem ggX0_calculateWithRegister_X0_movedRightWithSign : GoodIn wsX0_calculateWithRegister wsX0_movedRightWithSign := goodIn_r _ [56] (by decide +kernel) (by decide +kernel)
set_option maxRecDepth 20000 in
theorem gX0_calculateWithRegister_X0_movedRightWithSign : GoodIn wsX0_calculateWithRegister (va_wsS RX0 115 yX0_movedRightWithSign wsX0_movedRightWithSign) := goodIn_app (goodIn_of _ (by decide +kernel)) ggX0_calculateWithRegister_X0_movedRightWithSign
theorem dX0_calculateWithRegister_0 : decode cX0_calculateWithRegister 0 = .ok (.iload_n 1, 1) := by decide +kernel
theorem dX0_calculateWithRegister_1 : decode cX0_calculateWithRegister 1 = .ok (.invokestatic 96, 3) := by decide +kernel
theorem dX0_calculateWithRegister_4 : decode cX0_calculateWithRegister 4 = .ok (.istore_n 2, 1) := by decide +kernel
theorem dX0_calculateWithRegister_5 : decode cX0_calculateWithRegister 5 = .ok (.aload_n 0, 1) := by decide +kernel
theorem dX0_calculateWithRegister_6 : decode cX0_calculateWithRegister 6 = .ok (.iload_n 1, 1) := by decide +kernel
theorem dX0_calculateWithRegister_7 : decode cX0_calculateWithRegister 7 = .ok (.invokevirtual 99, 3) := by decide +kernel
theorem dX0_calculateWithRegister_10 : decode cX0_calculateWithRegister 10 = .ok (.istore_n 3, 1) := by decide +kernel
theorem dX0_calculateWithRegister_11 : decode cX0_calculateWithRegister 11 = .ok (.aload_n 0, 1) := by decide +kernel
theorem dX0_calculateWithRegister_12 : decode cX0_calculateWithRegister 12 = .ok (.iload_n 1, 1) := by decide +kernel
theorem dX0_calculateWithRegister_13 : decode cX0_calculateWithRegister 13 = .ok (.invokevirtual 118, 3) := by decide +kernel
theorem dX0_calculateWithRegister_16 : decode cX0_calculateWithRegister 16 = .ok (.istore 4, 2) := by decide +kernel
theorem dX0_calculateWithRegister_18 : decode cX0_calculateWithRegister 18 = .ok (.iload_n 1, 1) := by decide +kernel
theorem dX0_calculateWithRegister_19 : decode cX0_calculateWithRegister 19 = .ok (.invokestatic 109, 3) := by decide +kernel
theorem dX0_calculateWithRegister_22 : decode cX0_calculateWithRegister 22 = .ok (.lookupswitch 95 #[(0, 34), (1, 47), (32, 60)], 34) := by decide +kernel
theorem dX0_calculateWithRegister_56 : decode cX0_calculateWithRegister 56 = .ok (.aload_n 0, 1) := by decide +kernel
theorem dX0_calculateWithRegister_57 : decode cX0_calculateWithRegister 57 = .ok (.iload_n 1, 1) := by decide +kernel
theorem dX0_calculateWithRegister_58 : decode cX0_calculateWithRegister 58 = .ok (.iload_n 2, 1) := by decide +kernel
theorem dX0_calculateWithRegister_59 : decode cX0_calculateWithRegister 59 = .ok (.iload_n 3, 1) := by decide +kernel
theorem dX0_calculateWithRegister_60 : decode cX0_calculateWithRegister 60 = .ok (.iload 4, 2) := by decide +kernel
theorem dX0_calculateWithRegister_62 : decode cX0_calculateWithRegister 62 = .ok (.invokestatic 105, 3) := by decide +kernel
theorem dX0_calculateWithRegister_65 : decode cX0_calculateWithRegister 65 = .ok (.invokevirtual 71, 3) := by decide +kernel
theorem dX0_calculateWithRegister_68 : decode cX0_calculateWithRegister 68 = .ok (.ireturn, 1) := by decide +kernel
theorem dX0_calculateWithRegister_69 : decode cX0_calculateWithRegister 69 = .ok (.aload_n 0, 1) := by decide +kernel
theorem dX0_calculateWithRegister_70 : decode cX0_calculateWithRegister 70 = .ok (.iload_n 1, 1) := by decide +kernel
theorem dX0_calculateWithRegister_71 : decode cX0_calculateWithRegister 71 = .ok (.iload_n 2, 1) := by decide +kernel
theorem dX0_calculateWithRegister_72 : decode cX0_calculateWithRegister 72 = .ok (.iload_n 3, 1) := by decide +kernel
theorem dX0_calculateWithRegister_73 : decode cX0_calculateWithRegister 73 = .ok (.iload 4, 2) := by decide +kernel
theorem dX0_calculateWithRegister_75 : decode cX0_calculateWithRegister 75 = .ok (.invokestatic 121, 3) := by decide +kernel
theorem dX0_calculateWithRegister_78 : decode cX0_calculateWithRegister 78 = .ok (.invokevirtual 71, 3) := by decide +kernel
theorem dX0_calculateWithRegister_81 : decode cX0_calculateWithRegister 81 = .ok (.ireturn, 1) := by decide +kernel
theorem dX0_calculateWithRegister_82 : decode cX0_calculateWithRegister 82 = .ok (.iload_n 2, 1) := by decide +kernel
theorem dX0_calculateWithRegister_83 : decode cX0_calculateWithRegister 83 = .ok (.ifCond .ne 13, 3) := by decide +kernel
theorem dX0_calculateWithRegister_86 : decode cX0_calculateWithRegister 86 = .ok (.aload_n 0, 1) := by decide +kernel
theorem dX0_calculateWithRegister_87 : decode cX0_calculateWithRegister 87 = .ok (.iload_n 1, 1) := by decide +kernel
theorem dX0_calculateWithRegister_88 : decode cX0_calculateWithRegister 88 = .ok (.iload_n 3, 1) := by decide +kernel
theorem dX0_calculateWithRegister_89 : decode cX0_calculateWithRegister 89 = .ok (.iload 4, 2) := by decide +kernel
theorem dX0_calculateWithRegister_91 : decode cX0_calculateWithRegister 91 = .ok (.isub, 1) := by decide +kernel
theorem dX0_calculateWithRegister_92 : decode cX0_calculateWithRegister 92 = .ok (.invokevirtual 71, 3) := by decide +kernel
theorem dX0_calculateWithRegister_95 : decode cX0_calculateWithRegister 95 = .ok (.ireturn, 1) := by decide +kernel
theorem dX0_calculateWithRegister_96 : decode cX0_calculateWithRegister 96 = .ok (.iload_n 2, 1) := by decide +kernel
theorem dX0_calculateWithRegister_97 : decode cX0_calculateWithRegister 97 = .ok (.iconst 5, 1) := by decide +kernel
theorem dX0_calculateWithRegister_98 : decode cX0_calculateWithRegister 98 = .ok (.if_icmp .ne 17, 3) := by decide +kernel
theorem dX0_calculateWithRegister_101 : decode cX0_calculateWithRegister 101 = .ok (.aload_n 0, 1) := by decide +kernel
theorem dX0_calculateWithRegister_102 : decode cX0_calculateWithRegister 102 = .ok (.iload_n 1, 1) := by decide +kernel
theorem dX0_calculateWithRegister_103 : decode cX0_calculateWithRegister 103 = .ok (.iload_n 3, 1) := by decide +kernel
theorem dX0_calculateWithRegister_104 : decode cX0_calculateWithRegister 104 = .ok (.iload 4, 2) := by decide +kernel
theorem dX0_calculateWithRegister_106 : decode cX0_calculateWithRegister 106 = .ok (.invokestatic 115, 3) := by decide +kernel
theorem dX0_calculateWithRegister_109 : decode cX0_calculateWithRegister 109 = .ok (.invokevirtual 71, 3) := by decide +kernel
theorem dX0_calculateWithRegister_112 : decode cX0_calculateWithRegister 112 = .ok (.goto 4, 3) := by decide +kernel
theorem dX0_calculateWithRegister_115 : decode cX0_calculateWithRegister 115 = .ok (.iconst 3, 1) := by decide +kernel
theorem dX0_calculateWithRegister_116 : decode cX0_calculateWithRegister 116 = .ok (.ireturn, 1) := by decide +kernel
theorem dX0_calculateWithRegister_117 : decode cX0_calculateWithRegister 117 = .ok (.iconst 3, 1) := by decide +kernel
theorem dX0_calculateWithRegister_118 : decode cX0_calculateWithRegister 118 = .ok (.ireturn, 1) := by decide +kernel
set_option maxRecDepth 20000 in
theorem ggX0_load_X0_fieldT : GoodIn wsX0_load wsX0_fieldT := goodIn_r _ [4] (by decide +kernel) (by decide +kernel)
set_option maxRecDepth 20000 in
theorem gX0_load_X0_fieldT : GoodIn wsX0_load (va_wsS RX0 96 yX0_fieldT wsX0_fieldT) := goodIn_app (goodIn_of _ (by decide +kernel)) ggX0_load_X0_fieldT
set_option maxRecDepth 20000 in
theorem ggX0_load_X0_valueX : GoodIn wsX0_load wsX0_valueX := goodIn_r _ [8, 9, 10, 11, 3, 12, 49, 50, 51, 52, 53, 54] (by decide +kernel) (by decide +kernel)
set_option maxRecDepth 20000 in
theorem gX0_load_X0_valueX : GoodIn wsX0_load (wsV RX0 99 RX0 yX0_valueX wsX0_valueX) := goodIn_app (goodIn_of _ (by decide +kernel)) ggX0_load_X0_valueX
set_option maxRecDepth 20000 in
theorem ggX0_load_X0_numberI : GoodIn wsX0_load wsX0_numberI := goodIn_r _ [15] (by decide +kernel) (by decide +kernel)
set_option maxRecDepth 20000 in
theorem gX0_load_X0_numberI : GoodIn wsX0_load (va_wsS RX0 102 yX0_numberI wsX0_numberI) := goodIn_app (goodIn_of _ (by decide +kernel)) ggX0_load_X0_numberI
set_option maxRecDepth 20000 in
theorem ggX0_load_X0_widthOf : GoodIn wsX0_load wsX0_widthOf := goodIn_r _ [18] (by decide +kernel) (by decide +kernel)
set_option maxRecDepth 20000 in
theorem gX0_load_X0_widthOf : GoodIn wsX0_load (va_wsS RX0 124 yX0_widthOf wsX0_widthOf) := goodIn_app (goodIn_of _ (by decide +kernel)) ggX0_load_X0_widthOf
set_option maxRecDepth 20000 in
theorem ggX0_load_X0_isAddress : GoodIn wsX0_load wsX0_isAddress := goodIn_r _ [21, 22, 23, 3, 24] (by decide +kernel) (by decide +kernel)
set_option maxRecDepth 20000 in
theorem gX0_load_X0_isAddress : GoodIn wsX0_load (va_wsS RX0 37 yX0_isAddress wsX0_isAddress) := goodIn_app (goodIn_of _ (by decide +kernel)) ggX0_load_X0_isAddress
set_option maxRecDepth 20000 in
theorem ggX0_load_X0_bitsFrom : GoodIn wsX0_load wsX0_bitsFrom := goodIn_r _ [28, 29, 30, 31, 3, 32, 49, 50, 51, 52, 53, 54] (by decide +kernel) (by decide +kernel)
set_option maxRecDepth 20000 in
theorem gX0_load_X0_bitsFrom : GoodIn wsX0_load (wsV RX0 45 RX0 yX0_bitsFrom wsX0_bitsFrom) := goodIn_app (goodIn_of _ (by decide +kernel)) ggX0_load_X0_bitsFrom
set_option maxRecDepth 20000 in
theorem ggX0_load_X0_loaded : GoodIn wsX0_load wsX0_loaded := goodIn_r _ [35, 36] (by decide +kernel) (by decide +kernel)
set_option maxRecDepth 20000 in
theorem gX0_load_X0_loaded : GoodIn wsX0_load (va_wsS RX0 127 yX0_loaded wsX0_loaded) := goodIn_app (goodIn_of _ (by decide +kernel)) ggX0_load_X0_loaded
set_option maxRecDepth 20000 in
theorem ggX0_load_X0_tell : GoodIn wsX0_load wsX0_tell := goodIn_r _ [40, 41, 42, 43, 3, 44, 45, 46, 47, 48, 9, 49, 50, 51, 52, 53, 54] (by decide +kernel) (by decide +kernel)
set_option maxRecDepth 20000 in
theorem gX0_load_X0_tell : GoodIn wsX0_load (wsV RX0 71 RX0 yX0_tell wsX0_tell) := goodIn_app (goodIn_of _ (by decide +kernel)) ggX0_load_X0_tell
theorem dX0_load_0 : decode cX0_load 0 = .ok (.iload_n 1, 1) := by decide +kernel
theorem dX0_load_1 : decode cX0_load 1 = .ok (.invokestatic 96, 3) := by decide +kernel
theorem dX0_load_4 : decode cX0_load 4 = .ok (.istore_n 2, 1) := by decide +kernel
theorem dX0_load_5 : decode cX0_load 5 = .ok (.iload_n 2, 1) := by decide +kernel
theorem dX0_load_6 : decode cX0_load 6 = .ok (.iconst 3, 1) := by decide +kernel
theorem dX0_load_7 : decode cX0_load 7 = .ok (.if_icmp .eq 8, 3) := by decide +kernel
theorem dX0_load_10 : decode cX0_load 10 = .ok (.iload_n 2, 1) := by decide +kernel
theorem dX0_load_11 : decode cX0_load 11 = .ok (.iconst 5, 1) := by decide +kernel
theorem dX0_load_12 : decode cX0_load 12 = .ok (.if_icmp .le 5, 3) := by decide +kernel
theorem dX0_load_15 : decode cX0_load 15 = .ok (.iconst 3, 1) := by decide +kernel
theorem dX0_load_16 : decode cX0_load 16 = .ok (.ireturn, 1) := by decide +kernel
end
section
theorem dX0_load_17 : decode cX0_load 17 = .ok (.aload_n 0, 1) := by decide +kernel
theorem dX0_load_18 : decode cX0_load 18 = .ok (.iload_n 1, 1) := by decide +kernel
theorem dX0_load_19 : decode cX0_load 19 = .ok (.invokevirtual 99, 3) := by decide +kernel
theorem dX0_load_22 : decode cX0_load 22 = .ok (.iload_n 1, 1) := by decide +kernel
theorem dX0_load_23 : decode cX0_load 23 = .ok (.invokestatic 102, 3) := by decide +kernel
theorem dX0_load_26 : decode cX0_load 26 = .ok (.iadd, 1) := by decide +kernel
theorem dX0_load_27 : decode cX0_load 27 = .ok (.istore_n 3, 1) := by decide +kernel
theorem dX0_load_28 : decode cX0_load 28 = .ok (.iload_n 3, 1) := by decide +kernel
theorem dX0_load_29 : decode cX0_load 29 = .ok (.iload_n 2, 1) := by decide +kernel
theorem dX0_load_30 : decode cX0_load 30 = .ok (.invokestatic 124, 3) := by decide +kernel
theorem dX0_load_33 : decode cX0_load 33 = .ok (.invokestatic 37, 3) := by decide +kernel
theorem dX0_load_36 : decode cX0_load 36 = .ok (.ifCond .ne 5, 3) := by decide +kernel
theorem dX0_load_39 : decode cX0_load 39 = .ok (.iconst 4, 1) := by decide +kernel
theorem dX0_load_40 : decode cX0_load 40 = .ok (.ireturn, 1) := by decide +kernel
theorem dX0_load_41 : decode cX0_load 41 = .ok (.aload_n 0, 1) := by decide +kernel
theorem dX0_load_42 : decode cX0_load 42 = .ok (.iload_n 1, 1) := by decide +kernel
theorem dX0_load_43 : decode cX0_load 43 = .ok (.iload_n 2, 1) := by decide +kernel
theorem dX0_load_44 : decode cX0_load 44 = .ok (.aload_n 0, 1) := by decide +kernel
theorem dX0_load_45 : decode cX0_load 45 = .ok (.iload_n 3, 1) := by decide +kernel
theorem dX0_load_46 : decode cX0_load 46 = .ok (.invokevirtual 45, 3) := by decide +kernel
theorem dX0_load_49 : decode cX0_load 49 = .ok (.invokestatic 127, 3) := by decide +kernel
theorem dX0_load_52 : decode cX0_load 52 = .ok (.invokevirtual 71, 3) := by decide +kernel
theorem dX0_load_55 : decode cX0_load 55 = .ok (.ireturn, 1) := by decide +kernel
set_option maxRecDepth 20000 in
theorem ggX0_store_X0_fieldT : GoodIn wsX0_store wsX0_fieldT := goodIn_r _ [5] (by decide +kernel) (by decide +kernel)
set_option maxRecDepth 20000 in
theorem gX0_store_X0_fieldT : GoodIn wsX0_store (va_wsS RX0 96 yX0_fieldT wsX0_fieldT) := goodIn_app (goodIn_of _ (by decide +kernel)) ggX0_store_X0_fieldT
set_option maxRecDepth 20000 in
theorem ggX0_store_X0_valueX : GoodIn wsX0_store wsX0_valueX := goodIn_r _ [9, 10, 11, 12, 4, 13, 48, 49, 50, 51, 52, 53] (by decide +kernel) (by decide +kernel)
set_option maxRecDepth 20000 in
theorem gX0_store_X0_valueX : GoodIn wsX0_store (wsV RX0 99 RX0 yX0_valueX wsX0_valueX) := goodIn_app (goodIn_of _ (by decide +kernel)) ggX0_store_X0_valueX
set_option maxRecDepth 20000 in
theorem ggX0_store_X0_storeDistance : GoodIn wsX0_store wsX0_storeDistance := goodIn_r _ [16, 17, 18, 4, 19] (by decide +kernel) (by decide +kernel)
set_option maxRecDepth 20000 in
theorem gX0_store_X0_storeDistance : GoodIn wsX0_store (va_wsS RX0 130 yX0_storeDistance wsX0_storeDistance) := goodIn_app (goodIn_of _ (by decide +kernel)) ggX0_store_X0_storeDistance
set_option maxRecDepth 20000 in
theorem ggX0_store_X0_widthOf : GoodIn wsX0_store wsX0_widthOf := goodIn_r _ [22] (by decide +kernel) (by decide +kernel)
set_option maxRecDepth 20000 in
theorem gX0_store_X0_widthOf : GoodIn wsX0_store (va_wsS RX0 124 yX0_widthOf wsX0_widthOf) := goodIn_app (goodIn_of _ (by decide +kernel)) ggX0_store_X0_widthOf
set_option maxRecDepth 20000 in
theorem ggX0_store_X0_isAddress : GoodIn wsX0_store wsX0_isAddress := goodIn_r _ [25, 26, 27, 4, 28] (by decide +kernel) (by decide +kernel)
set_option maxRecDepth 20000 in
theorem gX0_store_X0_isAddress : GoodIn wsX0_store (va_wsS RX0 37 yX0_isAddress wsX0_isAddress) := goodIn_app (goodIn_of _ (by decide +kernel)) ggX0_store_X0_isAddress
set_option maxRecDepth 20000 in
theorem ggX0_store_X0_storedBits : GoodIn wsX0_store wsX0_storedBits := goodIn_r _ [31, 32] (by decide +kernel) (by decide +kernel)
set_option maxRecDepth 20000 in
theorem gX0_store_X0_storedBits : GoodIn wsX0_store (va_wsS RX0 133 yX0_storedBits wsX0_storedBits) := goodIn_app (goodIn_of _ (by decide +kernel)) ggX0_store_X0_storedBits
set_option maxRecDepth 20000 in
theorem ggX0_store_X0_valueY : GoodIn wsX0_store wsX0_valueY := goodIn_r _ [36, 10, 37, 38, 4, 39, 48, 49, 50, 51, 52, 53] (by decide +kernel) (by decide +kernel)
set_option maxRecDepth 20000 in
theorem gX0_store_X0_valueY : GoodIn wsX0_store (wsV RX0 118 RX0 yX0_valueY wsX0_valueY) := goodIn_app (goodIn_of _ (by decide +kernel)) ggX0_store_X0_valueY
set_option maxRecDepth 20000 in
theorem ggX0_store_X0_replaceBits : GoodIn wsX0_store wsX0_replaceBits := goodIn_r _ [43, 44, 45, 46, 4, 47, 48, 49, 50, 51, 52, 53] (by decide +kernel) (by decide +kernel)
set_option maxRecDepth 20000 in
theorem gX0_store_X0_replaceBits : GoodIn wsX0_store (wsV RX0 41 RX0 yX0_replaceBits wsX0_replaceBits) := goodIn_app (goodIn_of _ (by decide +kernel)) ggX0_store_X0_replaceBits
theorem dX0_store_0 : decode cX0_store 0 = .ok (.iload_n 1, 1) := by decide +kernel
theorem dX0_store_1 : decode cX0_store 1 = .ok (.invokestatic 96, 3) := by decide +kernel
theorem dX0_store_4 : decode cX0_store 4 = .ok (.istore_n 2, 1) := by decide +kernel
theorem dX0_store_5 : decode cX0_store 5 = .ok (.iload_n 2, 1) := by decide +kernel
theorem dX0_store_6 : decode cX0_store 6 = .ok (.iconst 2, 1) := by decide +kernel
theorem dX0_store_7 : decode cX0_store 7 = .ok (.if_icmp .le 5, 3) := by decide +kernel
theorem dX0_store_10 : decode cX0_store 10 = .ok (.iconst 3, 1) := by decide +kernel
theorem dX0_store_11 : decode cX0_store 11 = .ok (.ireturn, 1) := by decide +kernel
theorem dX0_store_12 : decode cX0_store 12 = .ok (.aload_n 0, 1) := by decide +kernel
theorem dX0_store_13 : decode cX0_store 13 = .ok (.iload_n 1, 1) := by decide +kernel
theorem dX0_store_14 : decode cX0_store 14 = .ok (.invokevirtual 99, 3) := by decide +kernel
theorem dX0_store_17 : decode cX0_store 17 = .ok (.iload_n 1, 1) := by decide +kernel
theorem dX0_store_18 : decode cX0_store 18 = .ok (.invokestatic 130, 3) := by decide +kernel
theorem dX0_store_21 : decode cX0_store 21 = .ok (.iadd, 1) := by decide +kernel
theorem dX0_store_22 : decode cX0_store 22 = .ok (.istore_n 3, 1) := by decide +kernel
theorem dX0_store_23 : decode cX0_store 23 = .ok (.iload_n 3, 1) := by decide +kernel
theorem dX0_store_24 : decode cX0_store 24 = .ok (.iload_n 2, 1) := by decide +kernel
theorem dX0_store_25 : decode cX0_store 25 = .ok (.invokestatic 124, 3) := by decide +kernel
theorem dX0_store_28 : decode cX0_store 28 = .ok (.invokestatic 37, 3) := by decide +kernel
theorem dX0_store_31 : decode cX0_store 31 = .ok (.ifCond .ne 5, 3) := by decide +kernel
theorem dX0_store_34 : decode cX0_store 34 = .ok (.iconst 4, 1) := by decide +kernel
theorem dX0_store_35 : decode cX0_store 35 = .ok (.ireturn, 1) := by decide +kernel
theorem dX0_store_36 : decode cX0_store 36 = .ok (.aload_n 0, 1) := by decide +kernel
theorem dX0_store_37 : decode cX0_store 37 = .ok (.iload_n 3, 1) := by decide +kernel
theorem dX0_store_38 : decode cX0_store 38 = .ok (.iload_n 2, 1) := by decide +kernel
theorem dX0_store_39 : decode cX0_store 39 = .ok (.invokestatic 133, 3) := by decide +kernel
theorem dX0_store_42 : decode cX0_store 42 = .ok (.aload_n 0, 1) := by decide +kernel
theorem dX0_store_43 : decode cX0_store 43 = .ok (.iload_n 1, 1) := by decide +kernel
theorem dX0_store_44 : decode cX0_store 44 = .ok (.invokevirtual 118, 3) := by decide +kernel
theorem dX0_store_47 : decode cX0_store 47 = .ok (.invokevirtual 41, 3) := by decide +kernel
theorem dX0_store_50 : decode cX0_store 50 = .ok (.aload_n 0, 1) := by decide +kernel
theorem dX0_store_51 : decode cX0_store 51 = .ok (.dup, 1) := by decide +kernel
theorem dX0_store_52 : decode cX0_store 52 = .ok (.getfield 23, 3) := by decide +kernel
theorem dX0_store_55 : decode cX0_store 55 = .ok (.iconst 4, 1) := by decide +kernel
theorem dX0_store_56 : decode cX0_store 56 = .ok (.iadd, 1) := by decide +kernel
theorem dX0_store_57 : decode cX0_store 57 = .ok (.putfield 23, 3) := by decide +kernel
theorem dX0_store_60 : decode cX0_store 60 = .ok (.iconst 0, 1) := by decide +kernel
theorem dX0_store_61 : decode cX0_store 61 = .ok (.ireturn, 1) := by decide +kernel
set_option maxRecDepth 20000 in
theorem ggX0_branch_X0_fieldT : GoodIn wsX0_branch wsX0_fieldT := goodIn_r _ [5] (by decide +kernel) (by decide +kernel)
set_option maxRecDepth 20000 in
theorem gX0_branch_X0_fieldT : GoodIn wsX0_branch (va_wsS RX0 96 yX0_fieldT wsX0_fieldT) := goodIn_app (goodIn_of _ (by decide +kernel)) ggX0_branch_X0_fieldT
set_option maxRecDepth 20000 in
theorem ggX0_branch_X0_valueX : GoodIn wsX0_branch wsX0_valueX := goodIn_r _ [9, 10, 11, 12, 4, 13, 31, 32, 33, 34, 35, 36] (by decide +kernel) (by decide +kernel)
set_option maxRecDepth 20000 in
theorem gX0_branch_X0_valueX : GoodIn wsX0_branch (wsV RX0 99 RX0 yX0_valueX wsX0_valueX) := goodIn_app (goodIn_of _ (by decide +kernel)) ggX0_branch_X0_valueX
set_option maxRecDepth 20000 in
theorem ggX0_branch_X0_valueY : GoodIn wsX0_branch wsX0_valueY := goodIn_r _ [17, 10, 18, 19, 4, 20, 31, 32, 33, 34, 35, 36] (by decide +kernel) (by decide +kernel)
set_option maxRecDepth 20000 in
theorem gX0_branch_X0_valueY : GoodIn wsX0_branch (wsV RX0 118 RX0 yX0_valueY wsX0_valueY) := goodIn_app (goodIn_of _ (by decide +kernel)) ggX0_branch_X0_valueY
set_option maxRecDepth 20000 in
theorem ggX0_branch_X0_holds : GoodIn wsX0_branch wsX0_holds := goodIn_r _ [23, 24, 25, 4, 26, 27] (by decide +kernel) (by decide +kernel)
set_option maxRecDepth 20000 in
theorem gX0_branch_X0_holds : GoodIn wsX0_branch (va_wsS RX0 136 yX0_holds wsX0_holds) := goodIn_app (goodIn_of _ (by decide +kernel)) ggX0_branch_X0_holds
set_option maxRecDepth 20000 in
theorem ggX0_branch_X0_branchDistance : GoodIn wsX0_branch wsX0_branchDistance := goodIn_r _ [30] (by decide +kernel) (by decide +kernel)
set_option maxRecDepth 20000 in
theorem gX0_branch_X0_branchDistance : GoodIn wsX0_branch (va_wsS RX0 140 yX0_branchDistance wsX0_branchDistance) := goodIn_app (goodIn_of _ (by decide +kernel)) ggX0_branch_X0_branchDistance
theorem dX0_branch_0 : decode cX0_branch 0 = .ok (.iload_n 1, 1) := by decide +kernel
theorem dX0_branch_1 : decode cX0_branch 1 = .ok (.invokestatic 96, 3) := by decide +kernel
theorem dX0_branch_4 : decode cX0_branch 4 = .ok (.istore_n 2, 1) := by decide +kernel
theorem dX0_branch_5 : decode cX0_branch 5 = .ok (.iload_n 2, 1) := by decide +kernel
theorem dX0_branch_6 : decode cX0_branch 6 = .ok (.iconst 2, 1) := by decide +kernel
theorem dX0_branch_7 : decode cX0_branch 7 = .ok (.if_icmp .eq 8, 3) := by decide +kernel
theorem dX0_branch_10 : decode cX0_branch 10 = .ok (.iload_n 2, 1) := by decide +kernel
theorem dX0_branch_11 : decode cX0_branch 11 = .ok (.iconst 3, 1) := by decide +kernel
theorem dX0_branch_12 : decode cX0_branch 12 = .ok (.if_icmp .ne 5, 3) := by decide +kernel
theorem dX0_branch_15 : decode cX0_branch 15 = .ok (.iconst 3, 1) := by decide +kernel
theorem dX0_branch_16 : decode cX0_branch 16 = .ok (.ireturn, 1) := by decide +kernel
theorem dX0_branch_17 : decode cX0_branch 17 = .ok (.aload_n 0, 1) := by decide +kernel
theorem dX0_branch_18 : decode cX0_branch 18 = .ok (.dup, 1) := by decide +kernel
theorem dX0_branch_19 : decode cX0_branch 19 = .ok (.getfield 23, 3) := by decide +kernel
theorem dX0_branch_22 : decode cX0_branch 22 = .ok (.iload_n 2, 1) := by decide +kernel
theorem dX0_branch_23 : decode cX0_branch 23 = .ok (.aload_n 0, 1) := by decide +kernel
theorem dX0_branch_24 : decode cX0_branch 24 = .ok (.iload_n 1, 1) := by decide +kernel
theorem dX0_branch_25 : decode cX0_branch 25 = .ok (.invokevirtual 99, 3) := by decide +kernel
theorem dX0_branch_28 : decode cX0_branch 28 = .ok (.aload_n 0, 1) := by decide +kernel
theorem dX0_branch_29 : decode cX0_branch 29 = .ok (.iload_n 1, 1) := by decide +kernel
theorem dX0_branch_30 : decode cX0_branch 30 = .ok (.invokevirtual 118, 3) := by decide +kernel
theorem dX0_branch_33 : decode cX0_branch 33 = .ok (.invokestatic 136, 3) := by decide +kernel
theorem dX0_branch_36 : decode cX0_branch 36 = .ok (.ifCond .eq 10, 3) := by decide +kernel
theorem dX0_branch_39 : decode cX0_branch 39 = .ok (.iload_n 1, 1) := by decide +kernel
theorem dX0_branch_40 : decode cX0_branch 40 = .ok (.invokestatic 140, 3) := by decide +kernel
theorem dX0_branch_43 : decode cX0_branch 43 = .ok (.goto 4, 3) := by decide +kernel
theorem dX0_branch_46 : decode cX0_branch 46 = .ok (.iconst 4, 1) := by decide +kernel
theorem dX0_branch_47 : decode cX0_branch 47 = .ok (.iadd, 1) := by decide +kernel
theorem dX0_branch_48 : decode cX0_branch 48 = .ok (.putfield 23, 3) := by decide +kernel
theorem dX0_branch_51 : decode cX0_branch 51 = .ok (.iconst 0, 1) := by decide +kernel
theorem dX0_branch_52 : decode cX0_branch 52 = .ok (.ireturn, 1) := by decide +kernel
set_option maxRecDepth 20000 in
theorem ggX0_jump_X0_fieldD : GoodIn wsX0_jump wsX0_fieldD := goodIn_r _ [5] (by decide +kernel) (by decide +kernel)
set_option maxRecDepth 20000 in
theorem gX0_jump_X0_fieldD : GoodIn wsX0_jump (va_wsS RX0 143 yX0_fieldD wsX0_fieldD) := goodIn_app (goodIn_of _ (by decide +kernel)) ggX0_jump_X0_fieldD
set_option maxRecDepth 20000 in
theorem ggX0_jump_X0_setRegister : GoodIn wsX0_jump wsX0_setRegister := goodIn_r _ [9, 10, 11, 12, 13, 14, 15, 16] (by decide +kernel) (by decide +kernel)
set_option maxRecDepth 20000 in
theorem gX0_jump_X0_setRegister : GoodIn wsX0_jump (wsV RX0 33 RX0 yX0_setRegister wsX0_setRegister) := goodIn_app (goodIn_of _ (by decide +kernel)) ggX0_jump_X0_setRegister
theorem dX0_jump_0 : decode cX0_jump 0 = .ok (.aload_n 0, 1) := by decide +kernel
theorem dX0_jump_1 : decode cX0_jump 1 = .ok (.iload_n 1, 1) := by decide +kernel
theorem dX0_jump_2 : decode cX0_jump 2 = .ok (.invokestatic 143, 3) := by decide +kernel
theorem dX0_jump_5 : decode cX0_jump 5 = .ok (.aload_n 0, 1) := by decide +kernel
theorem dX0_jump_6 : decode cX0_jump 6 = .ok (.getfield 23, 3) := by decide +kernel
theorem dX0_jump_9 : decode cX0_jump 9 = .ok (.iconst 4, 1) := by decide +kernel
theorem dX0_jump_10 : decode cX0_jump 10 = .ok (.iadd, 1) := by decide +kernel
theorem dX0_jump_11 : decode cX0_jump 11 = .ok (.invokevirtual 33, 3) := by decide +kernel
theorem dX0_jump_14 : decode cX0_jump 14 = .ok (.aload_n 0, 1) := by decide +kernel
theorem dX0_jump_15 : decode cX0_jump 15 = .ok (.iload_n 2, 1) := by decide +kernel
theorem dX0_jump_16 : decode cX0_jump 16 = .ok (.putfield 23, 3) := by decide +kernel
theorem dX0_jump_19 : decode cX0_jump 19 = .ok (.iconst 0, 1) := by decide +kernel
theorem dX0_jump_20 : decode cX0_jump 20 = .ok (.ireturn, 1) := by decide +kernel
set_option maxRecDepth 20000 in
theorem ggX0_jumpToRegister_X0_fieldT : GoodIn wsX0_jumpToRegister wsX0_fieldT := goodIn_r _ [4] (by decide +kernel) (by decide +kernel)
set_option maxRecDepth 20000 in
theorem gX0_jumpToRegister_X0_fieldT : GoodIn wsX0_jumpToRegister (va_wsS RX0 96 yX0_fieldT wsX0_fieldT) := goodIn_app (goodIn_of _ (by decide +kernel)) ggX0_jumpToRegister_X0_fieldT
set_option maxRecDepth 20000 in
theorem ggX0_jumpToRegister_X0_valueX : GoodIn wsX0_jumpToRegister wsX0_valueX := goodIn_r _ [8, 9, 10, 11, 3, 12, 28, 29, 30, 31, 32, 33] (by decide +kernel) (by decide +kernel)
set_option maxRecDepth 20000 in
theorem gX0_jumpToRegister_X0_valueX : GoodIn wsX0_jumpToRegister (wsV RX0 99 RX0 yX0_valueX wsX0_valueX) := goodIn_app (goodIn_of _ (by decide +kernel)) ggX0_jumpToRegister_X0_valueX
set_option maxRecDepth 20000 in
theorem ggX0_jumpToRegister_X0_numberI : GoodIn wsX0_jumpToRegister wsX0_numberI := goodIn_r _ [15] (by decide +kernel) (by decide +kernel)
set_option maxRecDepth 20000 in
theorem gX0_jumpToRegister_X0_numberI : GoodIn wsX0_jumpToRegister (va_wsS RX0 102 yX0_numberI wsX0_numberI) := goodIn_app (goodIn_of _ (by decide +kernel)) ggX0_jumpToRegister_X0_numberI
set_option maxRecDepth 20000 in
theorem ggX0_jumpToRegister_X0_jump : GoodIn wsX0_jumpToRegister wsX0_jump := goodIn_r _ [19, 20, 21, 22, 3, 23, 24, 25, 26, 27, 9, 28, 29, 30, 31, 32, 33] (by decide +kernel) (by decide +kernel)
set_option maxRecDepth 20000 in
theorem gX0_jumpToRegister_X0_jump : GoodIn wsX0_jumpToRegister (wsV RX0 87 RX0 yX0_jump wsX0_jump) := goodIn_app (goodIn_of _ (by decide +kernel)) ggX0_jumpToRegister_X0_jump
theorem dX0_jumpToRegister_0 : decode cX0_jumpToRegister 0 = .ok (.iload_n 1, 1) := by decide +kernel
theorem dX0_jumpToRegister_1 : decode cX0_jumpToRegister 1 = .ok (.invokestatic 96, 3) := by decide +kernel
theorem dX0_jumpToRegister_4 : decode cX0_jumpToRegister 4 = .ok (.ifCond .eq 5, 3) := by decide +kernel
theorem dX0_jumpToRegister_7 : decode cX0_jumpToRegister 7 = .ok (.iconst 3, 1) := by decide +kernel
theorem dX0_jumpToRegister_8 : decode cX0_jumpToRegister 8 = .ok (.ireturn, 1) := by decide +kernel
theorem dX0_jumpToRegister_9 : decode cX0_jumpToRegister 9 = .ok (.aload_n 0, 1) := by decide +kernel
theorem dX0_jumpToRegister_10 : decode cX0_jumpToRegister 10 = .ok (.iload_n 1, 1) := by decide +kernel
theorem dX0_jumpToRegister_11 : decode cX0_jumpToRegister 11 = .ok (.aload_n 0, 1) := by decide +kernel
theorem dX0_jumpToRegister_12 : decode cX0_jumpToRegister 12 = .ok (.iload_n 1, 1) := by decide +kernel
theorem dX0_jumpToRegister_13 : decode cX0_jumpToRegister 13 = .ok (.invokevirtual 99, 3) := by decide +kernel
theorem dX0_jumpToRegister_16 : decode cX0_jumpToRegister 16 = .ok (.iload_n 1, 1) := by decide +kernel
theorem dX0_jumpToRegister_17 : decode cX0_jumpToRegister 17 = .ok (.invokestatic 102, 3) := by decide +kernel
theorem dX0_jumpToRegister_20 : decode cX0_jumpToRegister 20 = .ok (.iadd, 1) := by decide +kernel
theorem dX0_jumpToRegister_21 : decode cX0_jumpToRegister 21 = .ok (.bipush (-2), 2) := by decide +kernel
theorem dX0_jumpToRegister_23 : decode cX0_jumpToRegister 23 = .ok (.iand, 1) := by decide +kernel
theorem dX0_jumpToRegister_24 : decode cX0_jumpToRegister 24 = .ok (.invokevirtual 87, 3) := by decide +kernel
theorem dX0_jumpToRegister_27 : decode cX0_jumpToRegister 27 = .ok (.ireturn, 1) := by decide +kernel
theorem dX0_ask_0 : decode cX0_ask 0 = .ok (.iload_n 1, 1) := by decide +kernel
theorem dX0_ask_1 : decode cX0_ask 1 = .ok (.bipush 115, 2) := by decide +kernel
theorem dX0_ask_3 : decode cX0_ask 3 = .ok (.if_icmp .eq 5, 3) := by decide +kernel
theorem dX0_ask_6 : decode cX0_ask 6 = .ok (.iconst 3, 1) := by decide +kernel
theorem dX0_ask_7 : decode cX0_ask 7 = .ok (.ireturn, 1) := by decide +kernel
theorem dX0_ask_8 : decode cX0_ask 8 = .ok (.aload_n 0, 1) := by decide +kernel
theorem dX0_ask_9 : decode cX0_ask 9 = .ok (.dup, 1) := by decide +kernel
theorem dX0_ask_10 : decode cX0_ask 10 = .ok (.getfield 23, 3) := by decide +kernel
theorem dX0_ask_13 : decode cX0_ask 13 = .ok (.iconst 4, 1) := by decide +kernel
theorem dX0_ask_14 : decode cX0_ask 14 = .ok (.iadd, 1) := by decide +kernel
theorem dX0_ask_15 : decode cX0_ask 15 = .ok (.putfield 23, 3) := by decide +kernel
theorem dX0_ask_18 : decode cX0_ask 18 = .ok (.iconst 1, 1) := by decide +kernel
theorem dX0_ask_19 : decode cX0_ask 19 = .ok (.ireturn, 1) := by decide +kernel
set_option maxRecDepth 20000 in
theorem ggX0_tell_X0_fieldD : GoodIn wsX0_tell wsX0_fieldD := goodIn_r _ [5] (by decide +kernel) (by decide +kernel)
set_option maxRecDepth 20000 in
theorem gX0_tell_X0_fieldD : GoodIn wsX0_tell (va_wsS RX0 143 yX0_fieldD wsX0_fieldD) := goodIn_app (goodIn_of _ (by decide +kernel)) ggX0_tell_X0_fieldD
set_option maxRecDepth 20000 in
theorem ggX0_tell_X0_setRegister : GoodIn wsX0_tell wsX0_setRegister := goodIn_r _ [9, 10, 11, 12, 13, 14, 15, 16] (by decide +kernel) (by decide +kernel)
set_option maxRecDepth 20000 in
theorem gX0_tell_X0_setRegister : GoodIn wsX0_tell (wsV RX0 33 RX0 yX0_setRegister wsX0_setRegister) := goodIn_app (goodIn_of _ (by decide +kernel)) ggX0_tell_X0_setRegister
theorem dX0_tell_0 : decode cX0_tell 0 = .ok (.aload_n 0, 1) := by decide +kernel
theorem dX0_tell_1 : decode cX0_tell 1 = .ok (.iload_n 1, 1) := by decide +kernel
theorem dX0_tell_2 : decode cX0_tell 2 = .ok (.invokestatic 143, 3) := by decide +kernel
theorem dX0_tell_5 : decode cX0_tell 5 = .ok (.iload_n 2, 1) := by decide +kernel
theorem dX0_tell_6 : decode cX0_tell 6 = .ok (.invokevirtual 33, 3) := by decide +kernel
theorem dX0_tell_9 : decode cX0_tell 9 = .ok (.aload_n 0, 1) := by decide +kernel
theorem dX0_tell_10 : decode cX0_tell 10 = .ok (.dup, 1) := by decide +kernel
theorem dX0_tell_11 : decode cX0_tell 11 = .ok (.getfield 23, 3) := by decide +kernel
theorem dX0_tell_14 : decode cX0_tell 14 = .ok (.iconst 4, 1) := by decide +kernel
theorem dX0_tell_15 : decode cX0_tell 15 = .ok (.iadd, 1) := by decide +kernel
theorem dX0_tell_16 : decode cX0_tell 16 = .ok (.putfield 23, 3) := by decide +kernel
theorem dX0_tell_19 : decode cX0_tell 19 = .ok (.iconst 0, 1) := by decide +kernel
theorem dX0_tell_20 : decode cX0_tell 20 = .ok (.ireturn, 1) := by decide +kernel
set_option maxRecDepth 20000 in
theorem ggX0_plain_X0_unsigned : GoodIn wsX0_plain wsX0_unsigned := goodIn_r _ [4, 5] (by decide +kernel) (by decide +kernel)
set_option maxRecDepth 20000 in
theorem gX0_plain_X0_unsigned : GoodIn wsX0_plain (va_wsS RX0 146 yX0_unsigned wsX0_unsigned) := goodIn_app (goodIn_of _ (by decide +kernel)) ggX0_plain_X0_unsigned
theorem dX0_plain_0 : decode cX0_plain 0 = .ok (.iload_n 0, 1) := by decide +kernel
theorem dX0_plain_1 : decode cX0_plain 1 = .ok (.tableswitch 98 0 6 #[43, 47, 54, 65, 83, 87, 94], 43) := by decide +kernel
theorem dX0_plain_44 : decode cX0_plain 44 = .ok (.iload_n 1, 1) := by decide +kernel
theorem dX0_plain_45 : decode cX0_plain 45 = .ok (.iload_n 2, 1) := by decide +kernel
theorem dX0_plain_46 : decode cX0_plain 46 = .ok (.iadd, 1) := by decide +kernel
theorem dX0_plain_47 : decode cX0_plain 47 = .ok (.ireturn, 1) := by decide +kernel
theorem dX0_plain_48 : decode cX0_plain 48 = .ok (.iload_n 1, 1) := by decide +kernel
theorem dX0_plain_49 : decode cX0_plain 49 = .ok (.iload_n 2, 1) := by decide +kernel
theorem dX0_plain_50 : decode cX0_plain 50 = .ok (.bipush 31, 2) := by decide +kernel
theorem dX0_plain_52 : decode cX0_plain 52 = .ok (.iand, 1) := by decide +kernel
theorem dX0_plain_53 : decode cX0_plain 53 = .ok (.ishl, 1) := by decide +kernel
theorem dX0_plain_54 : decode cX0_plain 54 = .ok (.ireturn, 1) := by decide +kernel
theorem dX0_plain_55 : decode cX0_plain 55 = .ok (.iload_n 1, 1) := by decide +kernel
theorem dX0_plain_56 : decode cX0_plain 56 = .ok (.iload_n 2, 1) := by decide +kernel
theorem dX0_plain_57 : decode cX0_plain 57 = .ok (.if_icmp .ge 7, 3) := by decide +kernel
theorem dX0_plain_60 : decode cX0_plain 60 = .ok (.iconst 1, 1) := by decide +kernel
theorem dX0_plain_61 : decode cX0_plain 61 = .ok (.goto 4, 3) := by decide +kernel
theorem dX0_plain_64 : decode cX0_plain 64 = .ok (.iconst 0, 1) := by decide +kernel
theorem dX0_plain_65 : decode cX0_plain 65 = .ok (.ireturn, 1) := by decide +kernel
theorem dX0_plain_66 : decode cX0_plain 66 = .ok (.iload_n 1, 1) := by decide +kernel
theorem dX0_plain_67 : decode cX0_plain 67 = .ok (.invokestatic 146, 3) := by decide +kernel
theorem dX0_plain_70 : decode cX0_plain 70 = .ok (.iload_n 2, 1) := by decide +kernel
theorem dX0_plain_71 : decode cX0_plain 71 = .ok (.invokestatic 146, 3) := by decide +kernel
theorem dX0_plain_74 : decode cX0_plain 74 = .ok (.lcmp, 1) := by decide +kernel
theorem dX0_plain_75 : decode cX0_plain 75 = .ok (.ifCond .ge 7, 3) := by decide +kernel
theorem dX0_plain_78 : decode cX0_plain 78 = .ok (.iconst 1, 1) := by decide +kernel
theorem dX0_plain_79 : decode cX0_plain 79 = .ok (.goto 4, 3) := by decide +kernel
theorem dX0_plain_82 : decode cX0_plain 82 = .ok (.iconst 0, 1) := by decide +kernel
theorem dX0_plain_83 : decode cX0_plain 83 = .ok (.ireturn, 1) := by decide +kernel
theorem dX0_plain_84 : decode cX0_plain 84 = .ok (.iload_n 1, 1) := by decide +kernel
theorem dX0_plain_85 : decode cX0_plain 85 = .ok (.iload_n 2, 1) := by decide +kernel
theorem dX0_plain_86 : decode cX0_plain 86 = .ok (.ixor, 1) := by decide +kernel
theorem dX0_plain_87 : decode cX0_plain 87 = .ok (.ireturn, 1) := by decide +kernel
theorem dX0_plain_88 : decode cX0_plain 88 = .ok (.iload_n 1, 1) := by decide +kernel
theorem dX0_plain_89 : decode cX0_plain 89 = .ok (.iload_n 2, 1) := by decide +kernel
theorem dX0_plain_90 : decode cX0_plain 90 = .ok (.bipush 31, 2) := by decide +kernel
theorem dX0_plain_92 : decode cX0_plain 92 = .ok (.iand, 1) := by decide +kernel
theorem dX0_plain_93 : decode cX0_plain 93 = .ok (.iushr, 1) := by decide +kernel
theorem dX0_plain_94 : decode cX0_plain 94 = .ok (.ireturn, 1) := by decide +kernel
theorem dX0_plain_95 : decode cX0_plain 95 = .ok (.iload_n 1, 1) := by decide +kernel
theorem dX0_plain_96 : decode cX0_plain 96 = .ok (.iload_n 2, 1) := by decide +kernel
theorem dX0_plain_97 : decode cX0_plain 97 = .ok (.ior, 1) := by decide +kernel
theorem dX0_plain_98 : decode cX0_plain 98 = .ok (.ireturn, 1) := by decide +kernel
theorem dX0_plain_99 : decode cX0_plain 99 = .ok (.iload_n 1, 1) := by decide +kernel
theorem dX0_plain_100 : decode cX0_plain 100 = .ok (.iload_n 2, 1) := by decide +kernel
theorem dX0_plain_101 : decode cX0_plain 101 = .ok (.iand, 1) := by decide +kernel
theorem dX0_plain_102 : decode cX0_plain 102 = .ok (.ireturn, 1) := by decide +kernel
theorem dX0_movedRightWithSign_0 : decode cX0_movedRightWithSign 0 = .ok (.iload_n 0, 1) := by decide +kernel
theorem dX0_movedRightWithSign_1 : decode cX0_movedRightWithSign 1 = .ok (.iload_n 1, 1) := by decide +kernel
theorem dX0_movedRightWithSign_2 : decode cX0_movedRightWithSign 2 = .ok (.bipush 31, 2) := by decide +kernel
theorem dX0_movedRightWithSign_4 : decode cX0_movedRightWithSign 4 = .ok (.iand, 1) := by decide +kernel
theorem dX0_movedRightWithSign_5 : decode cX0_movedRightWithSign 5 = .ok (.ishr, 1) := by decide +kernel
theorem dX0_movedRightWithSign_6 : decode cX0_movedRightWithSign 6 = .ok (.ireturn, 1) := by decide +kernel
set_option maxRecDepth 20000 in
theorem ggX0_productOrQuotient_X0_upperOfProduct : GoodIn wsX0_productOrQuotient wsX0_upperOfProduct := goodIn_r _ [4] (by decide +kernel) (by decide +kernel)
set_option maxRecDepth 20000 in
theorem gX0_productOrQuotient_X0_upperOfProduct : GoodIn wsX0_productOrQuotient (va_wsS RX0 150 yX0_upperOfProduct wsX0_upperOfProduct) := goodIn_app (goodIn_of _ (by decide +kernel)) ggX0_productOrQuotient_X0_upperOfProduct
set_option maxRecDepth 20000 in
theorem ggX0_productOrQuotient_X0_unsigned : GoodIn wsX0_productOrQuotient wsX0_unsigned := goodIn_r _ [7, 8] (by decide +kernel) (by decide +kernel)
set_option maxRecDepth 20000 in
theorem gX0_productOrQuotient_X0_unsigned : GoodIn wsX0_productOrQuotient (va_wsS RX0 146 yX0_unsigned wsX0_unsigned) := goodIn_app (goodIn_of _ (by decide +kernel)) ggX0_productOrQuotient_X0_unsigned
set_option maxRecDepth 20000 in
theorem ggX0_productOrQuotient_X0_quotient : GoodIn wsX0_productOrQuotient wsX0_quotient := goodIn_r _ [11] (by decide +kernel) (by decide +kernel)
set_option maxRecDepth 20000 in
theorem gX0_productOrQuotient_X0_quotient : GoodIn wsX0_productOrQuotient (va_wsS RX0 154 yX0_quotient wsX0_quotient) := goodIn_app (goodIn_of _ (by decide +kernel)) ggX0_productOrQuotient_X0_quotient
set_option maxRecDepth 20000 in
theorem ggX0_productOrQuotient_X0_rest : GoodIn wsX0_productOrQuotient wsX0_rest := goodIn_r _ [14] (by decide +kernel) (by decide +kernel)
set_option maxRecDepth 20000 in
theorem gX0_productOrQuotient_X0_rest : GoodIn wsX0_productOrQuotient (va_wsS RX0 157 yX0_rest wsX0_rest) := goodIn_app (goodIn_of _ (by decide +kernel)) ggX0_productOrQuotient_X0_rest
theorem dX0_productOrQuotient_0 : decode cX0_productOrQuotient 0 = .ok (.iload_n 0, 1) := by decide +kernel
theorem dX0_productOrQuotient_1 : decode cX0_productOrQuotient 1 = .ok (.tableswitch 105 0 6 #[43, 47, 55, 65, 77, 85, 97], 43) := by decide +kernel
theorem dX0_productOrQuotient_44 : decode cX0_productOrQuotient 44 = .ok (.iload_n 1, 1) := by decide +kernel
theorem dX0_productOrQuotient_45 : decode cX0_productOrQuotient 45 = .ok (.iload_n 2, 1) := by decide +kernel
theorem dX0_productOrQuotient_46 : decode cX0_productOrQuotient 46 = .ok (.imul, 1) := by decide +kernel
theorem dX0_productOrQuotient_47 : decode cX0_productOrQuotient 47 = .ok (.ireturn, 1) := by decide +kernel
theorem dX0_productOrQuotient_48 : decode cX0_productOrQuotient 48 = .ok (.iload_n 1, 1) := by decide +kernel
theorem dX0_productOrQuotient_49 : decode cX0_productOrQuotient 49 = .ok (.i2l, 1) := by decide +kernel
theorem dX0_productOrQuotient_50 : decode cX0_productOrQuotient 50 = .ok (.iload_n 2, 1) := by decide +kernel
theorem dX0_productOrQuotient_51 : decode cX0_productOrQuotient 51 = .ok (.i2l, 1) := by decide +kernel
theorem dX0_productOrQuotient_52 : decode cX0_productOrQuotient 52 = .ok (.invokestatic 150, 3) := by decide +kernel
theorem dX0_productOrQuotient_55 : decode cX0_productOrQuotient 55 = .ok (.ireturn, 1) := by decide +kernel
theorem dX0_productOrQuotient_56 : decode cX0_productOrQuotient 56 = .ok (.iload_n 1, 1) := by decide +kernel
theorem dX0_productOrQuotient_57 : decode cX0_productOrQuotient 57 = .ok (.i2l, 1) := by decide +kernel
theorem dX0_productOrQuotient_58 : decode cX0_productOrQuotient 58 = .ok (.iload_n 2, 1) := by decide +kernel
theorem dX0_productOrQuotient_59 : decode cX0_productOrQuotient 59 = .ok (.invokestatic 146, 3) := by decide +kernel
theorem dX0_productOrQuotient_62 : decode cX0_productOrQuotient 62 = .ok (.invokestatic 150, 3) := by decide +kernel
theorem dX0_productOrQuotient_65 : decode cX0_productOrQuotient 65 = .ok (.ireturn, 1) := by decide +kernel
theorem dX0_productOrQuotient_66 : decode cX0_productOrQuotient 66 = .ok (.iload_n 1, 1) := by decide +kernel
theorem dX0_productOrQuotient_67 : decode cX0_productOrQuotient 67 = .ok (.invokestatic 146, 3) := by decide +kernel
theorem dX0_productOrQuotient_70 : decode cX0_productOrQuotient 70 = .ok (.iload_n 2, 1) := by decide +kernel
theorem dX0_productOrQuotient_71 : decode cX0_productOrQuotient 71 = .ok (.invokestatic 146, 3) := by decide +kernel
theorem dX0_productOrQuotient_74 : decode cX0_productOrQuotient 74 = .ok (.invokestatic 150, 3) := by decide +kernel
theorem dX0_productOrQuotient_77 : decode cX0_productOrQuotient 77 = .ok (.ireturn, 1) := by decide +kernel
theorem dX0_productOrQuotient_78 : decode cX0_productOrQuotient 78 = .ok (.iload_n 1, 1) := by decide +kernel
theorem dX0_productOrQuotient_79 : decode cX0_productOrQuotient 79 = .ok (.i2l, 1) := by decide +kernel
theorem dX0_productOrQuotient_80 : decode cX0_productOrQuotient 80 = .ok (.iload_n 2, 1) := by decide +kernel
theorem dX0_productOrQuotient_81 : decode cX0_productOrQuotient 81 = .ok (.i2l, 1) := by decide +kernel
theorem dX0_productOrQuotient_82 : decode cX0_productOrQuotient 82 = .ok (.invokestatic 154, 3) := by decide +kernel
theorem dX0_productOrQuotient_85 : decode cX0_productOrQuotient 85 = .ok (.ireturn, 1) := by decide +kernel
theorem dX0_productOrQuotient_86 : decode cX0_productOrQuotient 86 = .ok (.iload_n 1, 1) := by decide +kernel
theorem dX0_productOrQuotient_87 : decode cX0_productOrQuotient 87 = .ok (.invokestatic 146, 3) := by decide +kernel
theorem dX0_productOrQuotient_90 : decode cX0_productOrQuotient 90 = .ok (.iload_n 2, 1) := by decide +kernel
theorem dX0_productOrQuotient_91 : decode cX0_productOrQuotient 91 = .ok (.invokestatic 146, 3) := by decide +kernel
theorem dX0_productOrQuotient_94 : decode cX0_productOrQuotient 94 = .ok (.invokestatic 154, 3) := by decide +kernel
theorem dX0_productOrQuotient_97 : decode cX0_productOrQuotient 97 = .ok (.ireturn, 1) := by decide +kernel
theorem dX0_productOrQuotient_98 : decode cX0_productOrQuotient 98 = .ok (.iload_n 1, 1) := by decide +kernel
theorem dX0_productOrQuotient_99 : decode cX0_productOrQuotient 99 = .ok (.i2l, 1) := by decide +kernel
theorem dX0_productOrQuotient_100 : decode cX0_productOrQuotient 100 = .ok (.iload_n 2, 1) := by decide +kernel
theorem dX0_productOrQuotient_101 : decode cX0_productOrQuotient 101 = .ok (.i2l, 1) := by decide +kernel
theorem dX0_productOrQuotient_102 : decode cX0_productOrQuotient 102 = .ok (.invokestatic 157, 3) := by decide +kernel
theorem dX0_productOrQuotient_105 : decode cX0_productOrQuotient 105 = .ok (.ireturn, 1) := by decide +kernel
theorem dX0_productOrQuotient_106 : decode cX0_productOrQuotient 106 = .ok (.iload_n 1, 1) := by decide +kernel
theorem dX0_productOrQuotient_107 : decode cX0_productOrQuotient 107 = .ok (.invokestatic 146, 3) := by decide +kernel
theorem dX0_productOrQuotient_110 : decode cX0_productOrQuotient 110 = .ok (.iload_n 2, 1) := by decide +kernel
theorem dX0_productOrQuotient_111 : decode cX0_productOrQuotient 111 = .ok (.invokestatic 146, 3) := by decide +kernel
theorem dX0_productOrQuotient_114 : decode cX0_productOrQuotient 114 = .ok (.invokestatic 157, 3) := by decide +kernel
theorem dX0_productOrQuotient_117 : decode cX0_productOrQuotient 117 = .ok (.ireturn, 1) := by decide +kernel
theorem dX0_upperOfProduct_0 : decode cX0_upperOfProduct 0 = .ok (.lload_n 0, 1) := by decide +kernel
theorem dX0_upperOfProduct_1 : decode cX0_upperOfProduct 1 = .ok (.lload_n 2, 1) := by decide +kernel
theorem dX0_upperOfProduct_2 : decode cX0_upperOfProduct 2 = .ok (.lmul, 1) := by decide +kernel
theorem dX0_upperOfProduct_3 : decode cX0_upperOfProduct 3 = .ok (.bipush 32, 2) := by decide +kernel
theorem dX0_upperOfProduct_5 : decode cX0_upperOfProduct 5 = .ok (.lushr, 1) := by decide +kernel
theorem dX0_upperOfProduct_6 : decode cX0_upperOfProduct 6 = .ok (.l2i, 1) := by decide +kernel
theorem dX0_upperOfProduct_7 : decode cX0_upperOfProduct 7 = .ok (.ireturn, 1) := by decide +kernel
theorem dX0_quotient_0 : decode cX0_quotient 0 = .ok (.lload_n 2, 1) := by decide +kernel
theorem dX0_quotient_1 : decode cX0_quotient 1 = .ok (.lconst 0, 1) := by decide +kernel
theorem dX0_quotient_2 : decode cX0_quotient 2 = .ok (.lcmp, 1) := by decide +kernel
theorem dX0_quotient_3 : decode cX0_quotient 3 = .ok (.ifCond .ne 7, 3) := by decide +kernel
theorem dX0_quotient_6 : decode cX0_quotient 6 = .ok (.iconst (-1), 1) := by decide +kernel
theorem dX0_quotient_7 : decode cX0_quotient 7 = .ok (.goto 7, 3) := by decide +kernel
theorem dX0_quotient_10 : decode cX0_quotient 10 = .ok (.lload_n 0, 1) := by decide +kernel
theorem dX0_quotient_11 : decode cX0_quotient 11 = .ok (.lload_n 2, 1) := by decide +kernel
theorem dX0_quotient_12 : decode cX0_quotient 12 = .ok (.ldiv, 1) := by decide +kernel
theorem dX0_quotient_13 : decode cX0_quotient 13 = .ok (.l2i, 1) := by decide +kernel
theorem dX0_quotient_14 : decode cX0_quotient 14 = .ok (.ireturn, 1) := by decide +kernel
theorem dX0_rest_0 : decode cX0_rest 0 = .ok (.lload_n 2, 1) := by decide +kernel
theorem dX0_rest_1 : decode cX0_rest 1 = .ok (.lconst 0, 1) := by decide +kernel
theorem dX0_rest_2 : decode cX0_rest 2 = .ok (.lcmp, 1) := by decide +kernel
theorem dX0_rest_3 : decode cX0_rest 3 = .ok (.ifCond .ne 8, 3) := by decide +kernel
theorem dX0_rest_6 : decode cX0_rest 6 = .ok (.lload_n 0, 1) := by decide +kernel
theorem dX0_rest_7 : decode cX0_rest 7 = .ok (.l2i, 1) := by decide +kernel
theorem dX0_rest_8 : decode cX0_rest 8 = .ok (.goto 7, 3) := by decide +kernel
theorem dX0_rest_11 : decode cX0_rest 11 = .ok (.lload_n 0, 1) := by decide +kernel
theorem dX0_rest_12 : decode cX0_rest 12 = .ok (.lload_n 2, 1) := by decide +kernel
theorem dX0_rest_13 : decode cX0_rest 13 = .ok (.lrem, 1) := by decide +kernel
theorem dX0_rest_14 : decode cX0_rest 14 = .ok (.l2i, 1) := by decide +kernel
theorem dX0_rest_15 : decode cX0_rest 15 = .ok (.ireturn, 1) := by decide +kernel
set_option maxRecDepth 20000 in
theorem ggX0_holds_X0_unsigned : GoodIn wsX0_holds wsX0_unsigned := goodIn_r _ [4, 5] (by decide +kernel) (by decide +kernel)
set_option maxRecDepth 20000 in
theorem gX0_holds_X0_unsigned : GoodIn wsX0_holds (va_wsS RX0 146 yX0_unsigned wsX0_unsigned) := goodIn_app (goodIn_of _ (by decide +kernel)) ggX0_holds_X0_unsigned
theorem dX0_holds_0 : decode cX0_holds 0 = .ok (.iload_n 0, 1) := by decide +kernel
theorem dX0_holds_1 : decode cX0_holds 1 = .ok (.tableswitch 105 0 6 #[43, 54, 105, 105, 65, 76, 87], 43) := by decide +kernel
theorem dX0_holds_44 : decode cX0_holds 44 = .ok (.iload_n 1, 1) := by decide +kernel
theorem dX0_holds_45 : decode cX0_holds 45 = .ok (.iload_n 2, 1) := by decide +kernel
theorem dX0_holds_46 : decode cX0_holds 46 = .ok (.if_icmp .ne 7, 3) := by decide +kernel
theorem dX0_holds_49 : decode cX0_holds 49 = .ok (.iconst 1, 1) := by decide +kernel
theorem dX0_holds_50 : decode cX0_holds 50 = .ok (.goto 4, 3) := by decide +kernel
theorem dX0_holds_53 : decode cX0_holds 53 = .ok (.iconst 0, 1) := by decide +kernel
theorem dX0_holds_54 : decode cX0_holds 54 = .ok (.ireturn, 1) := by decide +kernel
theorem dX0_holds_55 : decode cX0_holds 55 = .ok (.iload_n 1, 1) := by decide +kernel
theorem dX0_holds_56 : decode cX0_holds 56 = .ok (.iload_n 2, 1) := by decide +kernel
theorem dX0_holds_57 : decode cX0_holds 57 = .ok (.if_icmp .eq 7, 3) := by decide +kernel
theorem dX0_holds_60 : decode cX0_holds 60 = .ok (.iconst 1, 1) := by decide +kernel
theorem dX0_holds_61 : decode cX0_holds 61 = .ok (.goto 4, 3) := by decide +kernel
theorem dX0_holds_64 : decode cX0_holds 64 = .ok (.iconst 0, 1) := by decide +kernel
theorem dX0_holds_65 : decode cX0_holds 65 = .ok (.ireturn, 1) := by decide +kernel
theorem dX0_holds_66 : decode cX0_holds 66 = .ok (.iload_n 1, 1) := by decide +kernel
theorem dX0_holds_67 : decode cX0_holds 67 = .ok (.iload_n 2, 1) := by decide +kernel
theorem dX0_holds_68 : decode cX0_holds 68 = .ok (.if_icmp .ge 7, 3) := by decide +kernel
theorem dX0_holds_71 : decode cX0_holds 71 = .ok (.iconst 1, 1) := by decide +kernel
theorem dX0_holds_72 : decode cX0_holds 72 = .ok (.goto 4, 3) := by decide +kernel
theorem dX0_holds_75 : decode cX0_holds 75 = .ok (.iconst 0, 1) := by decide +kernel
theorem dX0_holds_76 : decode cX0_holds 76 = .ok (.ireturn, 1) := by decide +kernel
theorem dX0_holds_77 : decode cX0_holds 77 = .ok (.iload_n 1, 1) := by decide +kernel
theorem dX0_holds_78 : decode cX0_holds 78 = .ok (.iload_n 2, 1) := by decide +kernel
theorem dX0_holds_79 : decode cX0_holds 79 = .ok (.if_icmp .lt 7, 3) := by decide +kernel
theorem dX0_holds_82 : decode cX0_holds 82 = .ok (.iconst 1, 1) := by decide +kernel
theorem dX0_holds_83 : decode cX0_holds 83 = .ok (.goto 4, 3) := by decide +kernel
theorem dX0_holds_86 : decode cX0_holds 86 = .ok (.iconst 0, 1) := by decide +kernel
theorem dX0_holds_87 : decode cX0_holds 87 = .ok (.ireturn, 1) := by decide +kernel
theorem dX0_holds_88 : decode cX0_holds 88 = .ok (.iload_n 1, 1) := by decide +kernel
theorem dX0_holds_89 : decode cX0_holds 89 = .ok (.invokestatic 146, 3) := by decide +kernel
theorem dX0_holds_92 : decode cX0_holds 92 = .ok (.iload_n 2, 1) := by decide +kernel
theorem dX0_holds_93 : decode cX0_holds 93 = .ok (.invokestatic 146, 3) := by decide +kernel
theorem dX0_holds_96 : decode cX0_holds 96 = .ok (.lcmp, 1) := by decide +kernel
theorem dX0_holds_97 : decode cX0_holds 97 = .ok (.ifCond .ge 7, 3) := by decide +kernel
theorem dX0_holds_100 : decode cX0_holds 100 = .ok (.iconst 1, 1) := by decide +kernel
theorem dX0_holds_101 : decode cX0_holds 101 = .ok (.goto 4, 3) := by decide +kernel
theorem dX0_holds_104 : decode cX0_holds 104 = .ok (.iconst 0, 1) := by decide +kernel
theorem dX0_holds_105 : decode cX0_holds 105 = .ok (.ireturn, 1) := by decide +kernel
theorem dX0_holds_106 : decode cX0_holds 106 = .ok (.iload_n 1, 1) := by decide +kernel
theorem dX0_holds_107 : decode cX0_holds 107 = .ok (.invokestatic 146, 3) := by decide +kernel
theorem dX0_holds_110 : decode cX0_holds 110 = .ok (.iload_n 2, 1) := by decide +kernel
theorem dX0_holds_111 : decode cX0_holds 111 = .ok (.invokestatic 146, 3) := by decide +kernel
theorem dX0_holds_114 : decode cX0_holds 114 = .ok (.lcmp, 1) := by decide +kernel
theorem dX0_holds_115 : decode cX0_holds 115 = .ok (.ifCond .lt 7, 3) := by decide +kernel
theorem dX0_holds_118 : decode cX0_holds 118 = .ok (.iconst 1, 1) := by decide +kernel
theorem dX0_holds_119 : decode cX0_holds 119 = .ok (.goto 4, 3) := by decide +kernel
theorem dX0_holds_122 : decode cX0_holds 122 = .ok (.iconst 0, 1) := by decide +kernel
theorem dX0_holds_123 : decode cX0_holds 123 = .ok (.ireturn, 1) := by decide +kernel
theorem dX0_unsigned_0 : decode cX0_unsigned 0 = .ok (.iload_n 0, 1) := by decide +kernel
theorem dX0_unsigned_1 : decode cX0_unsigned 1 = .ok (.i2l, 1) := by decide +kernel
theorem dX0_unsigned_2 : decode cX0_unsigned 2 = .ok (.ldc2_w 160, 3) := by decide +kernel
theorem dX0_unsigned_5 : decode cX0_unsigned 5 = .ok (.land, 1) := by decide +kernel
theorem dX0_unsigned_6 : decode cX0_unsigned 6 = .ok (.lreturn, 1) := by decide +kernel
theorem dX0_isRegister_0 : decode cX0_isRegister 0 = .ok (.iload_n 0, 1) := by decide +kernel
theorem dX0_isRegister_1 : decode cX0_isRegister 1 = .ok (.ifCond .lt 13, 3) := by decide +kernel
theorem dX0_isRegister_4 : decode cX0_isRegister 4 = .ok (.iload_n 0, 1) := by decide +kernel
theorem dX0_isRegister_5 : decode cX0_isRegister 5 = .ok (.bipush 32, 2) := by decide +kernel
theorem dX0_isRegister_7 : decode cX0_isRegister 7 = .ok (.if_icmp .ge 7, 3) := by decide +kernel
theorem dX0_isRegister_10 : decode cX0_isRegister 10 = .ok (.iconst 1, 1) := by decide +kernel
theorem dX0_isRegister_11 : decode cX0_isRegister 11 = .ok (.goto 4, 3) := by decide +kernel
theorem dX0_isRegister_14 : decode cX0_isRegister 14 = .ok (.iconst 0, 1) := by decide +kernel
theorem dX0_isRegister_15 : decode cX0_isRegister 15 = .ok (.ireturn, 1) := by decide +kernel
theorem dX0_setRegister_0 : decode cX0_setRegister 0 = .ok (.iload_n 1, 1) := by decide +kernel
theorem dX0_setRegister_1 : decode cX0_setRegister 1 = .ok (.ifCond .le 16, 3) := by decide +kernel
theorem dX0_setRegister_4 : decode cX0_setRegister 4 = .ok (.iload_n 1, 1) := by decide +kernel
theorem dX0_setRegister_5 : decode cX0_setRegister 5 = .ok (.bipush 32, 2) := by decide +kernel
theorem dX0_setRegister_7 : decode cX0_setRegister 7 = .ok (.if_icmp .ge 10, 3) := by decide +kernel
theorem dX0_setRegister_10 : decode cX0_setRegister 10 = .ok (.aload_n 0, 1) := by decide +kernel
theorem dX0_setRegister_11 : decode cX0_setRegister 11 = .ok (.getfield 13, 3) := by decide +kernel
theorem dX0_setRegister_14 : decode cX0_setRegister 14 = .ok (.iload_n 1, 1) := by decide +kernel
theorem dX0_setRegister_15 : decode cX0_setRegister 15 = .ok (.iload_n 2, 1) := by decide +kernel
theorem dX0_setRegister_16 : decode cX0_setRegister 16 = .ok (.iastore, 1) := by decide +kernel
theorem dX0_setRegister_17 : decode cX0_setRegister 17 = .ok (.return_, 1) := by decide +kernel
set_option maxRecDepth 20000 in
theorem ggX0_valueX_X0_fieldX : GoodIn wsX0_valueX wsX0_fieldX := goodIn_r _ [5] (by decide +kernel) (by decide +kernel)
set_option maxRecDepth 20000 in
theorem gX0_valueX_X0_fieldX : GoodIn wsX0_valueX (va_wsS RX0 162 yX0_fieldX wsX0_fieldX) := goodIn_app (goodIn_of _ (by decide +kernel)) ggX0_valueX_X0_fieldX
theorem dX0_valueX_0 : decode cX0_valueX 0 = .ok (.aload_n 0, 1) := by decide +kernel
theorem dX0_valueX_1 : decode cX0_valueX 1 = .ok (.getfield 13, 3) := by decide +kernel
theorem dX0_valueX_4 : decode cX0_valueX 4 = .ok (.iload_n 1, 1) := by decide +kernel
theorem dX0_valueX_5 : decode cX0_valueX 5 = .ok (.invokestatic 162, 3) := by decide +kernel
theorem dX0_valueX_8 : decode cX0_valueX 8 = .ok (.iaload, 1) := by decide +kernel
theorem dX0_valueX_9 : decode cX0_valueX 9 = .ok (.ireturn, 1) := by decide +kernel
set_option maxRecDepth 20000 in
theorem ggX0_valueY_X0_fieldY : GoodIn wsX0_valueY wsX0_fieldY := goodIn_r _ [5] (by decide +kernel) (by decide +kernel)
set_option maxRecDepth 20000 in
theorem gX0_valueY_X0_fieldY : GoodIn wsX0_valueY (va_wsS RX0 112 yX0_fieldY wsX0_fieldY) := goodIn_app (goodIn_of _ (by decide +kernel)) ggX0_valueY_X0_fieldY
theorem dX0_valueY_0 : decode cX0_valueY 0 = .ok (.aload_n 0, 1) := by decide +kernel
theorem dX0_valueY_1 : decode cX0_valueY 1 = .ok (.getfield 13, 3) := by decide +kernel
theorem dX0_valueY_4 : decode cX0_valueY 4 = .ok (.iload_n 1, 1) := by decide +kernel
theorem dX0_valueY_5 : decode cX0_valueY 5 = .ok (.invokestatic 112, 3) := by decide +kernel
theorem dX0_valueY_8 : decode cX0_valueY 8 = .ok (.iaload, 1) := by decide +kernel
theorem dX0_valueY_9 : decode cX0_valueY 9 = .ok (.ireturn, 1) := by decide +kernel
theorem dX0_isMultiple_0 : decode cX0_isMultiple 0 = .ok (.iload_n 0, 1) := by decide +kernel
theorem dX0_isMultiple_1 : decode cX0_isMultiple 1 = .ok (.iload_n 1, 1) := by decide +kernel
theorem dX0_isMultiple_2 : decode cX0_isMultiple 2 = .ok (.iconst 1, 1) := by decide +kernel
theorem dX0_isMultiple_3 : decode cX0_isMultiple 3 = .ok (.isub, 1) := by decide +kernel
theorem dX0_isMultiple_4 : decode cX0_isMultiple 4 = .ok (.iand, 1) := by decide +kernel
theorem dX0_isMultiple_5 : decode cX0_isMultiple 5 = .ok (.ifCond .ne 7, 3) := by decide +kernel
end
section
theorem dX0_isMultiple_8 : decode cX0_isMultiple 8 = .ok (.iconst 1, 1) := by decide +kernel
theorem dX0_isMultiple_9 : decode cX0_isMultiple 9 = .ok (.goto 4, 3) := by decide +kernel
theorem dX0_isMultiple_12 : decode cX0_isMultiple 12 = .ok (.iconst 0, 1) := by decide +kernel
theorem dX0_isMultiple_13 : decode cX0_isMultiple 13 = .ok (.ireturn, 1) := by decide +kernel
set_option maxRecDepth 20000 in
theorem ggX0_isAddress_X0_isMultiple : GoodIn wsX0_isAddress wsX0_isMultiple := goodIn_r _ [4] (by decide +kernel) (by decide +kernel)
set_option maxRecDepth 20000 in
theorem gX0_isAddress_X0_isMultiple : GoodIn wsX0_isAddress (va_wsS RX0 49 yX0_isMultiple wsX0_isMultiple) := goodIn_app (goodIn_of _ (by decide +kernel)) ggX0_isAddress_X0_isMultiple
theorem dX0_isAddress_0 : decode cX0_isAddress 0 = .ok (.iload_n 0, 1) := by decide +kernel
theorem dX0_isAddress_1 : decode cX0_isAddress 1 = .ok (.ifCond .lt 24, 3) := by decide +kernel
theorem dX0_isAddress_4 : decode cX0_isAddress 4 = .ok (.iload_n 0, 1) := by decide +kernel
theorem dX0_isAddress_5 : decode cX0_isAddress 5 = .ok (.sipush 4096, 3) := by decide +kernel
theorem dX0_isAddress_8 : decode cX0_isAddress 8 = .ok (.iload_n 1, 1) := by decide +kernel
theorem dX0_isAddress_9 : decode cX0_isAddress 9 = .ok (.isub, 1) := by decide +kernel
theorem dX0_isAddress_10 : decode cX0_isAddress 10 = .ok (.if_icmp .gt 15, 3) := by decide +kernel
theorem dX0_isAddress_13 : decode cX0_isAddress 13 = .ok (.iload_n 0, 1) := by decide +kernel
theorem dX0_isAddress_14 : decode cX0_isAddress 14 = .ok (.iload_n 1, 1) := by decide +kernel
theorem dX0_isAddress_15 : decode cX0_isAddress 15 = .ok (.invokestatic 49, 3) := by decide +kernel
theorem dX0_isAddress_18 : decode cX0_isAddress 18 = .ok (.ifCond .eq 7, 3) := by decide +kernel
theorem dX0_isAddress_21 : decode cX0_isAddress 21 = .ok (.iconst 1, 1) := by decide +kernel
theorem dX0_isAddress_22 : decode cX0_isAddress 22 = .ok (.goto 4, 3) := by decide +kernel
theorem dX0_isAddress_25 : decode cX0_isAddress 25 = .ok (.iconst 0, 1) := by decide +kernel
theorem dX0_isAddress_26 : decode cX0_isAddress 26 = .ok (.ireturn, 1) := by decide +kernel
set_option maxRecDepth 20000 in
theorem ggX0_isPlaceOfWord_X0_isMultiple : GoodIn wsX0_isPlaceOfWord wsX0_isMultiple := goodIn_r _ [5] (by decide +kernel) (by decide +kernel)
set_option maxRecDepth 20000 in
theorem gX0_isPlaceOfWord_X0_isMultiple : GoodIn wsX0_isPlaceOfWord (va_wsS RX0 49 yX0_isMultiple wsX0_isMultiple) := goodIn_app (goodIn_of _ (by decide +kernel)) ggX0_isPlaceOfWord_X0_isMultiple
theorem dX0_isPlaceOfWord_0 : decode cX0_isPlaceOfWord 0 = .ok (.iload_n 1, 1) := by decide +kernel
theorem dX0_isPlaceOfWord_1 : decode cX0_isPlaceOfWord 1 = .ok (.ifCond .lt 25, 3) := by decide +kernel
theorem dX0_isPlaceOfWord_4 : decode cX0_isPlaceOfWord 4 = .ok (.iload_n 1, 1) := by decide +kernel
theorem dX0_isPlaceOfWord_5 : decode cX0_isPlaceOfWord 5 = .ok (.iconst 4, 1) := by decide +kernel
theorem dX0_isPlaceOfWord_6 : decode cX0_isPlaceOfWord 6 = .ok (.invokestatic 49, 3) := by decide +kernel
theorem dX0_isPlaceOfWord_9 : decode cX0_isPlaceOfWord 9 = .ok (.ifCond .eq 17, 3) := by decide +kernel
theorem dX0_isPlaceOfWord_12 : decode cX0_isPlaceOfWord 12 = .ok (.iload_n 1, 1) := by decide +kernel
theorem dX0_isPlaceOfWord_13 : decode cX0_isPlaceOfWord 13 = .ok (.iconst 4, 1) := by decide +kernel
theorem dX0_isPlaceOfWord_14 : decode cX0_isPlaceOfWord 14 = .ok (.idiv, 1) := by decide +kernel
theorem dX0_isPlaceOfWord_15 : decode cX0_isPlaceOfWord 15 = .ok (.aload_n 0, 1) := by decide +kernel
theorem dX0_isPlaceOfWord_16 : decode cX0_isPlaceOfWord 16 = .ok (.getfield 19, 3) := by decide +kernel
theorem dX0_isPlaceOfWord_19 : decode cX0_isPlaceOfWord 19 = .ok (.if_icmp .ge 7, 3) := by decide +kernel
theorem dX0_isPlaceOfWord_22 : decode cX0_isPlaceOfWord 22 = .ok (.iconst 1, 1) := by decide +kernel
theorem dX0_isPlaceOfWord_23 : decode cX0_isPlaceOfWord 23 = .ok (.goto 4, 3) := by decide +kernel
theorem dX0_isPlaceOfWord_26 : decode cX0_isPlaceOfWord 26 = .ok (.iconst 0, 1) := by decide +kernel
theorem dX0_isPlaceOfWord_27 : decode cX0_isPlaceOfWord 27 = .ok (.ireturn, 1) := by decide +kernel
set_option maxRecDepth 20000 in
theorem ggX0_bitsFrom_X0_bitOffset : GoodIn wsX0_bitsFrom wsX0_bitOffset := goodIn_r _ [5] (by decide +kernel) (by decide +kernel)
set_option maxRecDepth 20000 in
theorem gX0_bitsFrom_X0_bitOffset : GoodIn wsX0_bitsFrom (va_wsS RX0 165 yX0_bitOffset wsX0_bitOffset) := goodIn_app (goodIn_of _ (by decide +kernel)) ggX0_bitsFrom_X0_bitOffset
theorem dX0_bitsFrom_0 : decode cX0_bitsFrom 0 = .ok (.aload_n 0, 1) := by decide +kernel
theorem dX0_bitsFrom_1 : decode cX0_bitsFrom 1 = .ok (.getfield 16, 3) := by decide +kernel
theorem dX0_bitsFrom_4 : decode cX0_bitsFrom 4 = .ok (.iload_n 1, 1) := by decide +kernel
theorem dX0_bitsFrom_5 : decode cX0_bitsFrom 5 = .ok (.iconst 4, 1) := by decide +kernel
theorem dX0_bitsFrom_6 : decode cX0_bitsFrom 6 = .ok (.idiv, 1) := by decide +kernel
theorem dX0_bitsFrom_7 : decode cX0_bitsFrom 7 = .ok (.iaload, 1) := by decide +kernel
theorem dX0_bitsFrom_8 : decode cX0_bitsFrom 8 = .ok (.iload_n 1, 1) := by decide +kernel
theorem dX0_bitsFrom_9 : decode cX0_bitsFrom 9 = .ok (.invokestatic 165, 3) := by decide +kernel
theorem dX0_bitsFrom_12 : decode cX0_bitsFrom 12 = .ok (.iushr, 1) := by decide +kernel
theorem dX0_bitsFrom_13 : decode cX0_bitsFrom 13 = .ok (.ireturn, 1) := by decide +kernel
set_option maxRecDepth 20000 in
theorem ggX0_replaceBits_X0_bitOffset : GoodIn wsX0_replaceBits wsX0_bitOffset := goodIn_r _ [5] (by decide +kernel) (by decide +kernel)
set_option maxRecDepth 20000 in
theorem gX0_replaceBits_X0_bitOffset : GoodIn wsX0_replaceBits (va_wsS RX0 165 yX0_bitOffset wsX0_bitOffset) := goodIn_app (goodIn_of _ (by decide +kernel)) ggX0_replaceBits_X0_bitOffset
theorem dX0_replaceBits_0 : decode cX0_replaceBits 0 = .ok (.aload_n 0, 1) := by decide +kernel
theorem dX0_replaceBits_1 : decode cX0_replaceBits 1 = .ok (.getfield 16, 3) := by decide +kernel
theorem dX0_replaceBits_4 : decode cX0_replaceBits 4 = .ok (.iload_n 1, 1) := by decide +kernel
theorem dX0_replaceBits_5 : decode cX0_replaceBits 5 = .ok (.iconst 4, 1) := by decide +kernel
theorem dX0_replaceBits_6 : decode cX0_replaceBits 6 = .ok (.idiv, 1) := by decide +kernel
theorem dX0_replaceBits_7 : decode cX0_replaceBits 7 = .ok (.iaload, 1) := by decide +kernel
theorem dX0_replaceBits_8 : decode cX0_replaceBits 8 = .ok (.iload_n 2, 1) := by decide +kernel
theorem dX0_replaceBits_9 : decode cX0_replaceBits 9 = .ok (.iload_n 1, 1) := by decide +kernel
theorem dX0_replaceBits_10 : decode cX0_replaceBits 10 = .ok (.invokestatic 165, 3) := by decide +kernel
theorem dX0_replaceBits_13 : decode cX0_replaceBits 13 = .ok (.ishl, 1) := by decide +kernel
theorem dX0_replaceBits_14 : decode cX0_replaceBits 14 = .ok (.iconst (-1), 1) := by decide +kernel
theorem dX0_replaceBits_15 : decode cX0_replaceBits 15 = .ok (.ixor, 1) := by decide +kernel
theorem dX0_replaceBits_16 : decode cX0_replaceBits 16 = .ok (.iand, 1) := by decide +kernel
theorem dX0_replaceBits_17 : decode cX0_replaceBits 17 = .ok (.istore 4, 2) := by decide +kernel
theorem dX0_replaceBits_19 : decode cX0_replaceBits 19 = .ok (.aload_n 0, 1) := by decide +kernel
theorem dX0_replaceBits_20 : decode cX0_replaceBits 20 = .ok (.getfield 16, 3) := by decide +kernel
theorem dX0_replaceBits_23 : decode cX0_replaceBits 23 = .ok (.iload_n 1, 1) := by decide +kernel
theorem dX0_replaceBits_24 : decode cX0_replaceBits 24 = .ok (.iconst 4, 1) := by decide +kernel
theorem dX0_replaceBits_25 : decode cX0_replaceBits 25 = .ok (.idiv, 1) := by decide +kernel
theorem dX0_replaceBits_26 : decode cX0_replaceBits 26 = .ok (.iload 4, 2) := by decide +kernel
theorem dX0_replaceBits_28 : decode cX0_replaceBits 28 = .ok (.iload_n 3, 1) := by decide +kernel
theorem dX0_replaceBits_29 : decode cX0_replaceBits 29 = .ok (.iload_n 2, 1) := by decide +kernel
theorem dX0_replaceBits_30 : decode cX0_replaceBits 30 = .ok (.iand, 1) := by decide +kernel
theorem dX0_replaceBits_31 : decode cX0_replaceBits 31 = .ok (.iload_n 1, 1) := by decide +kernel
theorem dX0_replaceBits_32 : decode cX0_replaceBits 32 = .ok (.invokestatic 165, 3) := by decide +kernel
theorem dX0_replaceBits_35 : decode cX0_replaceBits 35 = .ok (.ishl, 1) := by decide +kernel
theorem dX0_replaceBits_36 : decode cX0_replaceBits 36 = .ok (.ior, 1) := by decide +kernel
theorem dX0_replaceBits_37 : decode cX0_replaceBits 37 = .ok (.iastore, 1) := by decide +kernel
theorem dX0_replaceBits_38 : decode cX0_replaceBits 38 = .ok (.return_, 1) := by decide +kernel
theorem dX0_bitOffset_0 : decode cX0_bitOffset 0 = .ok (.iload_n 0, 1) := by decide +kernel
theorem dX0_bitOffset_1 : decode cX0_bitOffset 1 = .ok (.iconst 4, 1) := by decide +kernel
theorem dX0_bitOffset_2 : decode cX0_bitOffset 2 = .ok (.irem, 1) := by decide +kernel
theorem dX0_bitOffset_3 : decode cX0_bitOffset 3 = .ok (.bipush 8, 2) := by decide +kernel
theorem dX0_bitOffset_5 : decode cX0_bitOffset 5 = .ok (.imul, 1) := by decide +kernel
theorem dX0_bitOffset_6 : decode cX0_bitOffset 6 = .ok (.ireturn, 1) := by decide +kernel
theorem dX0_widthOf_0 : decode cX0_widthOf 0 = .ok (.iconst 1, 1) := by decide +kernel
theorem dX0_widthOf_1 : decode cX0_widthOf 1 = .ok (.iload_n 0, 1) := by decide +kernel
theorem dX0_widthOf_2 : decode cX0_widthOf 2 = .ok (.iconst 3, 1) := by decide +kernel
theorem dX0_widthOf_3 : decode cX0_widthOf 3 = .ok (.iand, 1) := by decide +kernel
theorem dX0_widthOf_4 : decode cX0_widthOf 4 = .ok (.ishl, 1) := by decide +kernel
theorem dX0_widthOf_5 : decode cX0_widthOf 5 = .ok (.ireturn, 1) := by decide +kernel
theorem dX0_loaded_0 : decode cX0_loaded 0 = .ok (.iload_n 0, 1) := by decide +kernel
theorem dX0_loaded_1 : decode cX0_loaded 1 = .ok (.tableswitch 56 0 5 #[39, 42, 56, 56, 45, 51], 39) := by decide +kernel
theorem dX0_loaded_40 : decode cX0_loaded 40 = .ok (.iload_n 1, 1) := by decide +kernel
theorem dX0_loaded_41 : decode cX0_loaded 41 = .ok (.i2b, 1) := by decide +kernel
theorem dX0_loaded_42 : decode cX0_loaded 42 = .ok (.ireturn, 1) := by decide +kernel
theorem dX0_loaded_43 : decode cX0_loaded 43 = .ok (.iload_n 1, 1) := by decide +kernel
theorem dX0_loaded_44 : decode cX0_loaded 44 = .ok (.i2s, 1) := by decide +kernel
theorem dX0_loaded_45 : decode cX0_loaded 45 = .ok (.ireturn, 1) := by decide +kernel
theorem dX0_loaded_46 : decode cX0_loaded 46 = .ok (.iload_n 1, 1) := by decide +kernel
theorem dX0_loaded_47 : decode cX0_loaded 47 = .ok (.sipush 255, 3) := by decide +kernel
theorem dX0_loaded_50 : decode cX0_loaded 50 = .ok (.iand, 1) := by decide +kernel
theorem dX0_loaded_51 : decode cX0_loaded 51 = .ok (.ireturn, 1) := by decide +kernel
theorem dX0_loaded_52 : decode cX0_loaded 52 = .ok (.iload_n 1, 1) := by decide +kernel
theorem dX0_loaded_53 : decode cX0_loaded 53 = .ok (.ldc 168, 2) := by decide +kernel
theorem dX0_loaded_55 : decode cX0_loaded 55 = .ok (.iand, 1) := by decide +kernel
theorem dX0_loaded_56 : decode cX0_loaded 56 = .ok (.ireturn, 1) := by decide +kernel
theorem dX0_loaded_57 : decode cX0_loaded 57 = .ok (.iload_n 1, 1) := by decide +kernel
theorem dX0_loaded_58 : decode cX0_loaded 58 = .ok (.ireturn, 1) := by decide +kernel
theorem dX0_storedBits_0 : decode cX0_storedBits 0 = .ok (.iload_n 0, 1) := by decide +kernel
theorem dX0_storedBits_1 : decode cX0_storedBits 1 = .ok (.lookupswitch 34 #[(0, 27), (1, 31)], 27) := by decide +kernel
theorem dX0_storedBits_28 : decode cX0_storedBits 28 = .ok (.sipush 255, 3) := by decide +kernel
theorem dX0_storedBits_31 : decode cX0_storedBits 31 = .ok (.ireturn, 1) := by decide +kernel
theorem dX0_storedBits_32 : decode cX0_storedBits 32 = .ok (.ldc 168, 2) := by decide +kernel
theorem dX0_storedBits_34 : decode cX0_storedBits 34 = .ok (.ireturn, 1) := by decide +kernel
theorem dX0_storedBits_35 : decode cX0_storedBits 35 = .ok (.iconst (-1), 1) := by decide +kernel
theorem dX0_storedBits_36 : decode cX0_storedBits 36 = .ok (.ireturn, 1) := by decide +kernel
theorem dX0_fieldOp_0 : decode cX0_fieldOp 0 = .ok (.iload_n 0, 1) := by decide +kernel
theorem dX0_fieldOp_1 : decode cX0_fieldOp 1 = .ok (.bipush 127, 2) := by decide +kernel
theorem dX0_fieldOp_3 : decode cX0_fieldOp 3 = .ok (.iand, 1) := by decide +kernel
theorem dX0_fieldOp_4 : decode cX0_fieldOp 4 = .ok (.ireturn, 1) := by decide +kernel
theorem dX0_fieldD_0 : decode cX0_fieldD 0 = .ok (.iload_n 0, 1) := by decide +kernel
theorem dX0_fieldD_1 : decode cX0_fieldD 1 = .ok (.bipush 7, 2) := by decide +kernel
theorem dX0_fieldD_3 : decode cX0_fieldD 3 = .ok (.iushr, 1) := by decide +kernel
theorem dX0_fieldD_4 : decode cX0_fieldD 4 = .ok (.bipush 31, 2) := by decide +kernel
theorem dX0_fieldD_6 : decode cX0_fieldD 6 = .ok (.iand, 1) := by decide +kernel
theorem dX0_fieldD_7 : decode cX0_fieldD 7 = .ok (.ireturn, 1) := by decide +kernel
theorem dX0_fieldT_0 : decode cX0_fieldT 0 = .ok (.iload_n 0, 1) := by decide +kernel
theorem dX0_fieldT_1 : decode cX0_fieldT 1 = .ok (.bipush 12, 2) := by decide +kernel
theorem dX0_fieldT_3 : decode cX0_fieldT 3 = .ok (.iushr, 1) := by decide +kernel
theorem dX0_fieldT_4 : decode cX0_fieldT 4 = .ok (.bipush 7, 2) := by decide +kernel
theorem dX0_fieldT_6 : decode cX0_fieldT 6 = .ok (.iand, 1) := by decide +kernel
theorem dX0_fieldT_7 : decode cX0_fieldT 7 = .ok (.ireturn, 1) := by decide +kernel
theorem dX0_fieldX_0 : decode cX0_fieldX 0 = .ok (.iload_n 0, 1) := by decide +kernel
theorem dX0_fieldX_1 : decode cX0_fieldX 1 = .ok (.bipush 15, 2) := by decide +kernel
theorem dX0_fieldX_3 : decode cX0_fieldX 3 = .ok (.iushr, 1) := by decide +kernel
theorem dX0_fieldX_4 : decode cX0_fieldX 4 = .ok (.bipush 31, 2) := by decide +kernel
theorem dX0_fieldX_6 : decode cX0_fieldX 6 = .ok (.iand, 1) := by decide +kernel
theorem dX0_fieldX_7 : decode cX0_fieldX 7 = .ok (.ireturn, 1) := by decide +kernel
theorem dX0_fieldY_0 : decode cX0_fieldY 0 = .ok (.iload_n 0, 1) := by decide +kernel
theorem dX0_fieldY_1 : decode cX0_fieldY 1 = .ok (.bipush 20, 2) := by decide +kernel
theorem dX0_fieldY_3 : decode cX0_fieldY 3 = .ok (.iushr, 1) := by decide +kernel
theorem dX0_fieldY_4 : decode cX0_fieldY 4 = .ok (.bipush 31, 2) := by decide +kernel
theorem dX0_fieldY_6 : decode cX0_fieldY 6 = .ok (.iand, 1) := by decide +kernel
theorem dX0_fieldY_7 : decode cX0_fieldY 7 = .ok (.ireturn, 1) := by decide +kernel
theorem dX0_fieldS_0 : decode cX0_fieldS 0 = .ok (.iload_n 0, 1) := by decide +kernel
theorem dX0_fieldS_1 : decode cX0_fieldS 1 = .ok (.bipush 25, 2) := by decide +kernel
theorem dX0_fieldS_3 : decode cX0_fieldS 3 = .ok (.iushr, 1) := by decide +kernel
theorem dX0_fieldS_4 : decode cX0_fieldS 4 = .ok (.ireturn, 1) := by decide +kernel
theorem dX0_numberI_0 : decode cX0_numberI 0 = .ok (.iload_n 0, 1) := by decide +kernel
theorem dX0_numberI_1 : decode cX0_numberI 1 = .ok (.bipush 20, 2) := by decide +kernel
theorem dX0_numberI_3 : decode cX0_numberI 3 = .ok (.ishr, 1) := by decide +kernel
theorem dX0_numberI_4 : decode cX0_numberI 4 = .ok (.ireturn, 1) := by decide +kernel
set_option maxRecDepth 20000 in
theorem ggX0_storeDistance_X0_fieldD : GoodIn wsX0_storeDistance wsX0_fieldD := goodIn_r _ [4] (by decide +kernel) (by decide +kernel)
set_option maxRecDepth 20000 in
theorem gX0_storeDistance_X0_fieldD : GoodIn wsX0_storeDistance (va_wsS RX0 143 yX0_fieldD wsX0_fieldD) := goodIn_app (goodIn_of _ (by decide +kernel)) ggX0_storeDistance_X0_fieldD
theorem dX0_storeDistance_0 : decode cX0_storeDistance 0 = .ok (.iload_n 0, 1) := by decide +kernel
theorem dX0_storeDistance_1 : decode cX0_storeDistance 1 = .ok (.bipush 25, 2) := by decide +kernel
theorem dX0_storeDistance_3 : decode cX0_storeDistance 3 = .ok (.ishr, 1) := by decide +kernel
theorem dX0_storeDistance_4 : decode cX0_storeDistance 4 = .ok (.iconst 5, 1) := by decide +kernel
theorem dX0_storeDistance_5 : decode cX0_storeDistance 5 = .ok (.ishl, 1) := by decide +kernel
theorem dX0_storeDistance_6 : decode cX0_storeDistance 6 = .ok (.iload_n 0, 1) := by decide +kernel
theorem dX0_storeDistance_7 : decode cX0_storeDistance 7 = .ok (.invokestatic 143, 3) := by decide +kernel
theorem dX0_storeDistance_10 : decode cX0_storeDistance 10 = .ok (.ior, 1) := by decide +kernel
theorem dX0_storeDistance_11 : decode cX0_storeDistance 11 = .ok (.ireturn, 1) := by decide +kernel
theorem dX0_branchDistance_0 : decode cX0_branchDistance 0 = .ok (.iload_n 0, 1) := by decide +kernel
theorem dX0_branchDistance_1 : decode cX0_branchDistance 1 = .ok (.bipush 31, 2) := by decide +kernel
theorem dX0_branchDistance_3 : decode cX0_branchDistance 3 = .ok (.ishr, 1) := by decide +kernel
theorem dX0_branchDistance_4 : decode cX0_branchDistance 4 = .ok (.bipush 12, 2) := by decide +kernel
theorem dX0_branchDistance_6 : decode cX0_branchDistance 6 = .ok (.ishl, 1) := by decide +kernel
theorem dX0_branchDistance_7 : decode cX0_branchDistance 7 = .ok (.iload_n 0, 1) := by decide +kernel
theorem dX0_branchDistance_8 : decode cX0_branchDistance 8 = .ok (.bipush 7, 2) := by decide +kernel
theorem dX0_branchDistance_10 : decode cX0_branchDistance 10 = .ok (.iushr, 1) := by decide +kernel
theorem dX0_branchDistance_11 : decode cX0_branchDistance 11 = .ok (.iconst 1, 1) := by decide +kernel
theorem dX0_branchDistance_12 : decode cX0_branchDistance 12 = .ok (.iand, 1) := by decide +kernel
theorem dX0_branchDistance_13 : decode cX0_branchDistance 13 = .ok (.bipush 11, 2) := by decide +kernel
theorem dX0_branchDistance_15 : decode cX0_branchDistance 15 = .ok (.ishl, 1) := by decide +kernel
theorem dX0_branchDistance_16 : decode cX0_branchDistance 16 = .ok (.ior, 1) := by decide +kernel
theorem dX0_branchDistance_17 : decode cX0_branchDistance 17 = .ok (.iload_n 0, 1) := by decide +kernel
theorem dX0_branchDistance_18 : decode cX0_branchDistance 18 = .ok (.bipush 25, 2) := by decide +kernel
theorem dX0_branchDistance_20 : decode cX0_branchDistance 20 = .ok (.iushr, 1) := by decide +kernel
theorem dX0_branchDistance_21 : decode cX0_branchDistance 21 = .ok (.bipush 63, 2) := by decide +kernel
theorem dX0_branchDistance_23 : decode cX0_branchDistance 23 = .ok (.iand, 1) := by decide +kernel
theorem dX0_branchDistance_24 : decode cX0_branchDistance 24 = .ok (.iconst 5, 1) := by decide +kernel
theorem dX0_branchDistance_25 : decode cX0_branchDistance 25 = .ok (.ishl, 1) := by decide +kernel
theorem dX0_branchDistance_26 : decode cX0_branchDistance 26 = .ok (.ior, 1) := by decide +kernel
theorem dX0_branchDistance_27 : decode cX0_branchDistance 27 = .ok (.iload_n 0, 1) := by decide +kernel
theorem dX0_branchDistance_28 : decode cX0_branchDistance 28 = .ok (.bipush 8, 2) := by decide +kernel
theorem dX0_branchDistance_30 : decode cX0_branchDistance 30 = .ok (.iushr, 1) := by decide +kernel
theorem dX0_branchDistance_31 : decode cX0_branchDistance 31 = .ok (.bipush 15, 2) := by decide +kernel
theorem dX0_branchDistance_33 : decode cX0_branchDistance 33 = .ok (.iand, 1) := by decide +kernel
theorem dX0_branchDistance_34 : decode cX0_branchDistance 34 = .ok (.iconst 1, 1) := by decide +kernel
theorem dX0_branchDistance_35 : decode cX0_branchDistance 35 = .ok (.ishl, 1) := by decide +kernel
theorem dX0_branchDistance_36 : decode cX0_branchDistance 36 = .ok (.ior, 1) := by decide +kernel
theorem dX0_branchDistance_37 : decode cX0_branchDistance 37 = .ok (.ireturn, 1) := by decide +kernel
theorem dX0_jumpDistance_0 : decode cX0_jumpDistance 0 = .ok (.iload_n 0, 1) := by decide +kernel
theorem dX0_jumpDistance_1 : decode cX0_jumpDistance 1 = .ok (.bipush 31, 2) := by decide +kernel
theorem dX0_jumpDistance_3 : decode cX0_jumpDistance 3 = .ok (.ishr, 1) := by decide +kernel
theorem dX0_jumpDistance_4 : decode cX0_jumpDistance 4 = .ok (.bipush 20, 2) := by decide +kernel
theorem dX0_jumpDistance_6 : decode cX0_jumpDistance 6 = .ok (.ishl, 1) := by decide +kernel
theorem dX0_jumpDistance_7 : decode cX0_jumpDistance 7 = .ok (.iload_n 0, 1) := by decide +kernel
theorem dX0_jumpDistance_8 : decode cX0_jumpDistance 8 = .ok (.ldc 169, 2) := by decide +kernel
theorem dX0_jumpDistance_10 : decode cX0_jumpDistance 10 = .ok (.iand, 1) := by decide +kernel
theorem dX0_jumpDistance_11 : decode cX0_jumpDistance 11 = .ok (.ior, 1) := by decide +kernel
theorem dX0_jumpDistance_12 : decode cX0_jumpDistance 12 = .ok (.iload_n 0, 1) := by decide +kernel
theorem dX0_jumpDistance_13 : decode cX0_jumpDistance 13 = .ok (.bipush 20, 2) := by decide +kernel
theorem dX0_jumpDistance_15 : decode cX0_jumpDistance 15 = .ok (.iushr, 1) := by decide +kernel
theorem dX0_jumpDistance_16 : decode cX0_jumpDistance 16 = .ok (.iconst 1, 1) := by decide +kernel
theorem dX0_jumpDistance_17 : decode cX0_jumpDistance 17 = .ok (.iand, 1) := by decide +kernel
theorem dX0_jumpDistance_18 : decode cX0_jumpDistance 18 = .ok (.bipush 11, 2) := by decide +kernel
theorem dX0_jumpDistance_20 : decode cX0_jumpDistance 20 = .ok (.ishl, 1) := by decide +kernel
theorem dX0_jumpDistance_21 : decode cX0_jumpDistance 21 = .ok (.ior, 1) := by decide +kernel
theorem dX0_jumpDistance_22 : decode cX0_jumpDistance 22 = .ok (.iload_n 0, 1) := by decide +kernel
theorem dX0_jumpDistance_23 : decode cX0_jumpDistance 23 = .ok (.bipush 21, 2) := by decide +kernel
theorem dX0_jumpDistance_25 : decode cX0_jumpDistance 25 = .ok (.iushr, 1) := by decide +kernel
theorem dX0_jumpDistance_26 : decode cX0_jumpDistance 26 = .ok (.sipush 1023, 3) := by decide +kernel
theorem dX0_jumpDistance_29 : decode cX0_jumpDistance 29 = .ok (.iand, 1) := by decide +kernel
theorem dX0_jumpDistance_30 : decode cX0_jumpDistance 30 = .ok (.iconst 1, 1) := by decide +kernel
theorem dX0_jumpDistance_31 : decode cX0_jumpDistance 31 = .ok (.ishl, 1) := by decide +kernel
theorem dX0_jumpDistance_32 : decode cX0_jumpDistance 32 = .ok (.ior, 1) := by decide +kernel
theorem dX0_jumpDistance_33 : decode cX0_jumpDistance 33 = .ok (.ireturn, 1) := by decide +kernel
theorem dX1_init_0 : decode cX1_init 0 = .ok (.aload_n 0, 1) := by decide +kernel
theorem dX1_init_1 : decode cX1_init 1 = .ok (.invokespecial 1, 3) := by decide +kernel
theorem dX1_init_4 : decode cX1_init 4 = .ok (.aload_n 0, 1) := by decide +kernel
theorem dX1_init_5 : decode cX1_init 5 = .ok (.sipush 1024, 3) := by decide +kernel
theorem dX1_init_8 : decode cX1_init 8 = .ok (.newarray .int, 2) := by decide +kernel
theorem dX1_init_10 : decode cX1_init 10 = .ok (.putfield 7, 3) := by decide +kernel
theorem dX1_init_13 : decode cX1_init 13 = .ok (.aload_n 0, 1) := by decide +kernel
theorem dX1_init_14 : decode cX1_init 14 = .ok (.bipush 32, 2) := by decide +kernel
theorem dX1_init_16 : decode cX1_init 16 = .ok (.newarray .long, 2) := by decide +kernel
theorem dX1_init_18 : decode cX1_init 18 = .ok (.putfield 13, 3) := by decide +kernel
theorem dX1_init_21 : decode cX1_init 21 = .ok (.aload_n 0, 1) := by decide +kernel
theorem dX1_init_22 : decode cX1_init 22 = .ok (.sipush 4096, 3) := by decide +kernel
theorem dX1_init_25 : decode cX1_init 25 = .ok (.newarray .byte, 2) := by decide +kernel
theorem dX1_init_27 : decode cX1_init 27 = .ok (.putfield 17, 3) := by decide +kernel
theorem dX1_init_30 : decode cX1_init 30 = .ok (.return_, 1) := by decide +kernel
theorem dX1_word_0 : decode cX1_word 0 = .ok (.aload_n 0, 1) := by decide +kernel
theorem dX1_word_1 : decode cX1_word 1 = .ok (.getfield 21, 3) := by decide +kernel
theorem dX1_word_4 : decode cX1_word 4 = .ok (.sipush 1024, 3) := by decide +kernel
theorem dX1_word_7 : decode cX1_word 7 = .ok (.if_icmp .ne 5, 3) := by decide +kernel
theorem dX1_word_10 : decode cX1_word 10 = .ok (.iconst (-1), 1) := by decide +kernel
theorem dX1_word_11 : decode cX1_word 11 = .ok (.ireturn, 1) := by decide +kernel
theorem dX1_word_12 : decode cX1_word 12 = .ok (.aload_n 0, 1) := by decide +kernel
theorem dX1_word_13 : decode cX1_word 13 = .ok (.getfield 7, 3) := by decide +kernel
theorem dX1_word_16 : decode cX1_word 16 = .ok (.aload_n 0, 1) := by decide +kernel
theorem dX1_word_17 : decode cX1_word 17 = .ok (.getfield 21, 3) := by decide +kernel
theorem dX1_word_20 : decode cX1_word 20 = .ok (.iload_n 1, 1) := by decide +kernel
theorem dX1_word_21 : decode cX1_word 21 = .ok (.iastore, 1) := by decide +kernel
theorem dX1_word_22 : decode cX1_word 22 = .ok (.aload_n 0, 1) := by decide +kernel
theorem dX1_word_23 : decode cX1_word 23 = .ok (.dup, 1) := by decide +kernel
theorem dX1_word_24 : decode cX1_word 24 = .ok (.getfield 21, 3) := by decide +kernel
theorem dX1_word_27 : decode cX1_word 27 = .ok (.iconst 1, 1) := by decide +kernel
theorem dX1_word_28 : decode cX1_word 28 = .ok (.iadd, 1) := by decide +kernel
theorem dX1_word_29 : decode cX1_word 29 = .ok (.putfield 21, 3) := by decide +kernel
theorem dX1_word_32 : decode cX1_word 32 = .ok (.aload_n 0, 1) := by decide +kernel
theorem dX1_word_33 : decode cX1_word 33 = .ok (.getfield 21, 3) := by decide +kernel
theorem dX1_word_36 : decode cX1_word 36 = .ok (.ireturn, 1) := by decide +kernel
theorem dX1_plain_0 : decode cX1_plain 0 = .ok (.lload_n 0, 1) := by decide +kernel
theorem dX1_plain_1 : decode cX1_plain 1 = .ok (.ldc2_w 25, 3) := by decide +kernel
theorem dX1_plain_4 : decode cX1_plain 4 = .ok (.land, 1) := by decide +kernel
theorem dX1_plain_5 : decode cX1_plain 5 = .ok (.lreturn, 1) := by decide +kernel
theorem dX1_signed_0 : decode cX1_signed 0 = .ok (.lload_n 0, 1) := by decide +kernel
theorem dX1_signed_1 : decode cX1_signed 1 = .ok (.ldc2_w 27, 3) := by decide +kernel
theorem dX1_signed_4 : decode cX1_signed 4 = .ok (.lcmp, 1) := by decide +kernel
theorem dX1_signed_5 : decode cX1_signed 5 = .ok (.ifCond .lt 11, 3) := by decide +kernel
theorem dX1_signed_8 : decode cX1_signed 8 = .ok (.lload_n 0, 1) := by decide +kernel
theorem dX1_signed_9 : decode cX1_signed 9 = .ok (.ldc2_w 29, 3) := by decide +kernel
theorem dX1_signed_12 : decode cX1_signed 12 = .ok (.lsub, 1) := by decide +kernel
theorem dX1_signed_13 : decode cX1_signed 13 = .ok (.goto 4, 3) := by decide +kernel
theorem dX1_signed_16 : decode cX1_signed 16 = .ok (.lload_n 0, 1) := by decide +kernel
theorem dX1_signed_17 : decode cX1_signed 17 = .ok (.lreturn, 1) := by decide +kernel
set_option maxRecDepth 20000 in
theorem ggX1_give_X1_plain : GoodIn wsX1_give wsX1_plain := goodIn_r _ [5, 6] (by decide +kernel) (by decide +kernel)
set_option maxRecDepth 20000 in
theorem gX1_give_X1_plain : GoodIn wsX1_give (va_wsS RX1 31 yX1_plain wsX1_plain) := goodIn_app (goodIn_of _ (by decide +kernel)) ggX1_give_X1_plain
theorem dX1_give_0 : decode cX1_give 0 = .ok (.iload_n 1, 1) := by decide +kernel
theorem dX1_give_1 : decode cX1_give 1 = .ok (.ifCond .le 13, 3) := by decide +kernel
theorem dX1_give_4 : decode cX1_give 4 = .ok (.aload_n 0, 1) := by decide +kernel
theorem dX1_give_5 : decode cX1_give 5 = .ok (.getfield 13, 3) := by decide +kernel
theorem dX1_give_8 : decode cX1_give 8 = .ok (.iload_n 1, 1) := by decide +kernel
theorem dX1_give_9 : decode cX1_give 9 = .ok (.lload_n 2, 1) := by decide +kernel
theorem dX1_give_10 : decode cX1_give 10 = .ok (.invokestatic 31, 3) := by decide +kernel
theorem dX1_give_13 : decode cX1_give 13 = .ok (.lastore, 1) := by decide +kernel
theorem dX1_give_14 : decode cX1_give 14 = .ok (.return_, 1) := by decide +kernel
set_option maxRecDepth 20000 in
theorem ggX1_put_X1_give : GoodIn wsX1_put wsX1_give := goodIn_r _ [5, 6, 7, 8, 4, 9, 10, 11, 12, 13, 14, 15, 16, 17, 18, 19, 20, 21, 22] (by decide +kernel) (by decide +kernel)
set_option maxRecDepth 20000 in
theorem gX1_put_X1_give : GoodIn wsX1_put (wsV RX1 35 RX1 yX1_give wsX1_give) := goodIn_app (goodIn_of _ (by decide +kernel)) ggX1_put_X1_give
theorem dX1_put_0 : decode cX1_put 0 = .ok (.iload_n 1, 1) := by decide +kernel
theorem dX1_put_1 : decode cX1_put 1 = .ok (.ifCond .lt 9, 3) := by decide +kernel
theorem dX1_put_4 : decode cX1_put 4 = .ok (.iload_n 1, 1) := by decide +kernel
theorem dX1_put_5 : decode cX1_put 5 = .ok (.bipush 31, 2) := by decide +kernel
theorem dX1_put_7 : decode cX1_put 7 = .ok (.if_icmp .le 5, 3) := by decide +kernel
theorem dX1_put_10 : decode cX1_put 10 = .ok (.iconst 0, 1) := by decide +kernel
theorem dX1_put_11 : decode cX1_put 11 = .ok (.ireturn, 1) := by decide +kernel
theorem dX1_put_12 : decode cX1_put 12 = .ok (.aload_n 0, 1) := by decide +kernel
theorem dX1_put_13 : decode cX1_put 13 = .ok (.iload_n 1, 1) := by decide +kernel
theorem dX1_put_14 : decode cX1_put 14 = .ok (.iload_n 2, 1) := by decide +kernel
theorem dX1_put_15 : decode cX1_put 15 = .ok (.i2l, 1) := by decide +kernel
theorem dX1_put_16 : decode cX1_put 16 = .ok (.invokevirtual 35, 3) := by decide +kernel
theorem dX1_put_19 : decode cX1_put 19 = .ok (.iconst 1, 1) := by decide +kernel
theorem dX1_put_20 : decode cX1_put 20 = .ok (.ireturn, 1) := by decide +kernel
theorem dX1_get_0 : decode cX1_get 0 = .ok (.iload_n 1, 1) := by decide +kernel
theorem dX1_get_1 : decode cX1_get 1 = .ok (.ifCond .lt 19, 3) := by decide +kernel
theorem dX1_get_4 : decode cX1_get 4 = .ok (.iload_n 1, 1) := by decide +kernel
theorem dX1_get_5 : decode cX1_get 5 = .ok (.bipush 32, 2) := by decide +kernel
theorem dX1_get_7 : decode cX1_get 7 = .ok (.if_icmp .ge 13, 3) := by decide +kernel
theorem dX1_get_10 : decode cX1_get 10 = .ok (.aload_n 0, 1) := by decide +kernel
theorem dX1_get_11 : decode cX1_get 11 = .ok (.getfield 13, 3) := by decide +kernel
theorem dX1_get_14 : decode cX1_get 14 = .ok (.iload_n 1, 1) := by decide +kernel
theorem dX1_get_15 : decode cX1_get 15 = .ok (.laload, 1) := by decide +kernel
theorem dX1_get_16 : decode cX1_get 16 = .ok (.l2i, 1) := by decide +kernel
theorem dX1_get_17 : decode cX1_get 17 = .ok (.goto 4, 3) := by decide +kernel
theorem dX1_get_20 : decode cX1_get 20 = .ok (.iconst 0, 1) := by decide +kernel
theorem dX1_get_21 : decode cX1_get 21 = .ok (.ireturn, 1) := by decide +kernel
theorem dX1_poke_0 : decode cX1_poke 0 = .ok (.iload_n 1, 1) := by decide +kernel
theorem dX1_poke_1 : decode cX1_poke 1 = .ok (.ifCond .lt 10, 3) := by decide +kernel
theorem dX1_poke_4 : decode cX1_poke 4 = .ok (.iload_n 1, 1) := by decide +kernel
theorem dX1_poke_5 : decode cX1_poke 5 = .ok (.sipush 4095, 3) := by decide +kernel
theorem dX1_poke_8 : decode cX1_poke 8 = .ok (.if_icmp .le 5, 3) := by decide +kernel
theorem dX1_poke_11 : decode cX1_poke 11 = .ok (.iconst 0, 1) := by decide +kernel
theorem dX1_poke_12 : decode cX1_poke 12 = .ok (.ireturn, 1) := by decide +kernel
theorem dX1_poke_13 : decode cX1_poke 13 = .ok (.aload_n 0, 1) := by decide +kernel
theorem dX1_poke_14 : decode cX1_poke 14 = .ok (.getfield 17, 3) := by decide +kernel
theorem dX1_poke_17 : decode cX1_poke 17 = .ok (.iload_n 1, 1) := by decide +kernel
theorem dX1_poke_18 : decode cX1_poke 18 = .ok (.iload_n 2, 1) := by decide +kernel
theorem dX1_poke_19 : decode cX1_poke 19 = .ok (.i2b, 1) := by decide +kernel
theorem dX1_poke_20 : decode cX1_poke 20 = .ok (.bastore, 1) := by decide +kernel
theorem dX1_poke_21 : decode cX1_poke 21 = .ok (.iconst 1, 1) := by decide +kernel
theorem dX1_poke_22 : decode cX1_poke 22 = .ok (.ireturn, 1) := by decide +kernel
theorem dX1_peek_0 : decode cX1_peek 0 = .ok (.iload_n 1, 1) := by decide +kernel
theorem dX1_peek_1 : decode cX1_peek 1 = .ok (.ifCond .lt 23, 3) := by decide +kernel
theorem dX1_peek_4 : decode cX1_peek 4 = .ok (.iload_n 1, 1) := by decide +kernel
theorem dX1_peek_5 : decode cX1_peek 5 = .ok (.sipush 4096, 3) := by decide +kernel
theorem dX1_peek_8 : decode cX1_peek 8 = .ok (.if_icmp .ge 16, 3) := by decide +kernel
theorem dX1_peek_11 : decode cX1_peek 11 = .ok (.aload_n 0, 1) := by decide +kernel
theorem dX1_peek_12 : decode cX1_peek 12 = .ok (.getfield 17, 3) := by decide +kernel
theorem dX1_peek_15 : decode cX1_peek 15 = .ok (.iload_n 1, 1) := by decide +kernel
theorem dX1_peek_16 : decode cX1_peek 16 = .ok (.baload, 1) := by decide +kernel
theorem dX1_peek_17 : decode cX1_peek 17 = .ok (.sipush 255, 3) := by decide +kernel
theorem dX1_peek_20 : decode cX1_peek 20 = .ok (.iand, 1) := by decide +kernel
theorem dX1_peek_21 : decode cX1_peek 21 = .ok (.goto 4, 3) := by decide +kernel
theorem dX1_peek_24 : decode cX1_peek 24 = .ok (.iconst (-1), 1) := by decide +kernel
theorem dX1_peek_25 : decode cX1_peek 25 = .ok (.ireturn, 1) := by decide +kernel
theorem dX1_go_0 : decode cX1_go 0 = .ok (.iload_n 1, 1) := by decide +kernel
theorem dX1_go_1 : decode cX1_go 1 = .ok (.iconst 4, 1) := by decide +kernel
theorem dX1_go_2 : decode cX1_go 2 = .ok (.irem, 1) := by decide +kernel
theorem dX1_go_3 : decode cX1_go 3 = .ok (.ifCond .eq 5, 3) := by decide +kernel
theorem dX1_go_6 : decode cX1_go 6 = .ok (.iconst 0, 1) := by decide +kernel
theorem dX1_go_7 : decode cX1_go 7 = .ok (.ireturn, 1) := by decide +kernel
theorem dX1_go_8 : decode cX1_go 8 = .ok (.aload_n 0, 1) := by decide +kernel
theorem dX1_go_9 : decode cX1_go 9 = .ok (.iload_n 1, 1) := by decide +kernel
theorem dX1_go_10 : decode cX1_go 10 = .ok (.putfield 39, 3) := by decide +kernel
theorem dX1_go_13 : decode cX1_go 13 = .ok (.iconst 1, 1) := by decide +kernel
theorem dX1_go_14 : decode cX1_go 14 = .ok (.ireturn, 1) := by decide +kernel
theorem dX1_pc_0 : decode cX1_pc 0 = .ok (.aload_n 0, 1) := by decide +kernel
theorem dX1_pc_1 : decode cX1_pc 1 = .ok (.getfield 39, 3) := by decide +kernel
theorem dX1_pc_4 : decode cX1_pc 4 = .ok (.ireturn, 1) := by decide +kernel
theorem dX1_steps_0 : decode cX1_steps 0 = .ok (.aload_n 0, 1) := by decide +kernel
theorem dX1_steps_1 : decode cX1_steps 1 = .ok (.getfield 42, 3) := by decide +kernel
theorem dX1_steps_4 : decode cX1_steps 4 = .ok (.ireturn, 1) := by decide +kernel
set_option maxRecDepth 20000 in
theorem ggX1_run_X1_step : GoodIn wsX1_run wsX1_step := goodIn_r _ [5, 6, 7, 8, 9, 10, 11, 12, 13, 14, 15, 16, 17, 18, 4, 19, 20, 21, 22, 23, 24, 25, 26, 27, 28, 29, 30, 31, 32, 33, 34, 35, 36, 37, 38, 39, 40, 41, 42, 43, 44, 45, 46, 47, 48, 49, 50, 51, 52, 53, 54, 55, 56, 57, 58, 59, 60, 61, 62, 63, 64, 65, 66, 67, 68, 69, 70, 71, 72, 73, 74, 75, 76, 77, 78, 79, 80, 81, 82, 83, 84, 85, 86, 87, 88, 89, 90, 91, 92, 93, 94, 95, 96, 97, 98, 99, 100] (by decide +kernel) (by decide +kernel)
set_option maxRecDepth 20000 in
theorem gX1_run_X1_step : GoodIn wsX1_run (wsV RX1 45 RX1 yX1_step wsX1_step) := goodIn_app (goodIn_of _ (by decide +kernel)) ggX1_run_X1_step
theorem dX1_run_0 : decode cX1_run 0 = .ok (.iload_n 1, 1) := by decide +kernel
theorem dX1_run_1 : decode cX1_run 1 = .ok (.ifCond .lt 10, 3) := by decide +kernel
theorem dX1_run_4 : decode cX1_run 4 = .ok (.iload_n 1, 1) := by decide +kernel
theorem dX1_run_5 : decode cX1_run 5 = .ok (.sipush 1000, 3) := by decide +kernel
theorem dX1_run_8 : decode cX1_run 8 = .ok (.if_icmp .le 5, 3) := by decide +kernel
theorem dX1_run_11 : decode cX1_run 11 = .ok (.iconst (-1), 1) := by decide +kernel
theorem dX1_run_12 : decode cX1_run 12 = .ok (.ireturn, 1) := by decide +kernel
theorem dX1_run_13 : decode cX1_run 13 = .ok (.iconst 0, 1) := by decide +kernel
theorem dX1_run_14 : decode cX1_run 14 = .ok (.istore_n 2, 1) := by decide +kernel
theorem dX1_run_15 : decode cX1_run 15 = .ok (.iload_n 2, 1) := by decide +kernel
theorem dX1_run_16 : decode cX1_run 16 = .ok (.iload_n 1, 1) := by decide +kernel
theorem dX1_run_17 : decode cX1_run 17 = .ok (.if_icmp .ge 20, 3) := by decide +kernel
theorem dX1_run_20 : decode cX1_run 20 = .ok (.aload_n 0, 1) := by decide +kernel
theorem dX1_run_21 : decode cX1_run 21 = .ok (.invokevirtual 45, 3) := by decide +kernel
theorem dX1_run_24 : decode cX1_run 24 = .ok (.istore_n 3, 1) := by decide +kernel
theorem dX1_run_25 : decode cX1_run 25 = .ok (.iload_n 3, 1) := by decide +kernel
theorem dX1_run_26 : decode cX1_run 26 = .ok (.ifCond .le 5, 3) := by decide +kernel
theorem dX1_run_29 : decode cX1_run 29 = .ok (.iload_n 3, 1) := by decide +kernel
theorem dX1_run_30 : decode cX1_run 30 = .ok (.ireturn, 1) := by decide +kernel
theorem dX1_run_31 : decode cX1_run 31 = .ok (.iinc 2 1, 3) := by decide +kernel
theorem dX1_run_34 : decode cX1_run 34 = .ok (.goto (-19), 3) := by decide +kernel
theorem dX1_run_37 : decode cX1_run 37 = .ok (.iconst 0, 1) := by decide +kernel
theorem dX1_run_38 : decode cX1_run 38 = .ok (.ireturn, 1) := by decide +kernel
set_option maxRecDepth 20000 in
theorem ggX1_bits_X1_plain : GoodIn wsX1_bits wsX1_plain := goodIn_r _ [4, 5] (by decide +kernel) (by decide +kernel)
set_option maxRecDepth 20000 in
theorem gX1_bits_X1_plain : GoodIn wsX1_bits (va_wsS RX1 31 yX1_plain wsX1_plain) := goodIn_app (goodIn_of _ (by decide +kernel)) ggX1_bits_X1_plain
theorem dX1_bits_0 : decode cX1_bits 0 = .ok (.iload_n 0, 1) := by decide +kernel
theorem dX1_bits_1 : decode cX1_bits 1 = .ok (.i2l, 1) := by decide +kernel
theorem dX1_bits_2 : decode cX1_bits 2 = .ok (.invokestatic 31, 3) := by decide +kernel
theorem dX1_bits_5 : decode cX1_bits 5 = .ok (.iload_n 1, 1) := by decide +kernel
theorem dX1_bits_6 : decode cX1_bits 6 = .ok (.lshr, 1) := by decide +kernel
theorem dX1_bits_7 : decode cX1_bits 7 = .ok (.l2i, 1) := by decide +kernel
theorem dX1_bits_8 : decode cX1_bits 8 = .ok (.iconst 1, 1) := by decide +kernel
theorem dX1_bits_9 : decode cX1_bits 9 = .ok (.iload_n 2, 1) := by decide +kernel
theorem dX1_bits_10 : decode cX1_bits 10 = .ok (.ishl, 1) := by decide +kernel
theorem dX1_bits_11 : decode cX1_bits 11 = .ok (.iconst 1, 1) := by decide +kernel
theorem dX1_bits_12 : decode cX1_bits 12 = .ok (.isub, 1) := by decide +kernel
theorem dX1_bits_13 : decode cX1_bits 13 = .ok (.iand, 1) := by decide +kernel
theorem dX1_bits_14 : decode cX1_bits 14 = .ok (.ireturn, 1) := by decide +kernel
theorem dX1_withSign_0 : decode cX1_withSign 0 = .ok (.iload_n 0, 1) := by decide +kernel
theorem dX1_withSign_1 : decode cX1_withSign 1 = .ok (.iconst 1, 1) := by decide +kernel
theorem dX1_withSign_2 : decode cX1_withSign 2 = .ok (.iload_n 1, 1) := by decide +kernel
theorem dX1_withSign_3 : decode cX1_withSign 3 = .ok (.iconst 1, 1) := by decide +kernel
theorem dX1_withSign_4 : decode cX1_withSign 4 = .ok (.isub, 1) := by decide +kernel
theorem dX1_withSign_5 : decode cX1_withSign 5 = .ok (.ishl, 1) := by decide +kernel
theorem dX1_withSign_6 : decode cX1_withSign 6 = .ok (.if_icmp .lt 11, 3) := by decide +kernel
theorem dX1_withSign_9 : decode cX1_withSign 9 = .ok (.iload_n 0, 1) := by decide +kernel
theorem dX1_withSign_10 : decode cX1_withSign 10 = .ok (.iconst 1, 1) := by decide +kernel
theorem dX1_withSign_11 : decode cX1_withSign 11 = .ok (.iload_n 1, 1) := by decide +kernel
theorem dX1_withSign_12 : decode cX1_withSign 12 = .ok (.ishl, 1) := by decide +kernel
theorem dX1_withSign_13 : decode cX1_withSign 13 = .ok (.isub, 1) := by decide +kernel
theorem dX1_withSign_14 : decode cX1_withSign 14 = .ok (.goto 4, 3) := by decide +kernel
theorem dX1_withSign_17 : decode cX1_withSign 17 = .ok (.iload_n 0, 1) := by decide +kernel
theorem dX1_withSign_18 : decode cX1_withSign 18 = .ok (.ireturn, 1) := by decide +kernel
set_option maxRecDepth 20000 in
theorem ggX1_step_X1_bits : GoodIn wsX1_step wsX1_bits := goodIn_r _ [15, 16, 17, 14, 18, 19] (by decide +kernel) (by decide +kernel)
set_option maxRecDepth 20000 in
theorem gX1_step_X1_bits : GoodIn wsX1_step (va_wsS RX1 49 yX1_bits wsX1_bits) := goodIn_app (goodIn_of _ (by decide +kernel)) ggX1_step_X1_bits
set_option maxRecDepth 20000 in
theorem ggX1_step_X1_withSign : GoodIn wsX1_step wsX1_withSign := goodIn_r _ [22] (by decide +kernel) (by decide +kernel)
set_option maxRecDepth 20000 in
theorem gX1_step_X1_withSign : GoodIn wsX1_step (va_wsS RX1 69 yX1_withSign wsX1_withSign) := goodIn_app (goodIn_of _ (by decide +kernel)) ggX1_step_X1_withSign
set_option maxRecDepth 20000 in
theorem ggX1_step_X1_work : GoodIn wsX1_step wsX1_work := goodIn_r _ [26, 27, 5, 1, 6, 8, 11, 28, 29, 30, 14, 31, 9, 32, 33, 34, 35, 36, 12, 13, 15, 16, 17, 18, 19, 20, 21, 22, 37, 38, 39, 40, 7, 41, 42, 43, 44, 45, 46, 47, 48, 49, 50, 51, 52, 53, 54, 55, 56, 57, 58, 59, 60, 10, 61, 62, 63, 64, 65, 66, 67, 68, 69, 70, 71, 72, 73, 74, 75, 76, 77, 78, 79, 80, 81, 82, 83, 84, 85, 86, 87, 88, 89, 90, 91, 92, 93, 94, 95, 96] (by decide +kernel) (by decide +kernel)
set_option maxRecDepth 20000 in
theorem gX1_step_X1_work : GoodIn wsX1_step (wsV RX1 76 RX1 yX1_work wsX1_work) := goodIn_app (goodIn_of _ (by decide +kernel)) ggX1_step_X1_work
theorem dX1_step_0 : decode cX1_step 0 = .ok (.aload_n 0, 1) := by decide +kernel
theorem dX1_step_1 : decode cX1_step 1 = .ok (.getfield 39, 3) := by decide +kernel
theorem dX1_step_4 : decode cX1_step 4 = .ok (.ifCond .lt 25, 3) := by decide +kernel
theorem dX1_step_7 : decode cX1_step 7 = .ok (.aload_n 0, 1) := by decide +kernel
theorem dX1_step_8 : decode cX1_step 8 = .ok (.getfield 39, 3) := by decide +kernel
theorem dX1_step_11 : decode cX1_step 11 = .ok (.iconst 4, 1) := by decide +kernel
theorem dX1_step_12 : decode cX1_step 12 = .ok (.irem, 1) := by decide +kernel
theorem dX1_step_13 : decode cX1_step 13 = .ok (.ifCond .ne 16, 3) := by decide +kernel
theorem dX1_step_16 : decode cX1_step 16 = .ok (.aload_n 0, 1) := by decide +kernel
theorem dX1_step_17 : decode cX1_step 17 = .ok (.getfield 39, 3) := by decide +kernel
end
section
theorem dX1_step_20 : decode cX1_step 20 = .ok (.iconst 4, 1) := by decide +kernel
theorem dX1_step_21 : decode cX1_step 21 = .ok (.idiv, 1) := by decide +kernel
theorem dX1_step_22 : decode cX1_step 22 = .ok (.aload_n 0, 1) := by decide +kernel
theorem dX1_step_23 : decode cX1_step 23 = .ok (.getfield 21, 3) := by decide +kernel
theorem dX1_step_26 : decode cX1_step 26 = .ok (.if_icmp .lt 5, 3) := by decide +kernel
theorem dX1_step_29 : decode cX1_step 29 = .ok (.iconst 2, 1) := by decide +kernel
theorem dX1_step_30 : decode cX1_step 30 = .ok (.ireturn, 1) := by decide +kernel
theorem dX1_step_31 : decode cX1_step 31 = .ok (.aload_n 0, 1) := by decide +kernel
theorem dX1_step_32 : decode cX1_step 32 = .ok (.getfield 7, 3) := by decide +kernel
theorem dX1_step_35 : decode cX1_step 35 = .ok (.aload_n 0, 1) := by decide +kernel
theorem dX1_step_36 : decode cX1_step 36 = .ok (.getfield 39, 3) := by decide +kernel
theorem dX1_step_39 : decode cX1_step 39 = .ok (.iconst 4, 1) := by decide +kernel
theorem dX1_step_40 : decode cX1_step 40 = .ok (.idiv, 1) := by decide +kernel
theorem dX1_step_41 : decode cX1_step 41 = .ok (.iaload, 1) := by decide +kernel
theorem dX1_step_42 : decode cX1_step 42 = .ok (.istore_n 1, 1) := by decide +kernel
theorem dX1_step_43 : decode cX1_step 43 = .ok (.iload_n 1, 1) := by decide +kernel
theorem dX1_step_44 : decode cX1_step 44 = .ok (.bipush 115, 2) := by decide +kernel
theorem dX1_step_46 : decode cX1_step 46 = .ok (.if_icmp .ne 25, 3) := by decide +kernel
theorem dX1_step_49 : decode cX1_step 49 = .ok (.aload_n 0, 1) := by decide +kernel
theorem dX1_step_50 : decode cX1_step 50 = .ok (.dup, 1) := by decide +kernel
theorem dX1_step_51 : decode cX1_step 51 = .ok (.getfield 42, 3) := by decide +kernel
theorem dX1_step_54 : decode cX1_step 54 = .ok (.iconst 1, 1) := by decide +kernel
theorem dX1_step_55 : decode cX1_step 55 = .ok (.iadd, 1) := by decide +kernel
theorem dX1_step_56 : decode cX1_step 56 = .ok (.putfield 42, 3) := by decide +kernel
theorem dX1_step_59 : decode cX1_step 59 = .ok (.aload_n 0, 1) := by decide +kernel
theorem dX1_step_60 : decode cX1_step 60 = .ok (.dup, 1) := by decide +kernel
theorem dX1_step_61 : decode cX1_step 61 = .ok (.getfield 39, 3) := by decide +kernel
theorem dX1_step_64 : decode cX1_step 64 = .ok (.iconst 4, 1) := by decide +kernel
theorem dX1_step_65 : decode cX1_step 65 = .ok (.iadd, 1) := by decide +kernel
theorem dX1_step_66 : decode cX1_step 66 = .ok (.putfield 39, 3) := by decide +kernel
theorem dX1_step_69 : decode cX1_step 69 = .ok (.iconst 1, 1) := by decide +kernel
theorem dX1_step_70 : decode cX1_step 70 = .ok (.ireturn, 1) := by decide +kernel
theorem dX1_step_71 : decode cX1_step 71 = .ok (.aload_n 0, 1) := by decide +kernel
theorem dX1_step_72 : decode cX1_step 72 = .ok (.iload_n 1, 1) := by decide +kernel
theorem dX1_step_73 : decode cX1_step 73 = .ok (.bipush 7, 2) := by decide +kernel
theorem dX1_step_75 : decode cX1_step 75 = .ok (.iconst 5, 1) := by decide +kernel
theorem dX1_step_76 : decode cX1_step 76 = .ok (.invokestatic 49, 3) := by decide +kernel
theorem dX1_step_79 : decode cX1_step 79 = .ok (.putfield 53, 3) := by decide +kernel
theorem dX1_step_82 : decode cX1_step 82 = .ok (.aload_n 0, 1) := by decide +kernel
theorem dX1_step_83 : decode cX1_step 83 = .ok (.iload_n 1, 1) := by decide +kernel
theorem dX1_step_84 : decode cX1_step 84 = .ok (.bipush 12, 2) := by decide +kernel
theorem dX1_step_86 : decode cX1_step 86 = .ok (.iconst 3, 1) := by decide +kernel
theorem dX1_step_87 : decode cX1_step 87 = .ok (.invokestatic 49, 3) := by decide +kernel
theorem dX1_step_90 : decode cX1_step 90 = .ok (.putfield 56, 3) := by decide +kernel
theorem dX1_step_93 : decode cX1_step 93 = .ok (.aload_n 0, 1) := by decide +kernel
theorem dX1_step_94 : decode cX1_step 94 = .ok (.aload_n 0, 1) := by decide +kernel
theorem dX1_step_95 : decode cX1_step 95 = .ok (.getfield 13, 3) := by decide +kernel
theorem dX1_step_98 : decode cX1_step 98 = .ok (.iload_n 1, 1) := by decide +kernel
theorem dX1_step_99 : decode cX1_step 99 = .ok (.bipush 15, 2) := by decide +kernel
theorem dX1_step_101 : decode cX1_step 101 = .ok (.iconst 5, 1) := by decide +kernel
theorem dX1_step_102 : decode cX1_step 102 = .ok (.invokestatic 49, 3) := by decide +kernel
theorem dX1_step_105 : decode cX1_step 105 = .ok (.laload, 1) := by decide +kernel
theorem dX1_step_106 : decode cX1_step 106 = .ok (.putfield 59, 3) := by decide +kernel
theorem dX1_step_109 : decode cX1_step 109 = .ok (.aload_n 0, 1) := by decide +kernel
theorem dX1_step_110 : decode cX1_step 110 = .ok (.aload_n 0, 1) := by decide +kernel
theorem dX1_step_111 : decode cX1_step 111 = .ok (.getfield 13, 3) := by decide +kernel
theorem dX1_step_114 : decode cX1_step 114 = .ok (.iload_n 1, 1) := by decide +kernel
theorem dX1_step_115 : decode cX1_step 115 = .ok (.bipush 20, 2) := by decide +kernel
theorem dX1_step_117 : decode cX1_step 117 = .ok (.iconst 5, 1) := by decide +kernel
theorem dX1_step_118 : decode cX1_step 118 = .ok (.invokestatic 49, 3) := by decide +kernel
theorem dX1_step_121 : decode cX1_step 121 = .ok (.laload, 1) := by decide +kernel
theorem dX1_step_122 : decode cX1_step 122 = .ok (.putfield 63, 3) := by decide +kernel
theorem dX1_step_125 : decode cX1_step 125 = .ok (.aload_n 0, 1) := by decide +kernel
theorem dX1_step_126 : decode cX1_step 126 = .ok (.iload_n 1, 1) := by decide +kernel
theorem dX1_step_127 : decode cX1_step 127 = .ok (.bipush 25, 2) := by decide +kernel
theorem dX1_step_129 : decode cX1_step 129 = .ok (.bipush 7, 2) := by decide +kernel
theorem dX1_step_131 : decode cX1_step 131 = .ok (.invokestatic 49, 3) := by decide +kernel
theorem dX1_step_134 : decode cX1_step 134 = .ok (.putfield 66, 3) := by decide +kernel
theorem dX1_step_137 : decode cX1_step 137 = .ok (.aload_n 0, 1) := by decide +kernel
theorem dX1_step_138 : decode cX1_step 138 = .ok (.iload_n 1, 1) := by decide +kernel
theorem dX1_step_139 : decode cX1_step 139 = .ok (.bipush 20, 2) := by decide +kernel
theorem dX1_step_141 : decode cX1_step 141 = .ok (.bipush 12, 2) := by decide +kernel
theorem dX1_step_143 : decode cX1_step 143 = .ok (.invokestatic 49, 3) := by decide +kernel
theorem dX1_step_146 : decode cX1_step 146 = .ok (.bipush 12, 2) := by decide +kernel
theorem dX1_step_148 : decode cX1_step 148 = .ok (.invokestatic 69, 3) := by decide +kernel
theorem dX1_step_151 : decode cX1_step 151 = .ok (.putfield 73, 3) := by decide +kernel
theorem dX1_step_154 : decode cX1_step 154 = .ok (.aload_n 0, 1) := by decide +kernel
theorem dX1_step_155 : decode cX1_step 155 = .ok (.iload_n 1, 1) := by decide +kernel
theorem dX1_step_156 : decode cX1_step 156 = .ok (.iconst 0, 1) := by decide +kernel
theorem dX1_step_157 : decode cX1_step 157 = .ok (.bipush 7, 2) := by decide +kernel
theorem dX1_step_159 : decode cX1_step 159 = .ok (.invokestatic 49, 3) := by decide +kernel
theorem dX1_step_162 : decode cX1_step 162 = .ok (.iload_n 1, 1) := by decide +kernel
theorem dX1_step_163 : decode cX1_step 163 = .ok (.invokevirtual 76, 3) := by decide +kernel
theorem dX1_step_166 : decode cX1_step 166 = .ok (.istore_n 2, 1) := by decide +kernel
theorem dX1_step_167 : decode cX1_step 167 = .ok (.iload_n 2, 1) := by decide +kernel
theorem dX1_step_168 : decode cX1_step 168 = .ok (.ifCond .le 5, 3) := by decide +kernel
theorem dX1_step_171 : decode cX1_step 171 = .ok (.iload_n 2, 1) := by decide +kernel
theorem dX1_step_172 : decode cX1_step 172 = .ok (.ireturn, 1) := by decide +kernel
theorem dX1_step_173 : decode cX1_step 173 = .ok (.aload_n 0, 1) := by decide +kernel
theorem dX1_step_174 : decode cX1_step 174 = .ok (.dup, 1) := by decide +kernel
theorem dX1_step_175 : decode cX1_step 175 = .ok (.getfield 42, 3) := by decide +kernel
theorem dX1_step_178 : decode cX1_step 178 = .ok (.iconst 1, 1) := by decide +kernel
theorem dX1_step_179 : decode cX1_step 179 = .ok (.iadd, 1) := by decide +kernel
theorem dX1_step_180 : decode cX1_step 180 = .ok (.putfield 42, 3) := by decide +kernel
theorem dX1_step_183 : decode cX1_step 183 = .ok (.iconst 0, 1) := by decide +kernel
theorem dX1_step_184 : decode cX1_step 184 = .ok (.ireturn, 1) := by decide +kernel
set_option maxRecDepth 20000 in
theorem ggX1_work_X1_branch : GoodIn wsX1_work wsX1_branch := goodIn_r _ [11, 4, 5, 12, 3, 13, 14, 10, 15, 16, 17, 18, 19, 20, 21, 22, 23, 24, 25, 26, 27, 78, 79, 80, 81, 82, 83, 84, 85, 86, 87, 88, 89] (by decide +kernel) (by decide +kernel)
set_option maxRecDepth 20000 in
theorem gX1_work_X1_branch : GoodIn wsX1_work (wsV RX1 79 RX1 yX1_branch wsX1_branch) := goodIn_app (goodIn_of _ (by decide +kernel)) ggX1_work_X1_branch
set_option maxRecDepth 20000 in
theorem ggX1_work_X1_bits : GoodIn wsX1_work wsX1_bits := goodIn_r _ [20, 21, 22, 10, 23, 24] (by decide +kernel) (by decide +kernel)
set_option maxRecDepth 20000 in
theorem gX1_work_X1_bits : GoodIn wsX1_work (va_wsS RX1 49 yX1_bits wsX1_bits) := goodIn_app (goodIn_of _ (by decide +kernel)) ggX1_work_X1_bits
set_option maxRecDepth 20000 in
theorem ggX1_work_X1_give : GoodIn wsX1_work wsX1_give := goodIn_r _ [31, 32, 21, 22, 10, 23, 24, 78, 79, 80, 81, 82, 83, 84, 85, 86, 87, 88, 89] (by decide +kernel) (by decide +kernel)
set_option maxRecDepth 20000 in
theorem gX1_work_X1_give : GoodIn wsX1_work (wsV RX1 35 RX1 yX1_give wsX1_give) := goodIn_app (goodIn_of _ (by decide +kernel)) ggX1_work_X1_give
set_option maxRecDepth 20000 in
theorem ggX1_work_X1_withSign : GoodIn wsX1_work wsX1_withSign := goodIn_r _ [27] (by decide +kernel) (by decide +kernel)
set_option maxRecDepth 20000 in
theorem gX1_work_X1_withSign : GoodIn wsX1_work (va_wsS RX1 69 yX1_withSign wsX1_withSign) := goodIn_app (goodIn_of _ (by decide +kernel)) ggX1_work_X1_withSign
set_option maxRecDepth 20000 in
theorem ggX1_work_X1_load : GoodIn wsX1_work wsX1_load := goodIn_r _ [36, 5, 6, 37, 38, 4, 39, 2, 40, 41, 42, 10, 43, 21, 22, 23, 24, 44, 45, 46, 47, 48, 28, 29, 30, 31, 32, 78, 79, 80, 81, 82, 83, 84, 85, 86, 87, 88, 89] (by decide +kernel) (by decide +kernel)
set_option maxRecDepth 20000 in
theorem gX1_work_X1_load : GoodIn wsX1_work (wsV RX1 84 RX1 yX1_load wsX1_load) := goodIn_app (goodIn_of _ (by decide +kernel)) ggX1_work_X1_load
set_option maxRecDepth 20000 in
theorem ggX1_work_X1_store : GoodIn wsX1_work wsX1_store := goodIn_r _ [52, 5, 53, 2, 12, 37, 38, 40, 41, 42, 10, 43, 4, 25, 26, 27, 21, 22, 23, 24, 44, 45, 46, 47, 48, 78, 79, 80, 81, 82, 83, 84, 85, 86, 87, 88, 89] (by decide +kernel) (by decide +kernel)
set_option maxRecDepth 20000 in
theorem gX1_work_X1_store : GoodIn wsX1_work (wsV RX1 87 RX1 yX1_store wsX1_store) := goodIn_app (goodIn_of _ (by decide +kernel)) ggX1_work_X1_store
set_option maxRecDepth 20000 in
theorem ggX1_work_X1_number : GoodIn wsX1_work wsX1_number := goodIn_r _ [57, 2, 48, 3, 4, 53, 5, 6, 12, 28, 29, 30, 10, 31, 32, 21, 22, 23, 24, 58, 59, 60, 61, 62, 63, 64, 39, 13, 14, 15, 16, 17, 65, 66, 67, 68, 69, 70, 71, 72, 73, 74, 75, 76, 77, 78, 79, 80, 81, 82, 83, 84, 85, 86, 87, 88, 89] (by decide +kernel) (by decide +kernel)
set_option maxRecDepth 20000 in
theorem gX1_work_X1_number : GoodIn wsX1_work (wsV RX1 90 RX1 yX1_number wsX1_number) := goodIn_app (goodIn_of _ (by decide +kernel)) ggX1_work_X1_number
theorem dX1_work_0 : decode cX1_work 0 = .ok (.iload_n 1, 1) := by decide +kernel
theorem dX1_work_1 : decode cX1_work 1 = .ok (.bipush 99, 2) := by decide +kernel
theorem dX1_work_3 : decode cX1_work 3 = .ok (.if_icmp .ne 9, 3) := by decide +kernel
theorem dX1_work_6 : decode cX1_work 6 = .ok (.aload_n 0, 1) := by decide +kernel
theorem dX1_work_7 : decode cX1_work 7 = .ok (.iload_n 2, 1) := by decide +kernel
theorem dX1_work_8 : decode cX1_work 8 = .ok (.invokevirtual 79, 3) := by decide +kernel
theorem dX1_work_11 : decode cX1_work 11 = .ok (.ireturn, 1) := by decide +kernel
theorem dX1_work_12 : decode cX1_work 12 = .ok (.iload_n 1, 1) := by decide +kernel
theorem dX1_work_13 : decode cX1_work 13 = .ok (.bipush 111, 2) := by decide +kernel
theorem dX1_work_15 : decode cX1_work 15 = .ok (.if_icmp .ne 82, 3) := by decide +kernel
theorem dX1_work_18 : decode cX1_work 18 = .ok (.iload_n 2, 1) := by decide +kernel
theorem dX1_work_19 : decode cX1_work 19 = .ok (.bipush 21, 2) := by decide +kernel
theorem dX1_work_21 : decode cX1_work 21 = .ok (.bipush 10, 2) := by decide +kernel
theorem dX1_work_23 : decode cX1_work 23 = .ok (.invokestatic 49, 3) := by decide +kernel
theorem dX1_work_26 : decode cX1_work 26 = .ok (.iconst 2, 1) := by decide +kernel
theorem dX1_work_27 : decode cX1_work 27 = .ok (.imul, 1) := by decide +kernel
theorem dX1_work_28 : decode cX1_work 28 = .ok (.iload_n 2, 1) := by decide +kernel
theorem dX1_work_29 : decode cX1_work 29 = .ok (.bipush 20, 2) := by decide +kernel
theorem dX1_work_31 : decode cX1_work 31 = .ok (.iconst 1, 1) := by decide +kernel
theorem dX1_work_32 : decode cX1_work 32 = .ok (.invokestatic 49, 3) := by decide +kernel
theorem dX1_work_35 : decode cX1_work 35 = .ok (.sipush 2048, 3) := by decide +kernel
theorem dX1_work_38 : decode cX1_work 38 = .ok (.imul, 1) := by decide +kernel
theorem dX1_work_39 : decode cX1_work 39 = .ok (.iadd, 1) := by decide +kernel
theorem dX1_work_40 : decode cX1_work 40 = .ok (.iload_n 2, 1) := by decide +kernel
theorem dX1_work_41 : decode cX1_work 41 = .ok (.bipush 12, 2) := by decide +kernel
theorem dX1_work_43 : decode cX1_work 43 = .ok (.bipush 8, 2) := by decide +kernel
theorem dX1_work_45 : decode cX1_work 45 = .ok (.invokestatic 49, 3) := by decide +kernel
theorem dX1_work_48 : decode cX1_work 48 = .ok (.sipush 4096, 3) := by decide +kernel
theorem dX1_work_51 : decode cX1_work 51 = .ok (.imul, 1) := by decide +kernel
theorem dX1_work_52 : decode cX1_work 52 = .ok (.iadd, 1) := by decide +kernel
theorem dX1_work_53 : decode cX1_work 53 = .ok (.iload_n 2, 1) := by decide +kernel
theorem dX1_work_54 : decode cX1_work 54 = .ok (.bipush 31, 2) := by decide +kernel
theorem dX1_work_56 : decode cX1_work 56 = .ok (.iconst 1, 1) := by decide +kernel
theorem dX1_work_57 : decode cX1_work 57 = .ok (.invokestatic 49, 3) := by decide +kernel
theorem dX1_work_60 : decode cX1_work 60 = .ok (.ldc 83, 2) := by decide +kernel
theorem dX1_work_62 : decode cX1_work 62 = .ok (.imul, 1) := by decide +kernel
theorem dX1_work_63 : decode cX1_work 63 = .ok (.iadd, 1) := by decide +kernel
theorem dX1_work_64 : decode cX1_work 64 = .ok (.istore_n 3, 1) := by decide +kernel
theorem dX1_work_65 : decode cX1_work 65 = .ok (.aload_n 0, 1) := by decide +kernel
theorem dX1_work_66 : decode cX1_work 66 = .ok (.aload_n 0, 1) := by decide +kernel
theorem dX1_work_67 : decode cX1_work 67 = .ok (.getfield 53, 3) := by decide +kernel
theorem dX1_work_70 : decode cX1_work 70 = .ok (.aload_n 0, 1) := by decide +kernel
theorem dX1_work_71 : decode cX1_work 71 = .ok (.getfield 39, 3) := by decide +kernel
theorem dX1_work_74 : decode cX1_work 74 = .ok (.iconst 4, 1) := by decide +kernel
theorem dX1_work_75 : decode cX1_work 75 = .ok (.iadd, 1) := by decide +kernel
theorem dX1_work_76 : decode cX1_work 76 = .ok (.i2l, 1) := by decide +kernel
theorem dX1_work_77 : decode cX1_work 77 = .ok (.invokevirtual 35, 3) := by decide +kernel
theorem dX1_work_80 : decode cX1_work 80 = .ok (.aload_n 0, 1) := by decide +kernel
theorem dX1_work_81 : decode cX1_work 81 = .ok (.dup, 1) := by decide +kernel
theorem dX1_work_82 : decode cX1_work 82 = .ok (.getfield 39, 3) := by decide +kernel
theorem dX1_work_85 : decode cX1_work 85 = .ok (.iload_n 3, 1) := by decide +kernel
theorem dX1_work_86 : decode cX1_work 86 = .ok (.bipush 21, 2) := by decide +kernel
theorem dX1_work_88 : decode cX1_work 88 = .ok (.invokestatic 69, 3) := by decide +kernel
theorem dX1_work_91 : decode cX1_work 91 = .ok (.iadd, 1) := by decide +kernel
theorem dX1_work_92 : decode cX1_work 92 = .ok (.putfield 39, 3) := by decide +kernel
theorem dX1_work_95 : decode cX1_work 95 = .ok (.iconst 0, 1) := by decide +kernel
theorem dX1_work_96 : decode cX1_work 96 = .ok (.ireturn, 1) := by decide +kernel
theorem dX1_work_97 : decode cX1_work 97 = .ok (.iload_n 1, 1) := by decide +kernel
theorem dX1_work_98 : decode cX1_work 98 = .ok (.bipush 103, 2) := by decide +kernel
theorem dX1_work_100 : decode cX1_work 100 = .ok (.if_icmp .ne 47, 3) := by decide +kernel
theorem dX1_work_103 : decode cX1_work 103 = .ok (.aload_n 0, 1) := by decide +kernel
theorem dX1_work_104 : decode cX1_work 104 = .ok (.getfield 56, 3) := by decide +kernel
theorem dX1_work_107 : decode cX1_work 107 = .ok (.ifCond .ne 40, 3) := by decide +kernel
theorem dX1_work_110 : decode cX1_work 110 = .ok (.aload_n 0, 1) := by decide +kernel
theorem dX1_work_111 : decode cX1_work 111 = .ok (.getfield 59, 3) := by decide +kernel
theorem dX1_work_114 : decode cX1_work 114 = .ok (.aload_n 0, 1) := by decide +kernel
theorem dX1_work_115 : decode cX1_work 115 = .ok (.getfield 73, 3) := by decide +kernel
theorem dX1_work_118 : decode cX1_work 118 = .ok (.i2l, 1) := by decide +kernel
theorem dX1_work_119 : decode cX1_work 119 = .ok (.ladd, 1) := by decide +kernel
theorem dX1_work_120 : decode cX1_work 120 = .ok (.l2i, 1) := by decide +kernel
theorem dX1_work_121 : decode cX1_work 121 = .ok (.bipush (-2), 2) := by decide +kernel
theorem dX1_work_123 : decode cX1_work 123 = .ok (.iand, 1) := by decide +kernel
theorem dX1_work_124 : decode cX1_work 124 = .ok (.istore_n 3, 1) := by decide +kernel
theorem dX1_work_125 : decode cX1_work 125 = .ok (.aload_n 0, 1) := by decide +kernel
theorem dX1_work_126 : decode cX1_work 126 = .ok (.aload_n 0, 1) := by decide +kernel
theorem dX1_work_127 : decode cX1_work 127 = .ok (.getfield 53, 3) := by decide +kernel
theorem dX1_work_130 : decode cX1_work 130 = .ok (.aload_n 0, 1) := by decide +kernel
theorem dX1_work_131 : decode cX1_work 131 = .ok (.getfield 39, 3) := by decide +kernel
theorem dX1_work_134 : decode cX1_work 134 = .ok (.iconst 4, 1) := by decide +kernel
theorem dX1_work_135 : decode cX1_work 135 = .ok (.iadd, 1) := by decide +kernel
theorem dX1_work_136 : decode cX1_work 136 = .ok (.i2l, 1) := by decide +kernel
theorem dX1_work_137 : decode cX1_work 137 = .ok (.invokevirtual 35, 3) := by decide +kernel
theorem dX1_work_140 : decode cX1_work 140 = .ok (.aload_n 0, 1) := by decide +kernel
theorem dX1_work_141 : decode cX1_work 141 = .ok (.iload_n 3, 1) := by decide +kernel
theorem dX1_work_142 : decode cX1_work 142 = .ok (.putfield 39, 3) := by decide +kernel
theorem dX1_work_145 : decode cX1_work 145 = .ok (.iconst 0, 1) := by decide +kernel
theorem dX1_work_146 : decode cX1_work 146 = .ok (.ireturn, 1) := by decide +kernel
theorem dX1_work_147 : decode cX1_work 147 = .ok (.iload_n 1, 1) := by decide +kernel
theorem dX1_work_148 : decode cX1_work 148 = .ok (.iconst 3, 1) := by decide +kernel
theorem dX1_work_149 : decode cX1_work 149 = .ok (.if_icmp .ne 10, 3) := by decide +kernel
theorem dX1_work_152 : decode cX1_work 152 = .ok (.aload_n 0, 1) := by decide +kernel
theorem dX1_work_153 : decode cX1_work 153 = .ok (.invokevirtual 84, 3) := by decide +kernel
theorem dX1_work_156 : decode cX1_work 156 = .ok (.goto 22, 3) := by decide +kernel
theorem dX1_work_159 : decode cX1_work 159 = .ok (.iload_n 1, 1) := by decide +kernel
theorem dX1_work_160 : decode cX1_work 160 = .ok (.bipush 35, 2) := by decide +kernel
theorem dX1_work_162 : decode cX1_work 162 = .ok (.if_icmp .ne 10, 3) := by decide +kernel
theorem dX1_work_165 : decode cX1_work 165 = .ok (.aload_n 0, 1) := by decide +kernel
theorem dX1_work_166 : decode cX1_work 166 = .ok (.invokevirtual 87, 3) := by decide +kernel
theorem dX1_work_169 : decode cX1_work 169 = .ok (.goto 9, 3) := by decide +kernel
theorem dX1_work_172 : decode cX1_work 172 = .ok (.aload_n 0, 1) := by decide +kernel
theorem dX1_work_173 : decode cX1_work 173 = .ok (.iload_n 1, 1) := by decide +kernel
theorem dX1_work_174 : decode cX1_work 174 = .ok (.iload_n 2, 1) := by decide +kernel
theorem dX1_work_175 : decode cX1_work 175 = .ok (.invokevirtual 90, 3) := by decide +kernel
theorem dX1_work_178 : decode cX1_work 178 = .ok (.istore_n 3, 1) := by decide +kernel
theorem dX1_work_179 : decode cX1_work 179 = .ok (.iload_n 3, 1) := by decide +kernel
theorem dX1_work_180 : decode cX1_work 180 = .ok (.ifCond .ne 13, 3) := by decide +kernel
theorem dX1_work_183 : decode cX1_work 183 = .ok (.aload_n 0, 1) := by decide +kernel
theorem dX1_work_184 : decode cX1_work 184 = .ok (.dup, 1) := by decide +kernel
theorem dX1_work_185 : decode cX1_work 185 = .ok (.getfield 39, 3) := by decide +kernel
theorem dX1_work_188 : decode cX1_work 188 = .ok (.iconst 4, 1) := by decide +kernel
theorem dX1_work_189 : decode cX1_work 189 = .ok (.iadd, 1) := by decide +kernel
theorem dX1_work_190 : decode cX1_work 190 = .ok (.putfield 39, 3) := by decide +kernel
theorem dX1_work_193 : decode cX1_work 193 = .ok (.iload_n 3, 1) := by decide +kernel
theorem dX1_work_194 : decode cX1_work 194 = .ok (.ireturn, 1) := by decide +kernel
set_option maxRecDepth 20000 in
theorem ggX1_branch_X1_signed : GoodIn wsX1_branch wsX1_signed := goodIn_r _ [8, 9, 10] (by decide +kernel) (by decide +kernel)
set_option maxRecDepth 20000 in
theorem gX1_branch_X1_signed : GoodIn wsX1_branch (va_wsS RX1 93 yX1_signed wsX1_signed) := goodIn_app (goodIn_of _ (by decide +kernel)) ggX1_branch_X1_signed
set_option maxRecDepth 20000 in
theorem ggX1_branch_X1_bits : GoodIn wsX1_branch wsX1_bits := goodIn_r _ [13, 14, 15, 7, 16, 17] (by decide +kernel) (by decide +kernel)
set_option maxRecDepth 20000 in
theorem gX1_branch_X1_bits : GoodIn wsX1_branch (va_wsS RX1 49 yX1_bits wsX1_bits) := goodIn_app (goodIn_of _ (by decide +kernel)) ggX1_branch_X1_bits
set_option maxRecDepth 20000 in
theorem ggX1_branch_X1_withSign : GoodIn wsX1_branch wsX1_withSign := goodIn_r _ [20] (by decide +kernel) (by decide +kernel)
set_option maxRecDepth 20000 in
theorem gX1_branch_X1_withSign : GoodIn wsX1_branch (va_wsS RX1 69 yX1_withSign wsX1_withSign) := goodIn_app (goodIn_of _ (by decide +kernel)) ggX1_branch_X1_withSign
theorem dX1_branch_0 : decode cX1_branch 0 = .ok (.aload_n 0, 1) := by decide +kernel
theorem dX1_branch_1 : decode cX1_branch 1 = .ok (.getfield 56, 3) := by decide +kernel
theorem dX1_branch_4 : decode cX1_branch 4 = .ok (.tableswitch 186 0 7 #[48, 69, 186, 186, 90, 117, 144, 165], 48) := by decide +kernel
theorem dX1_branch_52 : decode cX1_branch 52 = .ok (.aload_n 0, 1) := by decide +kernel
theorem dX1_branch_53 : decode cX1_branch 53 = .ok (.getfield 59, 3) := by decide +kernel
theorem dX1_branch_56 : decode cX1_branch 56 = .ok (.aload_n 0, 1) := by decide +kernel
theorem dX1_branch_57 : decode cX1_branch 57 = .ok (.getfield 63, 3) := by decide +kernel
theorem dX1_branch_60 : decode cX1_branch 60 = .ok (.lcmp, 1) := by decide +kernel
theorem dX1_branch_61 : decode cX1_branch 61 = .ok (.ifCond .ne 7, 3) := by decide +kernel
theorem dX1_branch_64 : decode cX1_branch 64 = .ok (.iconst 1, 1) := by decide +kernel
theorem dX1_branch_65 : decode cX1_branch 65 = .ok (.goto 4, 3) := by decide +kernel
theorem dX1_branch_68 : decode cX1_branch 68 = .ok (.iconst 0, 1) := by decide +kernel
theorem dX1_branch_69 : decode cX1_branch 69 = .ok (.istore_n 2, 1) := by decide +kernel
theorem dX1_branch_70 : decode cX1_branch 70 = .ok (.goto 122, 3) := by decide +kernel
theorem dX1_branch_73 : decode cX1_branch 73 = .ok (.aload_n 0, 1) := by decide +kernel
theorem dX1_branch_74 : decode cX1_branch 74 = .ok (.getfield 59, 3) := by decide +kernel
theorem dX1_branch_77 : decode cX1_branch 77 = .ok (.aload_n 0, 1) := by decide +kernel
theorem dX1_branch_78 : decode cX1_branch 78 = .ok (.getfield 63, 3) := by decide +kernel
theorem dX1_branch_81 : decode cX1_branch 81 = .ok (.lcmp, 1) := by decide +kernel
theorem dX1_branch_82 : decode cX1_branch 82 = .ok (.ifCond .eq 7, 3) := by decide +kernel
theorem dX1_branch_85 : decode cX1_branch 85 = .ok (.iconst 1, 1) := by decide +kernel
theorem dX1_branch_86 : decode cX1_branch 86 = .ok (.goto 4, 3) := by decide +kernel
theorem dX1_branch_89 : decode cX1_branch 89 = .ok (.iconst 0, 1) := by decide +kernel
theorem dX1_branch_90 : decode cX1_branch 90 = .ok (.istore_n 2, 1) := by decide +kernel
theorem dX1_branch_91 : decode cX1_branch 91 = .ok (.goto 101, 3) := by decide +kernel
theorem dX1_branch_94 : decode cX1_branch 94 = .ok (.aload_n 0, 1) := by decide +kernel
theorem dX1_branch_95 : decode cX1_branch 95 = .ok (.getfield 59, 3) := by decide +kernel
theorem dX1_branch_98 : decode cX1_branch 98 = .ok (.invokestatic 93, 3) := by decide +kernel
theorem dX1_branch_101 : decode cX1_branch 101 = .ok (.aload_n 0, 1) := by decide +kernel
theorem dX1_branch_102 : decode cX1_branch 102 = .ok (.getfield 63, 3) := by decide +kernel
theorem dX1_branch_105 : decode cX1_branch 105 = .ok (.invokestatic 93, 3) := by decide +kernel
theorem dX1_branch_108 : decode cX1_branch 108 = .ok (.lcmp, 1) := by decide +kernel
theorem dX1_branch_109 : decode cX1_branch 109 = .ok (.ifCond .ge 7, 3) := by decide +kernel
theorem dX1_branch_112 : decode cX1_branch 112 = .ok (.iconst 1, 1) := by decide +kernel
theorem dX1_branch_113 : decode cX1_branch 113 = .ok (.goto 4, 3) := by decide +kernel
theorem dX1_branch_116 : decode cX1_branch 116 = .ok (.iconst 0, 1) := by decide +kernel
theorem dX1_branch_117 : decode cX1_branch 117 = .ok (.istore_n 2, 1) := by decide +kernel
theorem dX1_branch_118 : decode cX1_branch 118 = .ok (.goto 74, 3) := by decide +kernel
theorem dX1_branch_121 : decode cX1_branch 121 = .ok (.aload_n 0, 1) := by decide +kernel
theorem dX1_branch_122 : decode cX1_branch 122 = .ok (.getfield 59, 3) := by decide +kernel
theorem dX1_branch_125 : decode cX1_branch 125 = .ok (.invokestatic 93, 3) := by decide +kernel
theorem dX1_branch_128 : decode cX1_branch 128 = .ok (.aload_n 0, 1) := by decide +kernel
theorem dX1_branch_129 : decode cX1_branch 129 = .ok (.getfield 63, 3) := by decide +kernel
theorem dX1_branch_132 : decode cX1_branch 132 = .ok (.invokestatic 93, 3) := by decide +kernel
theorem dX1_branch_135 : decode cX1_branch 135 = .ok (.lcmp, 1) := by decide +kernel
theorem dX1_branch_136 : decode cX1_branch 136 = .ok (.ifCond .lt 7, 3) := by decide +kernel
theorem dX1_branch_139 : decode cX1_branch 139 = .ok (.iconst 1, 1) := by decide +kernel
theorem dX1_branch_140 : decode cX1_branch 140 = .ok (.goto 4, 3) := by decide +kernel
theorem dX1_branch_143 : decode cX1_branch 143 = .ok (.iconst 0, 1) := by decide +kernel
theorem dX1_branch_144 : decode cX1_branch 144 = .ok (.istore_n 2, 1) := by decide +kernel
theorem dX1_branch_145 : decode cX1_branch 145 = .ok (.goto 47, 3) := by decide +kernel
theorem dX1_branch_148 : decode cX1_branch 148 = .ok (.aload_n 0, 1) := by decide +kernel
theorem dX1_branch_149 : decode cX1_branch 149 = .ok (.getfield 59, 3) := by decide +kernel
theorem dX1_branch_152 : decode cX1_branch 152 = .ok (.aload_n 0, 1) := by decide +kernel
theorem dX1_branch_153 : decode cX1_branch 153 = .ok (.getfield 63, 3) := by decide +kernel
theorem dX1_branch_156 : decode cX1_branch 156 = .ok (.lcmp, 1) := by decide +kernel
theorem dX1_branch_157 : decode cX1_branch 157 = .ok (.ifCond .ge 7, 3) := by decide +kernel
theorem dX1_branch_160 : decode cX1_branch 160 = .ok (.iconst 1, 1) := by decide +kernel
theorem dX1_branch_161 : decode cX1_branch 161 = .ok (.goto 4, 3) := by decide +kernel
theorem dX1_branch_164 : decode cX1_branch 164 = .ok (.iconst 0, 1) := by decide +kernel
theorem dX1_branch_165 : decode cX1_branch 165 = .ok (.istore_n 2, 1) := by decide +kernel
theorem dX1_branch_166 : decode cX1_branch 166 = .ok (.goto 26, 3) := by decide +kernel
theorem dX1_branch_169 : decode cX1_branch 169 = .ok (.aload_n 0, 1) := by decide +kernel
theorem dX1_branch_170 : decode cX1_branch 170 = .ok (.getfield 59, 3) := by decide +kernel
theorem dX1_branch_173 : decode cX1_branch 173 = .ok (.aload_n 0, 1) := by decide +kernel
theorem dX1_branch_174 : decode cX1_branch 174 = .ok (.getfield 63, 3) := by decide +kernel
theorem dX1_branch_177 : decode cX1_branch 177 = .ok (.lcmp, 1) := by decide +kernel
theorem dX1_branch_178 : decode cX1_branch 178 = .ok (.ifCond .lt 7, 3) := by decide +kernel
theorem dX1_branch_181 : decode cX1_branch 181 = .ok (.iconst 1, 1) := by decide +kernel
theorem dX1_branch_182 : decode cX1_branch 182 = .ok (.goto 4, 3) := by decide +kernel
theorem dX1_branch_185 : decode cX1_branch 185 = .ok (.iconst 0, 1) := by decide +kernel
theorem dX1_branch_186 : decode cX1_branch 186 = .ok (.istore_n 2, 1) := by decide +kernel
theorem dX1_branch_187 : decode cX1_branch 187 = .ok (.goto 5, 3) := by decide +kernel
theorem dX1_branch_190 : decode cX1_branch 190 = .ok (.iconst 3, 1) := by decide +kernel
theorem dX1_branch_191 : decode cX1_branch 191 = .ok (.ireturn, 1) := by decide +kernel
theorem dX1_branch_192 : decode cX1_branch 192 = .ok (.iload_n 1, 1) := by decide +kernel
theorem dX1_branch_193 : decode cX1_branch 193 = .ok (.bipush 8, 2) := by decide +kernel
theorem dX1_branch_195 : decode cX1_branch 195 = .ok (.iconst 4, 1) := by decide +kernel
theorem dX1_branch_196 : decode cX1_branch 196 = .ok (.invokestatic 49, 3) := by decide +kernel
theorem dX1_branch_199 : decode cX1_branch 199 = .ok (.iconst 2, 1) := by decide +kernel
theorem dX1_branch_200 : decode cX1_branch 200 = .ok (.imul, 1) := by decide +kernel
theorem dX1_branch_201 : decode cX1_branch 201 = .ok (.iload_n 1, 1) := by decide +kernel
theorem dX1_branch_202 : decode cX1_branch 202 = .ok (.bipush 25, 2) := by decide +kernel
theorem dX1_branch_204 : decode cX1_branch 204 = .ok (.bipush 6, 2) := by decide +kernel
theorem dX1_branch_206 : decode cX1_branch 206 = .ok (.invokestatic 49, 3) := by decide +kernel
theorem dX1_branch_209 : decode cX1_branch 209 = .ok (.bipush 32, 2) := by decide +kernel
theorem dX1_branch_211 : decode cX1_branch 211 = .ok (.imul, 1) := by decide +kernel
theorem dX1_branch_212 : decode cX1_branch 212 = .ok (.iadd, 1) := by decide +kernel
theorem dX1_branch_213 : decode cX1_branch 213 = .ok (.iload_n 1, 1) := by decide +kernel
theorem dX1_branch_214 : decode cX1_branch 214 = .ok (.bipush 7, 2) := by decide +kernel
theorem dX1_branch_216 : decode cX1_branch 216 = .ok (.iconst 1, 1) := by decide +kernel
theorem dX1_branch_217 : decode cX1_branch 217 = .ok (.invokestatic 49, 3) := by decide +kernel
theorem dX1_branch_220 : decode cX1_branch 220 = .ok (.sipush 2048, 3) := by decide +kernel
theorem dX1_branch_223 : decode cX1_branch 223 = .ok (.imul, 1) := by decide +kernel
theorem dX1_branch_224 : decode cX1_branch 224 = .ok (.iadd, 1) := by decide +kernel
theorem dX1_branch_225 : decode cX1_branch 225 = .ok (.iload_n 1, 1) := by decide +kernel
theorem dX1_branch_226 : decode cX1_branch 226 = .ok (.bipush 31, 2) := by decide +kernel
theorem dX1_branch_228 : decode cX1_branch 228 = .ok (.iconst 1, 1) := by decide +kernel
theorem dX1_branch_229 : decode cX1_branch 229 = .ok (.invokestatic 49, 3) := by decide +kernel
theorem dX1_branch_232 : decode cX1_branch 232 = .ok (.sipush 4096, 3) := by decide +kernel
theorem dX1_branch_235 : decode cX1_branch 235 = .ok (.imul, 1) := by decide +kernel
theorem dX1_branch_236 : decode cX1_branch 236 = .ok (.iadd, 1) := by decide +kernel
theorem dX1_branch_237 : decode cX1_branch 237 = .ok (.istore_n 3, 1) := by decide +kernel
theorem dX1_branch_238 : decode cX1_branch 238 = .ok (.aload_n 0, 1) := by decide +kernel
theorem dX1_branch_239 : decode cX1_branch 239 = .ok (.dup, 1) := by decide +kernel
theorem dX1_branch_240 : decode cX1_branch 240 = .ok (.getfield 39, 3) := by decide +kernel
theorem dX1_branch_243 : decode cX1_branch 243 = .ok (.iload_n 2, 1) := by decide +kernel
theorem dX1_branch_244 : decode cX1_branch 244 = .ok (.ifCond .eq 12, 3) := by decide +kernel
theorem dX1_branch_247 : decode cX1_branch 247 = .ok (.iload_n 3, 1) := by decide +kernel
theorem dX1_branch_248 : decode cX1_branch 248 = .ok (.bipush 13, 2) := by decide +kernel
theorem dX1_branch_250 : decode cX1_branch 250 = .ok (.invokestatic 69, 3) := by decide +kernel
theorem dX1_branch_253 : decode cX1_branch 253 = .ok (.goto 4, 3) := by decide +kernel
theorem dX1_branch_256 : decode cX1_branch 256 = .ok (.iconst 4, 1) := by decide +kernel
theorem dX1_branch_257 : decode cX1_branch 257 = .ok (.iadd, 1) := by decide +kernel
theorem dX1_branch_258 : decode cX1_branch 258 = .ok (.putfield 39, 3) := by decide +kernel
theorem dX1_branch_261 : decode cX1_branch 261 = .ok (.iconst 0, 1) := by decide +kernel
theorem dX1_branch_262 : decode cX1_branch 262 = .ok (.ireturn, 1) := by decide +kernel
theorem dX1_width_0 : decode cX1_width 0 = .ok (.aload_n 0, 1) := by decide +kernel
theorem dX1_width_1 : decode cX1_width 1 = .ok (.getfield 56, 3) := by decide +kernel
theorem dX1_width_4 : decode cX1_width 4 = .ok (.ifCond .eq 15, 3) := by decide +kernel
theorem dX1_width_7 : decode cX1_width 7 = .ok (.iload_n 1, 1) := by decide +kernel
theorem dX1_width_8 : decode cX1_width 8 = .ok (.ifCond .eq 15, 3) := by decide +kernel
theorem dX1_width_11 : decode cX1_width 11 = .ok (.aload_n 0, 1) := by decide +kernel
theorem dX1_width_12 : decode cX1_width 12 = .ok (.getfield 56, 3) := by decide +kernel
theorem dX1_width_15 : decode cX1_width 15 = .ok (.iconst 4, 1) := by decide +kernel
theorem dX1_width_16 : decode cX1_width 16 = .ok (.if_icmp .ne 7, 3) := by decide +kernel
theorem dX1_width_19 : decode cX1_width 19 = .ok (.iconst 1, 1) := by decide +kernel
theorem dX1_width_20 : decode cX1_width 20 = .ok (.goto 40, 3) := by decide +kernel
theorem dX1_width_23 : decode cX1_width 23 = .ok (.aload_n 0, 1) := by decide +kernel
theorem dX1_width_24 : decode cX1_width 24 = .ok (.getfield 56, 3) := by decide +kernel
theorem dX1_width_27 : decode cX1_width 27 = .ok (.iconst 1, 1) := by decide +kernel
theorem dX1_width_28 : decode cX1_width 28 = .ok (.if_icmp .eq 15, 3) := by decide +kernel
theorem dX1_width_31 : decode cX1_width 31 = .ok (.iload_n 1, 1) := by decide +kernel
theorem dX1_width_32 : decode cX1_width 32 = .ok (.ifCond .eq 15, 3) := by decide +kernel
theorem dX1_width_35 : decode cX1_width 35 = .ok (.aload_n 0, 1) := by decide +kernel
theorem dX1_width_36 : decode cX1_width 36 = .ok (.getfield 56, 3) := by decide +kernel
theorem dX1_width_39 : decode cX1_width 39 = .ok (.iconst 5, 1) := by decide +kernel
theorem dX1_width_40 : decode cX1_width 40 = .ok (.if_icmp .ne 7, 3) := by decide +kernel
theorem dX1_width_43 : decode cX1_width 43 = .ok (.iconst 2, 1) := by decide +kernel
theorem dX1_width_44 : decode cX1_width 44 = .ok (.goto 16, 3) := by decide +kernel
theorem dX1_width_47 : decode cX1_width 47 = .ok (.aload_n 0, 1) := by decide +kernel
theorem dX1_width_48 : decode cX1_width 48 = .ok (.getfield 56, 3) := by decide +kernel
theorem dX1_width_51 : decode cX1_width 51 = .ok (.iconst 2, 1) := by decide +kernel
theorem dX1_width_52 : decode cX1_width 52 = .ok (.if_icmp .ne 7, 3) := by decide +kernel
theorem dX1_width_55 : decode cX1_width 55 = .ok (.iconst 4, 1) := by decide +kernel
theorem dX1_width_56 : decode cX1_width 56 = .ok (.goto 4, 3) := by decide +kernel
theorem dX1_width_59 : decode cX1_width 59 = .ok (.iconst 0, 1) := by decide +kernel
theorem dX1_width_60 : decode cX1_width 60 = .ok (.ireturn, 1) := by decide +kernel
theorem dX1_isThere_0 : decode cX1_isThere 0 = .ok (.lload_n 1, 1) := by decide +kernel
theorem dX1_isThere_1 : decode cX1_isThere 1 = .ok (.iload_n 3, 1) := by decide +kernel
theorem dX1_isThere_2 : decode cX1_isThere 2 = .ok (.i2l, 1) := by decide +kernel
theorem dX1_isThere_3 : decode cX1_isThere 3 = .ok (.lrem, 1) := by decide +kernel
theorem dX1_isThere_4 : decode cX1_isThere 4 = .ok (.lconst 0, 1) := by decide +kernel
theorem dX1_isThere_5 : decode cX1_isThere 5 = .ok (.lcmp, 1) := by decide +kernel
theorem dX1_isThere_6 : decode cX1_isThere 6 = .ok (.ifCond .ne 18, 3) := by decide +kernel
theorem dX1_isThere_9 : decode cX1_isThere 9 = .ok (.lload_n 1, 1) := by decide +kernel
theorem dX1_isThere_10 : decode cX1_isThere 10 = .ok (.iload_n 3, 1) := by decide +kernel
theorem dX1_isThere_11 : decode cX1_isThere 11 = .ok (.i2l, 1) := by decide +kernel
theorem dX1_isThere_12 : decode cX1_isThere 12 = .ok (.ladd, 1) := by decide +kernel
theorem dX1_isThere_13 : decode cX1_isThere 13 = .ok (.ldc2_w 96, 3) := by decide +kernel
theorem dX1_isThere_16 : decode cX1_isThere 16 = .ok (.lcmp, 1) := by decide +kernel
theorem dX1_isThere_17 : decode cX1_isThere 17 = .ok (.ifCond .gt 7, 3) := by decide +kernel
theorem dX1_isThere_20 : decode cX1_isThere 20 = .ok (.iconst 1, 1) := by decide +kernel
theorem dX1_isThere_21 : decode cX1_isThere 21 = .ok (.goto 4, 3) := by decide +kernel
theorem dX1_isThere_24 : decode cX1_isThere 24 = .ok (.iconst 0, 1) := by decide +kernel
theorem dX1_isThere_25 : decode cX1_isThere 25 = .ok (.ireturn, 1) := by decide +kernel
set_option maxRecDepth 20000 in
theorem ggX1_load_X1_width : GoodIn wsX1_load wsX1_width := goodIn_r _ [12, 5, 27, 28, 29, 30, 31, 32, 33, 34, 35, 36, 37, 38] (by decide +kernel) (by decide +kernel)
set_option maxRecDepth 20000 in
theorem gX1_load_X1_width : GoodIn wsX1_load (wsV RX1 98 RX1 yX1_width wsX1_width) := goodIn_app (goodIn_of _ (by decide +kernel)) ggX1_load_X1_width
set_option maxRecDepth 20000 in
theorem ggX1_load_X1_plain : GoodIn wsX1_load wsX1_plain := goodIn_r _ [15, 16] (by decide +kernel) (by decide +kernel)
set_option maxRecDepth 20000 in
theorem gX1_load_X1_plain : GoodIn wsX1_load (va_wsS RX1 31 yX1_plain wsX1_plain) := goodIn_app (goodIn_of _ (by decide +kernel)) ggX1_load_X1_plain
set_option maxRecDepth 20000 in
theorem ggX1_load_X1_isThere : GoodIn wsX1_load wsX1_isThere := goodIn_r _ [20, 21] (by decide +kernel) (by decide +kernel)
set_option maxRecDepth 20000 in
theorem gX1_load_X1_isThere : GoodIn wsX1_load (wsV RX1 102 RX1 yX1_isThere wsX1_isThere) := goodIn_app (goodIn_of _ (by decide +kernel)) ggX1_load_X1_isThere
set_option maxRecDepth 20000 in
theorem ggX1_load_X1_give : GoodIn wsX1_load wsX1_give := goodIn_r _ [25, 26, 13, 14, 11, 15, 16, 27, 28, 29, 30, 31, 32, 33, 34, 35, 36, 37, 38] (by decide +kernel) (by decide +kernel)
set_option maxRecDepth 20000 in
theorem gX1_load_X1_give : GoodIn wsX1_load (wsV RX1 35 RX1 yX1_give wsX1_give) := goodIn_app (goodIn_of _ (by decide +kernel)) ggX1_load_X1_give
theorem dX1_load_0 : decode cX1_load 0 = .ok (.aload_n 0, 1) := by decide +kernel
theorem dX1_load_1 : decode cX1_load 1 = .ok (.iconst 1, 1) := by decide +kernel
theorem dX1_load_2 : decode cX1_load 2 = .ok (.invokevirtual 98, 3) := by decide +kernel
theorem dX1_load_5 : decode cX1_load 5 = .ok (.istore_n 1, 1) := by decide +kernel
theorem dX1_load_6 : decode cX1_load 6 = .ok (.iload_n 1, 1) := by decide +kernel
theorem dX1_load_7 : decode cX1_load 7 = .ok (.ifCond .ne 5, 3) := by decide +kernel
theorem dX1_load_10 : decode cX1_load 10 = .ok (.iconst 3, 1) := by decide +kernel
theorem dX1_load_11 : decode cX1_load 11 = .ok (.ireturn, 1) := by decide +kernel
theorem dX1_load_12 : decode cX1_load 12 = .ok (.aload_n 0, 1) := by decide +kernel
theorem dX1_load_13 : decode cX1_load 13 = .ok (.getfield 59, 3) := by decide +kernel
theorem dX1_load_16 : decode cX1_load 16 = .ok (.aload_n 0, 1) := by decide +kernel
theorem dX1_load_17 : decode cX1_load 17 = .ok (.getfield 73, 3) := by decide +kernel
theorem dX1_load_20 : decode cX1_load 20 = .ok (.i2l, 1) := by decide +kernel
theorem dX1_load_21 : decode cX1_load 21 = .ok (.ladd, 1) := by decide +kernel
theorem dX1_load_22 : decode cX1_load 22 = .ok (.invokestatic 31, 3) := by decide +kernel
theorem dX1_load_25 : decode cX1_load 25 = .ok (.lstore_n 2, 1) := by decide +kernel
theorem dX1_load_26 : decode cX1_load 26 = .ok (.aload_n 0, 1) := by decide +kernel
theorem dX1_load_27 : decode cX1_load 27 = .ok (.lload_n 2, 1) := by decide +kernel
theorem dX1_load_28 : decode cX1_load 28 = .ok (.iload_n 1, 1) := by decide +kernel
theorem dX1_load_29 : decode cX1_load 29 = .ok (.invokevirtual 102, 3) := by decide +kernel
theorem dX1_load_32 : decode cX1_load 32 = .ok (.ifCond .ne 5, 3) := by decide +kernel
theorem dX1_load_35 : decode cX1_load 35 = .ok (.iconst 4, 1) := by decide +kernel
theorem dX1_load_36 : decode cX1_load 36 = .ok (.ireturn, 1) := by decide +kernel
theorem dX1_load_37 : decode cX1_load 37 = .ok (.lconst 0, 1) := by decide +kernel
theorem dX1_load_38 : decode cX1_load 38 = .ok (.lstore 4, 2) := by decide +kernel
theorem dX1_load_40 : decode cX1_load 40 = .ok (.lconst 1, 1) := by decide +kernel
end
section
theorem dX1_load_41 : decode cX1_load 41 = .ok (.lstore 6, 2) := by decide +kernel
theorem dX1_load_43 : decode cX1_load 43 = .ok (.iconst 0, 1) := by decide +kernel
theorem dX1_load_44 : decode cX1_load 44 = .ok (.istore 8, 2) := by decide +kernel
theorem dX1_load_46 : decode cX1_load 46 = .ok (.iload 8, 2) := by decide +kernel
theorem dX1_load_48 : decode cX1_load 48 = .ok (.iload_n 1, 1) := by decide +kernel
theorem dX1_load_49 : decode cX1_load 49 = .ok (.if_icmp .ge 40, 3) := by decide +kernel
theorem dX1_load_52 : decode cX1_load 52 = .ok (.lload 4, 2) := by decide +kernel
theorem dX1_load_54 : decode cX1_load 54 = .ok (.aload_n 0, 1) := by decide +kernel
theorem dX1_load_55 : decode cX1_load 55 = .ok (.getfield 17, 3) := by decide +kernel
theorem dX1_load_58 : decode cX1_load 58 = .ok (.lload_n 2, 1) := by decide +kernel
theorem dX1_load_59 : decode cX1_load 59 = .ok (.l2i, 1) := by decide +kernel
theorem dX1_load_60 : decode cX1_load 60 = .ok (.iload 8, 2) := by decide +kernel
theorem dX1_load_62 : decode cX1_load 62 = .ok (.iadd, 1) := by decide +kernel
theorem dX1_load_63 : decode cX1_load 63 = .ok (.baload, 1) := by decide +kernel
theorem dX1_load_64 : decode cX1_load 64 = .ok (.sipush 255, 3) := by decide +kernel
theorem dX1_load_67 : decode cX1_load 67 = .ok (.iand, 1) := by decide +kernel
theorem dX1_load_68 : decode cX1_load 68 = .ok (.i2l, 1) := by decide +kernel
theorem dX1_load_69 : decode cX1_load 69 = .ok (.lload 6, 2) := by decide +kernel
theorem dX1_load_71 : decode cX1_load 71 = .ok (.lmul, 1) := by decide +kernel
theorem dX1_load_72 : decode cX1_load 72 = .ok (.ladd, 1) := by decide +kernel
theorem dX1_load_73 : decode cX1_load 73 = .ok (.lstore 4, 2) := by decide +kernel
theorem dX1_load_75 : decode cX1_load 75 = .ok (.lload 6, 2) := by decide +kernel
theorem dX1_load_77 : decode cX1_load 77 = .ok (.ldc2_w 106, 3) := by decide +kernel
theorem dX1_load_80 : decode cX1_load 80 = .ok (.lmul, 1) := by decide +kernel
theorem dX1_load_81 : decode cX1_load 81 = .ok (.lstore 6, 2) := by decide +kernel
theorem dX1_load_83 : decode cX1_load 83 = .ok (.iinc 8 1, 3) := by decide +kernel
theorem dX1_load_86 : decode cX1_load 86 = .ok (.goto (-40), 3) := by decide +kernel
theorem dX1_load_89 : decode cX1_load 89 = .ok (.aload_n 0, 1) := by decide +kernel
theorem dX1_load_90 : decode cX1_load 90 = .ok (.getfield 56, 3) := by decide +kernel
theorem dX1_load_93 : decode cX1_load 93 = .ok (.iconst 2, 1) := by decide +kernel
theorem dX1_load_94 : decode cX1_load 94 = .ok (.if_icmp .ge 22, 3) := by decide +kernel
theorem dX1_load_97 : decode cX1_load 97 = .ok (.lload 4, 2) := by decide +kernel
theorem dX1_load_99 : decode cX1_load 99 = .ok (.lload 6, 2) := by decide +kernel
theorem dX1_load_101 : decode cX1_load 101 = .ok (.ldc2_w 108, 3) := by decide +kernel
theorem dX1_load_104 : decode cX1_load 104 = .ok (.ldiv, 1) := by decide +kernel
theorem dX1_load_105 : decode cX1_load 105 = .ok (.lcmp, 1) := by decide +kernel
theorem dX1_load_106 : decode cX1_load 106 = .ok (.ifCond .lt 10, 3) := by decide +kernel
theorem dX1_load_109 : decode cX1_load 109 = .ok (.lload 4, 2) := by decide +kernel
theorem dX1_load_111 : decode cX1_load 111 = .ok (.lload 6, 2) := by decide +kernel
theorem dX1_load_113 : decode cX1_load 113 = .ok (.lsub, 1) := by decide +kernel
theorem dX1_load_114 : decode cX1_load 114 = .ok (.lstore 4, 2) := by decide +kernel
theorem dX1_load_116 : decode cX1_load 116 = .ok (.aload_n 0, 1) := by decide +kernel
theorem dX1_load_117 : decode cX1_load 117 = .ok (.aload_n 0, 1) := by decide +kernel
theorem dX1_load_118 : decode cX1_load 118 = .ok (.getfield 53, 3) := by decide +kernel
theorem dX1_load_121 : decode cX1_load 121 = .ok (.lload 4, 2) := by decide +kernel
theorem dX1_load_123 : decode cX1_load 123 = .ok (.invokevirtual 35, 3) := by decide +kernel
theorem dX1_load_126 : decode cX1_load 126 = .ok (.iconst 0, 1) := by decide +kernel
theorem dX1_load_127 : decode cX1_load 127 = .ok (.ireturn, 1) := by decide +kernel
set_option maxRecDepth 20000 in
theorem ggX1_store_X1_width : GoodIn wsX1_store wsX1_width := goodIn_r _ [11, 12, 25, 26, 27, 28, 29, 30, 31, 32, 33, 34, 35, 36] (by decide +kernel) (by decide +kernel)
set_option maxRecDepth 20000 in
theorem gX1_store_X1_width : GoodIn wsX1_store (wsV RX1 98 RX1 yX1_width wsX1_width) := goodIn_app (goodIn_of _ (by decide +kernel)) ggX1_store_X1_width
set_option maxRecDepth 20000 in
theorem ggX1_store_X1_withSign : GoodIn wsX1_store wsX1_withSign := goodIn_r _ [15] (by decide +kernel) (by decide +kernel)
set_option maxRecDepth 20000 in
theorem gX1_store_X1_withSign : GoodIn wsX1_store (va_wsS RX1 69 yX1_withSign wsX1_withSign) := goodIn_app (goodIn_of _ (by decide +kernel)) ggX1_store_X1_withSign
set_option maxRecDepth 20000 in
theorem ggX1_store_X1_plain : GoodIn wsX1_store wsX1_plain := goodIn_r _ [18, 19] (by decide +kernel) (by decide +kernel)
set_option maxRecDepth 20000 in
theorem gX1_store_X1_plain : GoodIn wsX1_store (va_wsS RX1 31 yX1_plain wsX1_plain) := goodIn_app (goodIn_of _ (by decide +kernel)) ggX1_store_X1_plain
set_option maxRecDepth 20000 in
theorem ggX1_store_X1_isThere : GoodIn wsX1_store wsX1_isThere := goodIn_r _ [23, 24] (by decide +kernel) (by decide +kernel)
set_option maxRecDepth 20000 in
theorem gX1_store_X1_isThere : GoodIn wsX1_store (wsV RX1 102 RX1 yX1_isThere wsX1_isThere) := goodIn_app (goodIn_of _ (by decide +kernel)) ggX1_store_X1_isThere
theorem dX1_store_0 : decode cX1_store 0 = .ok (.aload_n 0, 1) := by decide +kernel
theorem dX1_store_1 : decode cX1_store 1 = .ok (.iconst 0, 1) := by decide +kernel
theorem dX1_store_2 : decode cX1_store 2 = .ok (.invokevirtual 98, 3) := by decide +kernel
theorem dX1_store_5 : decode cX1_store 5 = .ok (.istore_n 1, 1) := by decide +kernel
theorem dX1_store_6 : decode cX1_store 6 = .ok (.iload_n 1, 1) := by decide +kernel
theorem dX1_store_7 : decode cX1_store 7 = .ok (.ifCond .ne 5, 3) := by decide +kernel
theorem dX1_store_10 : decode cX1_store 10 = .ok (.iconst 3, 1) := by decide +kernel
theorem dX1_store_11 : decode cX1_store 11 = .ok (.ireturn, 1) := by decide +kernel
theorem dX1_store_12 : decode cX1_store 12 = .ok (.aload_n 0, 1) := by decide +kernel
theorem dX1_store_13 : decode cX1_store 13 = .ok (.getfield 59, 3) := by decide +kernel
theorem dX1_store_16 : decode cX1_store 16 = .ok (.aload_n 0, 1) := by decide +kernel
theorem dX1_store_17 : decode cX1_store 17 = .ok (.getfield 66, 3) := by decide +kernel
theorem dX1_store_20 : decode cX1_store 20 = .ok (.bipush 32, 2) := by decide +kernel
theorem dX1_store_22 : decode cX1_store 22 = .ok (.imul, 1) := by decide +kernel
theorem dX1_store_23 : decode cX1_store 23 = .ok (.aload_n 0, 1) := by decide +kernel
theorem dX1_store_24 : decode cX1_store 24 = .ok (.getfield 53, 3) := by decide +kernel
theorem dX1_store_27 : decode cX1_store 27 = .ok (.iadd, 1) := by decide +kernel
theorem dX1_store_28 : decode cX1_store 28 = .ok (.bipush 12, 2) := by decide +kernel
theorem dX1_store_30 : decode cX1_store 30 = .ok (.invokestatic 69, 3) := by decide +kernel
theorem dX1_store_33 : decode cX1_store 33 = .ok (.i2l, 1) := by decide +kernel
theorem dX1_store_34 : decode cX1_store 34 = .ok (.ladd, 1) := by decide +kernel
theorem dX1_store_35 : decode cX1_store 35 = .ok (.invokestatic 31, 3) := by decide +kernel
theorem dX1_store_38 : decode cX1_store 38 = .ok (.lstore_n 2, 1) := by decide +kernel
theorem dX1_store_39 : decode cX1_store 39 = .ok (.aload_n 0, 1) := by decide +kernel
theorem dX1_store_40 : decode cX1_store 40 = .ok (.lload_n 2, 1) := by decide +kernel
theorem dX1_store_41 : decode cX1_store 41 = .ok (.iload_n 1, 1) := by decide +kernel
theorem dX1_store_42 : decode cX1_store 42 = .ok (.invokevirtual 102, 3) := by decide +kernel
theorem dX1_store_45 : decode cX1_store 45 = .ok (.ifCond .ne 5, 3) := by decide +kernel
theorem dX1_store_48 : decode cX1_store 48 = .ok (.iconst 4, 1) := by decide +kernel
theorem dX1_store_49 : decode cX1_store 49 = .ok (.ireturn, 1) := by decide +kernel
theorem dX1_store_50 : decode cX1_store 50 = .ok (.aload_n 0, 1) := by decide +kernel
theorem dX1_store_51 : decode cX1_store 51 = .ok (.getfield 63, 3) := by decide +kernel
theorem dX1_store_54 : decode cX1_store 54 = .ok (.lstore 4, 2) := by decide +kernel
theorem dX1_store_56 : decode cX1_store 56 = .ok (.iconst 0, 1) := by decide +kernel
theorem dX1_store_57 : decode cX1_store 57 = .ok (.istore 6, 2) := by decide +kernel
theorem dX1_store_59 : decode cX1_store 59 = .ok (.iload 6, 2) := by decide +kernel
theorem dX1_store_61 : decode cX1_store 61 = .ok (.iload_n 1, 1) := by decide +kernel
theorem dX1_store_62 : decode cX1_store 62 = .ok (.if_icmp .ge 35, 3) := by decide +kernel
theorem dX1_store_65 : decode cX1_store 65 = .ok (.aload_n 0, 1) := by decide +kernel
theorem dX1_store_66 : decode cX1_store 66 = .ok (.getfield 17, 3) := by decide +kernel
theorem dX1_store_69 : decode cX1_store 69 = .ok (.lload_n 2, 1) := by decide +kernel
theorem dX1_store_70 : decode cX1_store 70 = .ok (.l2i, 1) := by decide +kernel
theorem dX1_store_71 : decode cX1_store 71 = .ok (.iload 6, 2) := by decide +kernel
theorem dX1_store_73 : decode cX1_store 73 = .ok (.iadd, 1) := by decide +kernel
theorem dX1_store_74 : decode cX1_store 74 = .ok (.lload 4, 2) := by decide +kernel
theorem dX1_store_76 : decode cX1_store 76 = .ok (.ldc2_w 106, 3) := by decide +kernel
theorem dX1_store_79 : decode cX1_store 79 = .ok (.lrem, 1) := by decide +kernel
theorem dX1_store_80 : decode cX1_store 80 = .ok (.l2i, 1) := by decide +kernel
theorem dX1_store_81 : decode cX1_store 81 = .ok (.i2b, 1) := by decide +kernel
theorem dX1_store_82 : decode cX1_store 82 = .ok (.bastore, 1) := by decide +kernel
theorem dX1_store_83 : decode cX1_store 83 = .ok (.lload 4, 2) := by decide +kernel
theorem dX1_store_85 : decode cX1_store 85 = .ok (.ldc2_w 106, 3) := by decide +kernel
theorem dX1_store_88 : decode cX1_store 88 = .ok (.ldiv, 1) := by decide +kernel
theorem dX1_store_89 : decode cX1_store 89 = .ok (.lstore 4, 2) := by decide +kernel
theorem dX1_store_91 : decode cX1_store 91 = .ok (.iinc 6 1, 3) := by decide +kernel
theorem dX1_store_94 : decode cX1_store 94 = .ok (.goto (-35), 3) := by decide +kernel
theorem dX1_store_97 : decode cX1_store 97 = .ok (.iconst 0, 1) := by decide +kernel
theorem dX1_store_98 : decode cX1_store 98 = .ok (.ireturn, 1) := by decide +kernel
set_option maxRecDepth 20000 in
theorem ggX1_number_X1_give : GoodIn wsX1_number wsX1_give := goodIn_r _ [13, 14, 15, 16, 12, 17, 18, 45, 46, 47, 48, 49, 50, 51, 52, 53, 54, 55, 56] (by decide +kernel) (by decide +kernel)
set_option maxRecDepth 20000 in
theorem gX1_number_X1_give : GoodIn wsX1_number (wsV RX1 35 RX1 yX1_give wsX1_give) := goodIn_app (goodIn_of _ (by decide +kernel)) ggX1_number_X1_give
set_option maxRecDepth 20000 in
theorem ggX1_number_X1_plain : GoodIn wsX1_number wsX1_plain := goodIn_r _ [17, 18] (by decide +kernel) (by decide +kernel)
set_option maxRecDepth 20000 in
theorem gX1_number_X1_plain : GoodIn wsX1_number (va_wsS RX1 31 yX1_plain wsX1_plain) := goodIn_app (goodIn_of _ (by decide +kernel)) ggX1_number_X1_plain
set_option maxRecDepth 20000 in
theorem ggX1_number_X1_made : GoodIn wsX1_number wsX1_made := goodIn_r _ [21, 22, 23, 24, 12, 25, 26, 27, 28, 29, 30, 31, 32, 33, 34] (by decide +kernel) (by decide +kernel)
set_option maxRecDepth 20000 in
theorem gX1_number_X1_made : GoodIn wsX1_number (va_wsS RX1 110 yX1_made wsX1_made) := goodIn_app (goodIn_of _ (by decide +kernel)) ggX1_number_X1_made
set_option maxRecDepth 20000 in
theorem ggX1_number_X1_product : GoodIn wsX1_number wsX1_product := goodIn_r _ [38, 6, 8, 4, 31, 39, 27, 28, 12, 29, 30, 32, 33, 34, 40, 41, 42, 43, 44, 45, 46, 47, 48, 49, 50, 51, 52, 53, 54, 55, 56] (by decide +kernel) (by decide +kernel)
set_option maxRecDepth 20000 in
theorem gX1_number_X1_product : GoodIn wsX1_number (wsV RX1 114 RX1 yX1_product wsX1_product) := goodIn_app (goodIn_of _ (by decide +kernel)) ggX1_number_X1_product
theorem dX1_number_0 : decode cX1_number 0 = .ok (.iload_n 1, 1) := by decide +kernel
theorem dX1_number_1 : decode cX1_number 1 = .ok (.bipush 55, 2) := by decide +kernel
theorem dX1_number_3 : decode cX1_number 3 = .ok (.if_icmp .eq 9, 3) := by decide +kernel
theorem dX1_number_6 : decode cX1_number 6 = .ok (.iload_n 1, 1) := by decide +kernel
theorem dX1_number_7 : decode cX1_number 7 = .ok (.bipush 23, 2) := by decide +kernel
theorem dX1_number_9 : decode cX1_number 9 = .ok (.if_icmp .ne 38, 3) := by decide +kernel
theorem dX1_number_12 : decode cX1_number 12 = .ok (.aload_n 0, 1) := by decide +kernel
theorem dX1_number_13 : decode cX1_number 13 = .ok (.aload_n 0, 1) := by decide +kernel
theorem dX1_number_14 : decode cX1_number 14 = .ok (.getfield 53, 3) := by decide +kernel
theorem dX1_number_17 : decode cX1_number 17 = .ok (.iload_n 2, 1) := by decide +kernel
theorem dX1_number_18 : decode cX1_number 18 = .ok (.bipush 12, 2) := by decide +kernel
theorem dX1_number_20 : decode cX1_number 20 = .ok (.ishr, 1) := by decide +kernel
theorem dX1_number_21 : decode cX1_number 21 = .ok (.i2l, 1) := by decide +kernel
theorem dX1_number_22 : decode cX1_number 22 = .ok (.ldc2_w 96, 3) := by decide +kernel
theorem dX1_number_25 : decode cX1_number 25 = .ok (.lmul, 1) := by decide +kernel
theorem dX1_number_26 : decode cX1_number 26 = .ok (.iload_n 1, 1) := by decide +kernel
theorem dX1_number_27 : decode cX1_number 27 = .ok (.bipush 23, 2) := by decide +kernel
theorem dX1_number_29 : decode cX1_number 29 = .ok (.if_icmp .ne 10, 3) := by decide +kernel
theorem dX1_number_32 : decode cX1_number 32 = .ok (.aload_n 0, 1) := by decide +kernel
theorem dX1_number_33 : decode cX1_number 33 = .ok (.getfield 39, 3) := by decide +kernel
theorem dX1_number_36 : decode cX1_number 36 = .ok (.goto 4, 3) := by decide +kernel
theorem dX1_number_39 : decode cX1_number 39 = .ok (.iconst 0, 1) := by decide +kernel
theorem dX1_number_40 : decode cX1_number 40 = .ok (.i2l, 1) := by decide +kernel
theorem dX1_number_41 : decode cX1_number 41 = .ok (.ladd, 1) := by decide +kernel
theorem dX1_number_42 : decode cX1_number 42 = .ok (.invokevirtual 35, 3) := by decide +kernel
theorem dX1_number_45 : decode cX1_number 45 = .ok (.iconst 0, 1) := by decide +kernel
theorem dX1_number_46 : decode cX1_number 46 = .ok (.ireturn, 1) := by decide +kernel
theorem dX1_number_47 : decode cX1_number 47 = .ok (.iload_n 1, 1) := by decide +kernel
theorem dX1_number_48 : decode cX1_number 48 = .ok (.bipush 19, 2) := by decide +kernel
theorem dX1_number_50 : decode cX1_number 50 = .ok (.if_icmp .ne 125, 3) := by decide +kernel
theorem dX1_number_53 : decode cX1_number 53 = .ok (.iload_n 2, 1) := by decide +kernel
theorem dX1_number_54 : decode cX1_number 54 = .ok (.i2l, 1) := by decide +kernel
theorem dX1_number_55 : decode cX1_number 55 = .ok (.invokestatic 31, 3) := by decide +kernel
theorem dX1_number_58 : decode cX1_number 58 = .ok (.bipush 20, 2) := by decide +kernel
theorem dX1_number_60 : decode cX1_number 60 = .ok (.lshr, 1) := by decide +kernel
theorem dX1_number_61 : decode cX1_number 61 = .ok (.l2i, 1) := by decide +kernel
theorem dX1_number_62 : decode cX1_number 62 = .ok (.bipush 31, 2) := by decide +kernel
theorem dX1_number_64 : decode cX1_number 64 = .ok (.iand, 1) := by decide +kernel
theorem dX1_number_65 : decode cX1_number 65 = .ok (.istore_n 3, 1) := by decide +kernel
theorem dX1_number_66 : decode cX1_number 66 = .ok (.aload_n 0, 1) := by decide +kernel
theorem dX1_number_67 : decode cX1_number 67 = .ok (.getfield 56, 3) := by decide +kernel
theorem dX1_number_70 : decode cX1_number 70 = .ok (.iconst 1, 1) := by decide +kernel
theorem dX1_number_71 : decode cX1_number 71 = .ok (.if_icmp .eq 11, 3) := by decide +kernel
theorem dX1_number_74 : decode cX1_number 74 = .ok (.aload_n 0, 1) := by decide +kernel
theorem dX1_number_75 : decode cX1_number 75 = .ok (.getfield 56, 3) := by decide +kernel
theorem dX1_number_78 : decode cX1_number 78 = .ok (.iconst 5, 1) := by decide +kernel
theorem dX1_number_79 : decode cX1_number 79 = .ok (.if_icmp .ne 7, 3) := by decide +kernel
theorem dX1_number_82 : decode cX1_number 82 = .ok (.iconst 1, 1) := by decide +kernel
theorem dX1_number_83 : decode cX1_number 83 = .ok (.goto 4, 3) := by decide +kernel
theorem dX1_number_86 : decode cX1_number 86 = .ok (.iconst 0, 1) := by decide +kernel
theorem dX1_number_87 : decode cX1_number 87 = .ok (.istore 4, 2) := by decide +kernel
theorem dX1_number_89 : decode cX1_number 89 = .ok (.iload 4, 2) := by decide +kernel
theorem dX1_number_91 : decode cX1_number 91 = .ok (.ifCond .eq 29, 3) := by decide +kernel
theorem dX1_number_94 : decode cX1_number 94 = .ok (.aload_n 0, 1) := by decide +kernel
theorem dX1_number_95 : decode cX1_number 95 = .ok (.getfield 66, 3) := by decide +kernel
theorem dX1_number_98 : decode cX1_number 98 = .ok (.ifCond .eq 22, 3) := by decide +kernel
theorem dX1_number_101 : decode cX1_number 101 = .ok (.aload_n 0, 1) := by decide +kernel
theorem dX1_number_102 : decode cX1_number 102 = .ok (.getfield 56, 3) := by decide +kernel
theorem dX1_number_105 : decode cX1_number 105 = .ok (.iconst 5, 1) := by decide +kernel
theorem dX1_number_106 : decode cX1_number 106 = .ok (.if_icmp .ne 12, 3) := by decide +kernel
theorem dX1_number_109 : decode cX1_number 109 = .ok (.aload_n 0, 1) := by decide +kernel
theorem dX1_number_110 : decode cX1_number 110 = .ok (.getfield 66, 3) := by decide +kernel
theorem dX1_number_113 : decode cX1_number 113 = .ok (.bipush 32, 2) := by decide +kernel
theorem dX1_number_115 : decode cX1_number 115 = .ok (.if_icmp .eq 5, 3) := by decide +kernel
theorem dX1_number_118 : decode cX1_number 118 = .ok (.iconst 3, 1) := by decide +kernel
theorem dX1_number_119 : decode cX1_number 119 = .ok (.ireturn, 1) := by decide +kernel
theorem dX1_number_120 : decode cX1_number 120 = .ok (.aload_n 0, 1) := by decide +kernel
theorem dX1_number_121 : decode cX1_number 121 = .ok (.aload_n 0, 1) := by decide +kernel
theorem dX1_number_122 : decode cX1_number 122 = .ok (.getfield 53, 3) := by decide +kernel
theorem dX1_number_125 : decode cX1_number 125 = .ok (.iload 4, 2) := by decide +kernel
theorem dX1_number_127 : decode cX1_number 127 = .ok (.ifCond .eq 23, 3) := by decide +kernel
theorem dX1_number_130 : decode cX1_number 130 = .ok (.aload_n 0, 1) := by decide +kernel
theorem dX1_number_131 : decode cX1_number 131 = .ok (.getfield 56, 3) := by decide +kernel
theorem dX1_number_134 : decode cX1_number 134 = .ok (.aload_n 0, 1) := by decide +kernel
theorem dX1_number_135 : decode cX1_number 135 = .ok (.getfield 66, 3) := by decide +kernel
theorem dX1_number_138 : decode cX1_number 138 = .ok (.aload_n 0, 1) := by decide +kernel
theorem dX1_number_139 : decode cX1_number 139 = .ok (.getfield 59, 3) := by decide +kernel
theorem dX1_number_142 : decode cX1_number 142 = .ok (.iload_n 3, 1) := by decide +kernel
theorem dX1_number_143 : decode cX1_number 143 = .ok (.i2l, 1) := by decide +kernel
theorem dX1_number_144 : decode cX1_number 144 = .ok (.invokestatic 110, 3) := by decide +kernel
theorem dX1_number_147 : decode cX1_number 147 = .ok (.goto 23, 3) := by decide +kernel
theorem dX1_number_150 : decode cX1_number 150 = .ok (.aload_n 0, 1) := by decide +kernel
theorem dX1_number_151 : decode cX1_number 151 = .ok (.getfield 56, 3) := by decide +kernel
theorem dX1_number_154 : decode cX1_number 154 = .ok (.iconst 0, 1) := by decide +kernel
theorem dX1_number_155 : decode cX1_number 155 = .ok (.aload_n 0, 1) := by decide +kernel
theorem dX1_number_156 : decode cX1_number 156 = .ok (.getfield 59, 3) := by decide +kernel
theorem dX1_number_159 : decode cX1_number 159 = .ok (.aload_n 0, 1) := by decide +kernel
theorem dX1_number_160 : decode cX1_number 160 = .ok (.getfield 73, 3) := by decide +kernel
theorem dX1_number_163 : decode cX1_number 163 = .ok (.i2l, 1) := by decide +kernel
theorem dX1_number_164 : decode cX1_number 164 = .ok (.invokestatic 31, 3) := by decide +kernel
theorem dX1_number_167 : decode cX1_number 167 = .ok (.invokestatic 110, 3) := by decide +kernel
theorem dX1_number_170 : decode cX1_number 170 = .ok (.invokevirtual 35, 3) := by decide +kernel
theorem dX1_number_173 : decode cX1_number 173 = .ok (.iconst 0, 1) := by decide +kernel
theorem dX1_number_174 : decode cX1_number 174 = .ok (.ireturn, 1) := by decide +kernel
theorem dX1_number_175 : decode cX1_number 175 = .ok (.iload_n 1, 1) := by decide +kernel
theorem dX1_number_176 : decode cX1_number 176 = .ok (.bipush 51, 2) := by decide +kernel
theorem dX1_number_178 : decode cX1_number 178 = .ok (.if_icmp .eq 5, 3) := by decide +kernel
theorem dX1_number_181 : decode cX1_number 181 = .ok (.iconst 3, 1) := by decide +kernel
theorem dX1_number_182 : decode cX1_number 182 = .ok (.ireturn, 1) := by decide +kernel
theorem dX1_number_183 : decode cX1_number 183 = .ok (.aload_n 0, 1) := by decide +kernel
theorem dX1_number_184 : decode cX1_number 184 = .ok (.getfield 66, 3) := by decide +kernel
theorem dX1_number_187 : decode cX1_number 187 = .ok (.iconst 1, 1) := by decide +kernel
theorem dX1_number_188 : decode cX1_number 188 = .ok (.if_icmp .ne 18, 3) := by decide +kernel
theorem dX1_number_191 : decode cX1_number 191 = .ok (.aload_n 0, 1) := by decide +kernel
theorem dX1_number_192 : decode cX1_number 192 = .ok (.aload_n 0, 1) := by decide +kernel
theorem dX1_number_193 : decode cX1_number 193 = .ok (.getfield 53, 3) := by decide +kernel
theorem dX1_number_196 : decode cX1_number 196 = .ok (.aload_n 0, 1) := by decide +kernel
theorem dX1_number_197 : decode cX1_number 197 = .ok (.invokevirtual 114, 3) := by decide +kernel
theorem dX1_number_200 : decode cX1_number 200 = .ok (.invokevirtual 35, 3) := by decide +kernel
theorem dX1_number_203 : decode cX1_number 203 = .ok (.goto 66, 3) := by decide +kernel
theorem dX1_number_206 : decode cX1_number 206 = .ok (.aload_n 0, 1) := by decide +kernel
theorem dX1_number_207 : decode cX1_number 207 = .ok (.getfield 66, 3) := by decide +kernel
theorem dX1_number_210 : decode cX1_number 210 = .ok (.ifCond .eq 27, 3) := by decide +kernel
theorem dX1_number_213 : decode cX1_number 213 = .ok (.aload_n 0, 1) := by decide +kernel
theorem dX1_number_214 : decode cX1_number 214 = .ok (.getfield 66, 3) := by decide +kernel
theorem dX1_number_217 : decode cX1_number 217 = .ok (.bipush 32, 2) := by decide +kernel
theorem dX1_number_219 : decode cX1_number 219 = .ok (.if_icmp .ne 48, 3) := by decide +kernel
theorem dX1_number_222 : decode cX1_number 222 = .ok (.aload_n 0, 1) := by decide +kernel
theorem dX1_number_223 : decode cX1_number 223 = .ok (.getfield 56, 3) := by decide +kernel
theorem dX1_number_226 : decode cX1_number 226 = .ok (.ifCond .eq 11, 3) := by decide +kernel
theorem dX1_number_229 : decode cX1_number 229 = .ok (.aload_n 0, 1) := by decide +kernel
theorem dX1_number_230 : decode cX1_number 230 = .ok (.getfield 56, 3) := by decide +kernel
theorem dX1_number_233 : decode cX1_number 233 = .ok (.iconst 5, 1) := by decide +kernel
theorem dX1_number_234 : decode cX1_number 234 = .ok (.if_icmp .ne 33, 3) := by decide +kernel
theorem dX1_number_237 : decode cX1_number 237 = .ok (.aload_n 0, 1) := by decide +kernel
theorem dX1_number_238 : decode cX1_number 238 = .ok (.aload_n 0, 1) := by decide +kernel
theorem dX1_number_239 : decode cX1_number 239 = .ok (.getfield 53, 3) := by decide +kernel
theorem dX1_number_242 : decode cX1_number 242 = .ok (.aload_n 0, 1) := by decide +kernel
theorem dX1_number_243 : decode cX1_number 243 = .ok (.getfield 56, 3) := by decide +kernel
theorem dX1_number_246 : decode cX1_number 246 = .ok (.aload_n 0, 1) := by decide +kernel
theorem dX1_number_247 : decode cX1_number 247 = .ok (.getfield 66, 3) := by decide +kernel
theorem dX1_number_250 : decode cX1_number 250 = .ok (.aload_n 0, 1) := by decide +kernel
theorem dX1_number_251 : decode cX1_number 251 = .ok (.getfield 59, 3) := by decide +kernel
theorem dX1_number_254 : decode cX1_number 254 = .ok (.aload_n 0, 1) := by decide +kernel
theorem dX1_number_255 : decode cX1_number 255 = .ok (.getfield 63, 3) := by decide +kernel
theorem dX1_number_258 : decode cX1_number 258 = .ok (.invokestatic 110, 3) := by decide +kernel
theorem dX1_number_261 : decode cX1_number 261 = .ok (.invokevirtual 35, 3) := by decide +kernel
theorem dX1_number_264 : decode cX1_number 264 = .ok (.goto 5, 3) := by decide +kernel
theorem dX1_number_267 : decode cX1_number 267 = .ok (.iconst 3, 1) := by decide +kernel
theorem dX1_number_268 : decode cX1_number 268 = .ok (.ireturn, 1) := by decide +kernel
theorem dX1_number_269 : decode cX1_number 269 = .ok (.iconst 0, 1) := by decide +kernel
theorem dX1_number_270 : decode cX1_number 270 = .ok (.ireturn, 1) := by decide +kernel
theorem dX1_power_0 : decode cX1_power 0 = .ok (.lconst 1, 1) := by decide +kernel
theorem dX1_power_1 : decode cX1_power 1 = .ok (.lstore_n 2, 1) := by decide +kernel
theorem dX1_power_2 : decode cX1_power 2 = .ok (.lconst 0, 1) := by decide +kernel
theorem dX1_power_3 : decode cX1_power 3 = .ok (.lstore 4, 2) := by decide +kernel
theorem dX1_power_5 : decode cX1_power 5 = .ok (.lload 4, 2) := by decide +kernel
theorem dX1_power_7 : decode cX1_power 7 = .ok (.lload_n 0, 1) := by decide +kernel
theorem dX1_power_8 : decode cX1_power 8 = .ok (.lcmp, 1) := by decide +kernel
theorem dX1_power_9 : decode cX1_power 9 = .ok (.ifCond .ge 18, 3) := by decide +kernel
theorem dX1_power_12 : decode cX1_power 12 = .ok (.lload_n 2, 1) := by decide +kernel
theorem dX1_power_13 : decode cX1_power 13 = .ok (.ldc2_w 108, 3) := by decide +kernel
theorem dX1_power_16 : decode cX1_power 16 = .ok (.lmul, 1) := by decide +kernel
theorem dX1_power_17 : decode cX1_power 17 = .ok (.lstore_n 2, 1) := by decide +kernel
theorem dX1_power_18 : decode cX1_power 18 = .ok (.lload 4, 2) := by decide +kernel
theorem dX1_power_20 : decode cX1_power 20 = .ok (.lconst 1, 1) := by decide +kernel
theorem dX1_power_21 : decode cX1_power 21 = .ok (.ladd, 1) := by decide +kernel
theorem dX1_power_22 : decode cX1_power 22 = .ok (.lstore 4, 2) := by decide +kernel
theorem dX1_power_24 : decode cX1_power 24 = .ok (.goto (-19), 3) := by decide +kernel
theorem dX1_power_27 : decode cX1_power 27 = .ok (.lload_n 2, 1) := by decide +kernel
theorem dX1_power_28 : decode cX1_power 28 = .ok (.lreturn, 1) := by decide +kernel
set_option maxRecDepth 20000 in
theorem ggX1_made_X1_power : GoodIn wsX1_made wsX1_power := goodIn_r _ [5, 6] (by decide +kernel) (by decide +kernel)
set_option maxRecDepth 20000 in
theorem gX1_made_X1_power : GoodIn wsX1_made (va_wsS RX1 120 yX1_power wsX1_power) := goodIn_app (goodIn_of _ (by decide +kernel)) ggX1_made_X1_power
set_option maxRecDepth 20000 in
theorem ggX1_made_X1_signed : GoodIn wsX1_made wsX1_signed := goodIn_r _ [9, 10, 11] (by decide +kernel) (by decide +kernel)
set_option maxRecDepth 20000 in
theorem gX1_made_X1_signed : GoodIn wsX1_made (va_wsS RX1 93 yX1_signed wsX1_signed) := goodIn_app (goodIn_of _ (by decide +kernel)) ggX1_made_X1_signed
set_option maxRecDepth 20000 in
theorem ggX1_made_X1_down : GoodIn wsX1_made wsX1_down := goodIn_r _ [14] (by decide +kernel) (by decide +kernel)
set_option maxRecDepth 20000 in
theorem gX1_made_X1_down : GoodIn wsX1_made (va_wsS RX1 123 yX1_down wsX1_down) := goodIn_app (goodIn_of _ (by decide +kernel)) ggX1_made_X1_down
theorem dX1_made_0 : decode cX1_made 0 = .ok (.iload_n 0, 1) := by decide +kernel
theorem dX1_made_1 : decode cX1_made 1 = .ok (.tableswitch 150 0 6 #[43, 61, 73, 92, 105, 110, 145], 43) := by decide +kernel
theorem dX1_made_44 : decode cX1_made 44 = .ok (.iload_n 1, 1) := by decide +kernel
theorem dX1_made_45 : decode cX1_made 45 = .ok (.bipush 32, 2) := by decide +kernel
theorem dX1_made_47 : decode cX1_made 47 = .ok (.if_icmp .ne 10, 3) := by decide +kernel
theorem dX1_made_50 : decode cX1_made 50 = .ok (.lload_n 2, 1) := by decide +kernel
theorem dX1_made_51 : decode cX1_made 51 = .ok (.lload 4, 2) := by decide +kernel
theorem dX1_made_53 : decode cX1_made 53 = .ok (.lsub, 1) := by decide +kernel
theorem dX1_made_54 : decode cX1_made 54 = .ok (.goto 7, 3) := by decide +kernel
theorem dX1_made_57 : decode cX1_made 57 = .ok (.lload_n 2, 1) := by decide +kernel
theorem dX1_made_58 : decode cX1_made 58 = .ok (.lload 4, 2) := by decide +kernel
theorem dX1_made_60 : decode cX1_made 60 = .ok (.ladd, 1) := by decide +kernel
theorem dX1_made_61 : decode cX1_made 61 = .ok (.lreturn, 1) := by decide +kernel
theorem dX1_made_62 : decode cX1_made 62 = .ok (.lload_n 2, 1) := by decide +kernel
theorem dX1_made_63 : decode cX1_made 63 = .ok (.lload 4, 2) := by decide +kernel
theorem dX1_made_65 : decode cX1_made 65 = .ok (.ldc2_w 118, 3) := by decide +kernel
theorem dX1_made_68 : decode cX1_made 68 = .ok (.lrem, 1) := by decide +kernel
theorem dX1_made_69 : decode cX1_made 69 = .ok (.invokestatic 120, 3) := by decide +kernel
theorem dX1_made_72 : decode cX1_made 72 = .ok (.lmul, 1) := by decide +kernel
theorem dX1_made_73 : decode cX1_made 73 = .ok (.lreturn, 1) := by decide +kernel
theorem dX1_made_74 : decode cX1_made 74 = .ok (.lload_n 2, 1) := by decide +kernel
theorem dX1_made_75 : decode cX1_made 75 = .ok (.invokestatic 93, 3) := by decide +kernel
theorem dX1_made_78 : decode cX1_made 78 = .ok (.lload 4, 2) := by decide +kernel
theorem dX1_made_80 : decode cX1_made 80 = .ok (.invokestatic 93, 3) := by decide +kernel
theorem dX1_made_83 : decode cX1_made 83 = .ok (.lcmp, 1) := by decide +kernel
theorem dX1_made_84 : decode cX1_made 84 = .ok (.ifCond .ge 7, 3) := by decide +kernel
theorem dX1_made_87 : decode cX1_made 87 = .ok (.lconst 1, 1) := by decide +kernel
theorem dX1_made_88 : decode cX1_made 88 = .ok (.goto 4, 3) := by decide +kernel
theorem dX1_made_91 : decode cX1_made 91 = .ok (.lconst 0, 1) := by decide +kernel
theorem dX1_made_92 : decode cX1_made 92 = .ok (.lreturn, 1) := by decide +kernel
theorem dX1_made_93 : decode cX1_made 93 = .ok (.lload_n 2, 1) := by decide +kernel
theorem dX1_made_94 : decode cX1_made 94 = .ok (.lload 4, 2) := by decide +kernel
theorem dX1_made_96 : decode cX1_made 96 = .ok (.lcmp, 1) := by decide +kernel
theorem dX1_made_97 : decode cX1_made 97 = .ok (.ifCond .ge 7, 3) := by decide +kernel
theorem dX1_made_100 : decode cX1_made 100 = .ok (.lconst 1, 1) := by decide +kernel
theorem dX1_made_101 : decode cX1_made 101 = .ok (.goto 4, 3) := by decide +kernel
theorem dX1_made_104 : decode cX1_made 104 = .ok (.lconst 0, 1) := by decide +kernel
theorem dX1_made_105 : decode cX1_made 105 = .ok (.lreturn, 1) := by decide +kernel
theorem dX1_made_106 : decode cX1_made 106 = .ok (.lload_n 2, 1) := by decide +kernel
theorem dX1_made_107 : decode cX1_made 107 = .ok (.lload 4, 2) := by decide +kernel
theorem dX1_made_109 : decode cX1_made 109 = .ok (.lxor, 1) := by decide +kernel
theorem dX1_made_110 : decode cX1_made 110 = .ok (.lreturn, 1) := by decide +kernel
theorem dX1_made_111 : decode cX1_made 111 = .ok (.iload_n 1, 1) := by decide +kernel
theorem dX1_made_112 : decode cX1_made 112 = .ok (.ifCond .ne 17, 3) := by decide +kernel
theorem dX1_made_115 : decode cX1_made 115 = .ok (.lload_n 2, 1) := by decide +kernel
theorem dX1_made_116 : decode cX1_made 116 = .ok (.lload 4, 2) := by decide +kernel
theorem dX1_made_118 : decode cX1_made 118 = .ok (.ldc2_w 118, 3) := by decide +kernel
theorem dX1_made_121 : decode cX1_made 121 = .ok (.lrem, 1) := by decide +kernel
theorem dX1_made_122 : decode cX1_made 122 = .ok (.invokestatic 120, 3) := by decide +kernel
theorem dX1_made_125 : decode cX1_made 125 = .ok (.ldiv, 1) := by decide +kernel
theorem dX1_made_126 : decode cX1_made 126 = .ok (.goto 19, 3) := by decide +kernel
theorem dX1_made_129 : decode cX1_made 129 = .ok (.lload_n 2, 1) := by decide +kernel
theorem dX1_made_130 : decode cX1_made 130 = .ok (.invokestatic 93, 3) := by decide +kernel
theorem dX1_made_133 : decode cX1_made 133 = .ok (.lload 4, 2) := by decide +kernel
theorem dX1_made_135 : decode cX1_made 135 = .ok (.ldc2_w 118, 3) := by decide +kernel
theorem dX1_made_138 : decode cX1_made 138 = .ok (.lrem, 1) := by decide +kernel
theorem dX1_made_139 : decode cX1_made 139 = .ok (.invokestatic 120, 3) := by decide +kernel
theorem dX1_made_142 : decode cX1_made 142 = .ok (.invokestatic 123, 3) := by decide +kernel
theorem dX1_made_145 : decode cX1_made 145 = .ok (.lreturn, 1) := by decide +kernel
theorem dX1_made_146 : decode cX1_made 146 = .ok (.lload_n 2, 1) := by decide +kernel
theorem dX1_made_147 : decode cX1_made 147 = .ok (.lload 4, 2) := by decide +kernel
theorem dX1_made_149 : decode cX1_made 149 = .ok (.lor, 1) := by decide +kernel
theorem dX1_made_150 : decode cX1_made 150 = .ok (.lreturn, 1) := by decide +kernel
theorem dX1_made_151 : decode cX1_made 151 = .ok (.lload_n 2, 1) := by decide +kernel
theorem dX1_made_152 : decode cX1_made 152 = .ok (.lload 4, 2) := by decide +kernel
theorem dX1_made_154 : decode cX1_made 154 = .ok (.land, 1) := by decide +kernel
theorem dX1_made_155 : decode cX1_made 155 = .ok (.lreturn, 1) := by decide +kernel
theorem dX1_down_0 : decode cX1_down 0 = .ok (.lload_n 0, 1) := by decide +kernel
theorem dX1_down_1 : decode cX1_down 1 = .ok (.lload_n 2, 1) := by decide +kernel
theorem dX1_down_2 : decode cX1_down 2 = .ok (.ldiv, 1) := by decide +kernel
theorem dX1_down_3 : decode cX1_down 3 = .ok (.lstore 4, 2) := by decide +kernel
theorem dX1_down_5 : decode cX1_down 5 = .ok (.lload 4, 2) := by decide +kernel
theorem dX1_down_7 : decode cX1_down 7 = .ok (.lload_n 2, 1) := by decide +kernel
theorem dX1_down_8 : decode cX1_down 8 = .ok (.lmul, 1) := by decide +kernel
theorem dX1_down_9 : decode cX1_down 9 = .ok (.lload_n 0, 1) := by decide +kernel
theorem dX1_down_10 : decode cX1_down 10 = .ok (.lcmp, 1) := by decide +kernel
theorem dX1_down_11 : decode cX1_down 11 = .ok (.ifCond .le 10, 3) := by decide +kernel
theorem dX1_down_14 : decode cX1_down 14 = .ok (.lload 4, 2) := by decide +kernel
theorem dX1_down_16 : decode cX1_down 16 = .ok (.lconst 1, 1) := by decide +kernel
theorem dX1_down_17 : decode cX1_down 17 = .ok (.lsub, 1) := by decide +kernel
theorem dX1_down_18 : decode cX1_down 18 = .ok (.goto 5, 3) := by decide +kernel
theorem dX1_down_21 : decode cX1_down 21 = .ok (.lload 4, 2) := by decide +kernel
theorem dX1_down_23 : decode cX1_down 23 = .ok (.lreturn, 1) := by decide +kernel
set_option maxRecDepth 20000 in
theorem ggX1_product_X1_signed : GoodIn wsX1_product wsX1_signed := goodIn_r _ [9, 10, 4] (by decide +kernel) (by decide +kernel)
set_option maxRecDepth 20000 in
theorem gX1_product_X1_signed : GoodIn wsX1_product (va_wsS RX1 93 yX1_signed wsX1_signed) := goodIn_app (goodIn_of _ (by decide +kernel)) ggX1_product_X1_signed
set_option maxRecDepth 20000 in
theorem ggX1_product_X1_down : GoodIn wsX1_product wsX1_down := goodIn_r _ [13] (by decide +kernel) (by decide +kernel)
set_option maxRecDepth 20000 in
theorem gX1_product_X1_down : GoodIn wsX1_product (va_wsS RX1 123 yX1_down wsX1_down) := goodIn_app (goodIn_of _ (by decide +kernel)) ggX1_product_X1_down
set_option maxRecDepth 20000 in
theorem ggX1_product_X1_upper : GoodIn wsX1_product wsX1_upper := goodIn_r _ [17, 1, 18, 2, 19, 20, 21, 22, 23, 24, 25, 26, 27, 28, 29, 30] (by decide +kernel) (by decide +kernel)
set_option maxRecDepth 20000 in
theorem gX1_product_X1_upper : GoodIn wsX1_product (wsV RX1 127 RX1 yX1_upper wsX1_upper) := goodIn_app (goodIn_of _ (by decide +kernel)) ggX1_product_X1_upper
theorem dX1_product_0 : decode cX1_product 0 = .ok (.aload_n 0, 1) := by decide +kernel
theorem dX1_product_1 : decode cX1_product 1 = .ok (.getfield 59, 3) := by decide +kernel
theorem dX1_product_4 : decode cX1_product 4 = .ok (.invokestatic 93, 3) := by decide +kernel
theorem dX1_product_7 : decode cX1_product 7 = .ok (.lstore_n 1, 1) := by decide +kernel
theorem dX1_product_8 : decode cX1_product 8 = .ok (.aload_n 0, 1) := by decide +kernel
theorem dX1_product_9 : decode cX1_product 9 = .ok (.getfield 63, 3) := by decide +kernel
theorem dX1_product_12 : decode cX1_product 12 = .ok (.invokestatic 93, 3) := by decide +kernel
theorem dX1_product_15 : decode cX1_product 15 = .ok (.lstore_n 3, 1) := by decide +kernel
theorem dX1_product_16 : decode cX1_product 16 = .ok (.aload_n 0, 1) := by decide +kernel
theorem dX1_product_17 : decode cX1_product 17 = .ok (.getfield 56, 3) := by decide +kernel
theorem dX1_product_20 : decode cX1_product 20 = .ok (.tableswitch 140 0 6 #[44, 48, 58, 71, 76, 95, 120], 44) := by decide +kernel
theorem dX1_product_64 : decode cX1_product 64 = .ok (.lload_n 1, 1) := by decide +kernel
theorem dX1_product_65 : decode cX1_product 65 = .ok (.lload_n 3, 1) := by decide +kernel
theorem dX1_product_66 : decode cX1_product 66 = .ok (.lmul, 1) := by decide +kernel
theorem dX1_product_67 : decode cX1_product 67 = .ok (.lreturn, 1) := by decide +kernel
theorem dX1_product_68 : decode cX1_product 68 = .ok (.lload_n 1, 1) := by decide +kernel
theorem dX1_product_69 : decode cX1_product 69 = .ok (.lload_n 3, 1) := by decide +kernel
theorem dX1_product_70 : decode cX1_product 70 = .ok (.lmul, 1) := by decide +kernel
theorem dX1_product_71 : decode cX1_product 71 = .ok (.ldc2_w 29, 3) := by decide +kernel
theorem dX1_product_74 : decode cX1_product 74 = .ok (.invokestatic 123, 3) := by decide +kernel
theorem dX1_product_77 : decode cX1_product 77 = .ok (.lreturn, 1) := by decide +kernel
theorem dX1_product_78 : decode cX1_product 78 = .ok (.lload_n 1, 1) := by decide +kernel
theorem dX1_product_79 : decode cX1_product 79 = .ok (.aload_n 0, 1) := by decide +kernel
theorem dX1_product_80 : decode cX1_product 80 = .ok (.getfield 63, 3) := by decide +kernel
theorem dX1_product_83 : decode cX1_product 83 = .ok (.lmul, 1) := by decide +kernel
theorem dX1_product_84 : decode cX1_product 84 = .ok (.ldc2_w 29, 3) := by decide +kernel
theorem dX1_product_87 : decode cX1_product 87 = .ok (.invokestatic 123, 3) := by decide +kernel
theorem dX1_product_90 : decode cX1_product 90 = .ok (.lreturn, 1) := by decide +kernel
theorem dX1_product_91 : decode cX1_product 91 = .ok (.aload_n 0, 1) := by decide +kernel
theorem dX1_product_92 : decode cX1_product 92 = .ok (.invokevirtual 127, 3) := by decide +kernel
theorem dX1_product_95 : decode cX1_product 95 = .ok (.lreturn, 1) := by decide +kernel
theorem dX1_product_96 : decode cX1_product 96 = .ok (.aload_n 0, 1) := by decide +kernel
theorem dX1_product_97 : decode cX1_product 97 = .ok (.getfield 63, 3) := by decide +kernel
theorem dX1_product_100 : decode cX1_product 100 = .ok (.lconst 0, 1) := by decide +kernel
theorem dX1_product_101 : decode cX1_product 101 = .ok (.lcmp, 1) := by decide +kernel
theorem dX1_product_102 : decode cX1_product 102 = .ok (.ifCond .ne 9, 3) := by decide +kernel
theorem dX1_product_105 : decode cX1_product 105 = .ok (.ldc2_w 130, 3) := by decide +kernel
theorem dX1_product_108 : decode cX1_product 108 = .ok (.goto 6, 3) := by decide +kernel
theorem dX1_product_111 : decode cX1_product 111 = .ok (.lload_n 1, 1) := by decide +kernel
theorem dX1_product_112 : decode cX1_product 112 = .ok (.lload_n 3, 1) := by decide +kernel
theorem dX1_product_113 : decode cX1_product 113 = .ok (.ldiv, 1) := by decide +kernel
theorem dX1_product_114 : decode cX1_product 114 = .ok (.lreturn, 1) := by decide +kernel
theorem dX1_product_115 : decode cX1_product 115 = .ok (.aload_n 0, 1) := by decide +kernel
theorem dX1_product_116 : decode cX1_product 116 = .ok (.getfield 63, 3) := by decide +kernel
theorem dX1_product_119 : decode cX1_product 119 = .ok (.lconst 0, 1) := by decide +kernel
theorem dX1_product_120 : decode cX1_product 120 = .ok (.lcmp, 1) := by decide +kernel
theorem dX1_product_121 : decode cX1_product 121 = .ok (.ifCond .ne 9, 3) := by decide +kernel
theorem dX1_product_124 : decode cX1_product 124 = .ok (.ldc2_w 130, 3) := by decide +kernel
theorem dX1_product_127 : decode cX1_product 127 = .ok (.goto 12, 3) := by decide +kernel
theorem dX1_product_130 : decode cX1_product 130 = .ok (.aload_n 0, 1) := by decide +kernel
theorem dX1_product_131 : decode cX1_product 131 = .ok (.getfield 59, 3) := by decide +kernel
theorem dX1_product_134 : decode cX1_product 134 = .ok (.aload_n 0, 1) := by decide +kernel
end
section
theorem dX1_product_135 : decode cX1_product 135 = .ok (.getfield 63, 3) := by decide +kernel
theorem dX1_product_138 : decode cX1_product 138 = .ok (.ldiv, 1) := by decide +kernel
theorem dX1_product_139 : decode cX1_product 139 = .ok (.lreturn, 1) := by decide +kernel
theorem dX1_product_140 : decode cX1_product 140 = .ok (.aload_n 0, 1) := by decide +kernel
theorem dX1_product_141 : decode cX1_product 141 = .ok (.getfield 63, 3) := by decide +kernel
theorem dX1_product_144 : decode cX1_product 144 = .ok (.lconst 0, 1) := by decide +kernel
theorem dX1_product_145 : decode cX1_product 145 = .ok (.lcmp, 1) := by decide +kernel
theorem dX1_product_146 : decode cX1_product 146 = .ok (.ifCond .ne 10, 3) := by decide +kernel
theorem dX1_product_149 : decode cX1_product 149 = .ok (.aload_n 0, 1) := by decide +kernel
theorem dX1_product_150 : decode cX1_product 150 = .ok (.getfield 59, 3) := by decide +kernel
theorem dX1_product_153 : decode cX1_product 153 = .ok (.goto 6, 3) := by decide +kernel
theorem dX1_product_156 : decode cX1_product 156 = .ok (.lload_n 1, 1) := by decide +kernel
theorem dX1_product_157 : decode cX1_product 157 = .ok (.lload_n 3, 1) := by decide +kernel
theorem dX1_product_158 : decode cX1_product 158 = .ok (.lrem, 1) := by decide +kernel
theorem dX1_product_159 : decode cX1_product 159 = .ok (.lreturn, 1) := by decide +kernel
theorem dX1_product_160 : decode cX1_product 160 = .ok (.aload_n 0, 1) := by decide +kernel
theorem dX1_product_161 : decode cX1_product 161 = .ok (.getfield 63, 3) := by decide +kernel
theorem dX1_product_164 : decode cX1_product 164 = .ok (.lconst 0, 1) := by decide +kernel
theorem dX1_product_165 : decode cX1_product 165 = .ok (.lcmp, 1) := by decide +kernel
theorem dX1_product_166 : decode cX1_product 166 = .ok (.ifCond .ne 10, 3) := by decide +kernel
theorem dX1_product_169 : decode cX1_product 169 = .ok (.aload_n 0, 1) := by decide +kernel
theorem dX1_product_170 : decode cX1_product 170 = .ok (.getfield 59, 3) := by decide +kernel
theorem dX1_product_173 : decode cX1_product 173 = .ok (.goto 12, 3) := by decide +kernel
theorem dX1_product_176 : decode cX1_product 176 = .ok (.aload_n 0, 1) := by decide +kernel
theorem dX1_product_177 : decode cX1_product 177 = .ok (.getfield 59, 3) := by decide +kernel
theorem dX1_product_180 : decode cX1_product 180 = .ok (.aload_n 0, 1) := by decide +kernel
theorem dX1_product_181 : decode cX1_product 181 = .ok (.getfield 63, 3) := by decide +kernel
theorem dX1_product_184 : decode cX1_product 184 = .ok (.lrem, 1) := by decide +kernel
theorem dX1_product_185 : decode cX1_product 185 = .ok (.lreturn, 1) := by decide +kernel
theorem dX1_upper_0 : decode cX1_upper 0 = .ok (.aload_n 0, 1) := by decide +kernel
theorem dX1_upper_1 : decode cX1_upper 1 = .ok (.getfield 59, 3) := by decide +kernel
theorem dX1_upper_4 : decode cX1_upper 4 = .ok (.ldc2_w 132, 3) := by decide +kernel
theorem dX1_upper_7 : decode cX1_upper 7 = .ok (.ldiv, 1) := by decide +kernel
theorem dX1_upper_8 : decode cX1_upper 8 = .ok (.lstore_n 1, 1) := by decide +kernel
theorem dX1_upper_9 : decode cX1_upper 9 = .ok (.aload_n 0, 1) := by decide +kernel
theorem dX1_upper_10 : decode cX1_upper 10 = .ok (.getfield 59, 3) := by decide +kernel
theorem dX1_upper_13 : decode cX1_upper 13 = .ok (.ldc2_w 132, 3) := by decide +kernel
theorem dX1_upper_16 : decode cX1_upper 16 = .ok (.lrem, 1) := by decide +kernel
theorem dX1_upper_17 : decode cX1_upper 17 = .ok (.lstore_n 3, 1) := by decide +kernel
theorem dX1_upper_18 : decode cX1_upper 18 = .ok (.aload_n 0, 1) := by decide +kernel
theorem dX1_upper_19 : decode cX1_upper 19 = .ok (.getfield 63, 3) := by decide +kernel
theorem dX1_upper_22 : decode cX1_upper 22 = .ok (.ldc2_w 132, 3) := by decide +kernel
theorem dX1_upper_25 : decode cX1_upper 25 = .ok (.ldiv, 1) := by decide +kernel
theorem dX1_upper_26 : decode cX1_upper 26 = .ok (.lstore 5, 2) := by decide +kernel
theorem dX1_upper_28 : decode cX1_upper 28 = .ok (.aload_n 0, 1) := by decide +kernel
theorem dX1_upper_29 : decode cX1_upper 29 = .ok (.getfield 63, 3) := by decide +kernel
theorem dX1_upper_32 : decode cX1_upper 32 = .ok (.ldc2_w 132, 3) := by decide +kernel
theorem dX1_upper_35 : decode cX1_upper 35 = .ok (.lrem, 1) := by decide +kernel
theorem dX1_upper_36 : decode cX1_upper 36 = .ok (.lstore 7, 2) := by decide +kernel
theorem dX1_upper_38 : decode cX1_upper 38 = .ok (.lload_n 1, 1) := by decide +kernel
theorem dX1_upper_39 : decode cX1_upper 39 = .ok (.lload 7, 2) := by decide +kernel
theorem dX1_upper_41 : decode cX1_upper 41 = .ok (.lmul, 1) := by decide +kernel
theorem dX1_upper_42 : decode cX1_upper 42 = .ok (.lload_n 3, 1) := by decide +kernel
theorem dX1_upper_43 : decode cX1_upper 43 = .ok (.lload 7, 2) := by decide +kernel
theorem dX1_upper_45 : decode cX1_upper 45 = .ok (.lmul, 1) := by decide +kernel
theorem dX1_upper_46 : decode cX1_upper 46 = .ok (.ldc2_w 132, 3) := by decide +kernel
theorem dX1_upper_49 : decode cX1_upper 49 = .ok (.ldiv, 1) := by decide +kernel
theorem dX1_upper_50 : decode cX1_upper 50 = .ok (.ladd, 1) := by decide +kernel
theorem dX1_upper_51 : decode cX1_upper 51 = .ok (.lstore 9, 2) := by decide +kernel
theorem dX1_upper_53 : decode cX1_upper 53 = .ok (.lload_n 3, 1) := by decide +kernel
theorem dX1_upper_54 : decode cX1_upper 54 = .ok (.lload 5, 2) := by decide +kernel
theorem dX1_upper_56 : decode cX1_upper 56 = .ok (.lmul, 1) := by decide +kernel
theorem dX1_upper_57 : decode cX1_upper 57 = .ok (.lload 9, 2) := by decide +kernel
theorem dX1_upper_59 : decode cX1_upper 59 = .ok (.ldc2_w 132, 3) := by decide +kernel
theorem dX1_upper_62 : decode cX1_upper 62 = .ok (.lrem, 1) := by decide +kernel
theorem dX1_upper_63 : decode cX1_upper 63 = .ok (.ladd, 1) := by decide +kernel
theorem dX1_upper_64 : decode cX1_upper 64 = .ok (.lstore 11, 2) := by decide +kernel
theorem dX1_upper_66 : decode cX1_upper 66 = .ok (.lload_n 1, 1) := by decide +kernel
theorem dX1_upper_67 : decode cX1_upper 67 = .ok (.lload 5, 2) := by decide +kernel
theorem dX1_upper_69 : decode cX1_upper 69 = .ok (.lmul, 1) := by decide +kernel
theorem dX1_upper_70 : decode cX1_upper 70 = .ok (.lload 9, 2) := by decide +kernel
theorem dX1_upper_72 : decode cX1_upper 72 = .ok (.ldc2_w 132, 3) := by decide +kernel
theorem dX1_upper_75 : decode cX1_upper 75 = .ok (.ldiv, 1) := by decide +kernel
theorem dX1_upper_76 : decode cX1_upper 76 = .ok (.ladd, 1) := by decide +kernel
theorem dX1_upper_77 : decode cX1_upper 77 = .ok (.lload 11, 2) := by decide +kernel
theorem dX1_upper_79 : decode cX1_upper 79 = .ok (.ldc2_w 132, 3) := by decide +kernel
theorem dX1_upper_82 : decode cX1_upper 82 = .ok (.ldiv, 1) := by decide +kernel
theorem dX1_upper_83 : decode cX1_upper 83 = .ok (.ladd, 1) := by decide +kernel
theorem dX1_upper_84 : decode cX1_upper 84 = .ok (.lreturn, 1) := by decide +kernel
set_option maxRecDepth 20000 in
theorem ggL_law_X0_init : GoodIn wsL_law wsX0_init := goodIn_r _ [8, 9, 10, 11, 12, 13, 14, 15, 16, 17, 18, 330, 331, 332, 333, 334, 335] (by decide +kernel) (by decide +kernel)
set_option maxRecDepth 20000 in
theorem gL_law_X0_init : GoodIn wsL_law (wsX0_init) := ggL_law_X0_init
set_option maxRecDepth 20000 in
theorem ggL_law_X1_init : GoodIn wsL_law wsX1_init := goodIn_r _ [21, 22, 10, 11, 12, 23, 24, 25, 26, 27, 336, 337, 338, 339, 340, 341, 342, 343, 344, 345, 346, 347] (by decide +kernel) (by decide +kernel)
set_option maxRecDepth 20000 in
theorem gL_law_X1_init : GoodIn wsL_law (wsX1_init) := ggL_law_X1_init
set_option maxRecDepth 20000 in
theorem ggL_law_X0_word : GoodIn wsL_law wsX0_word := goodIn_r _ [31, 16, 13, 330, 331, 332, 333, 334, 335] (by decide +kernel) (by decide +kernel)
set_option maxRecDepth 20000 in
theorem gL_law_X0_word : GoodIn wsL_law (wsV RL 13 RX0 yX0_word wsX0_word) := goodIn_app (goodIn_of _ (by decide +kernel)) ggL_law_X0_word
set_option maxRecDepth 20000 in
theorem ggL_law_X1_word : GoodIn wsL_law wsX1_word := goodIn_r _ [35, 36, 23, 336, 337, 338, 339, 340, 341, 342, 343, 344, 345, 346, 347] (by decide +kernel) (by decide +kernel)
set_option maxRecDepth 20000 in
theorem gL_law_X1_word : GoodIn wsL_law (wsV RL 17 RX1 yX1_word wsX1_word) := goodIn_app (goodIn_of _ (by decide +kernel)) ggL_law_X1_word
set_option maxRecDepth 20000 in
theorem ggL_law_X0_put : GoodIn wsL_law wsX0_put := goodIn_r _ [40, 41, 42, 2, 43, 44, 45, 46, 47, 14, 330, 331, 332, 333, 334, 335] (by decide +kernel) (by decide +kernel)
set_option maxRecDepth 20000 in
theorem gL_law_X0_put : GoodIn wsL_law (wsV RL 18 RX0 yX0_put wsX0_put) := goodIn_app (goodIn_of _ (by decide +kernel)) ggL_law_X0_put
set_option maxRecDepth 20000 in
theorem ggL_law_X1_put : GoodIn wsL_law wsX1_put := goodIn_r _ [51, 52, 53, 54, 5, 55, 25, 56, 57, 58, 59, 336, 337, 338, 339, 340, 341, 342, 343, 344, 345, 346, 347] (by decide +kernel) (by decide +kernel)
set_option maxRecDepth 20000 in
theorem gL_law_X1_put : GoodIn wsL_law (wsV RL 22 RX1 yX1_put wsX1_put) := goodIn_app (goodIn_of _ (by decide +kernel)) ggL_law_X1_put
set_option maxRecDepth 20000 in
theorem ggL_law_X0_get : GoodIn wsL_law wsX0_get := goodIn_r _ [63, 14, 41, 42, 2, 43, 330, 331, 332, 333, 334, 335] (by decide +kernel) (by decide +kernel)
set_option maxRecDepth 20000 in
theorem gL_law_X0_get : GoodIn wsL_law (wsV RL 23 RX0 yX0_get wsX0_get) := goodIn_app (goodIn_of _ (by decide +kernel)) ggL_law_X0_get
set_option maxRecDepth 20000 in
theorem ggL_law_X1_get : GoodIn wsL_law wsX1_get := goodIn_r _ [67, 25, 336, 337, 338, 339, 340, 341, 342, 343, 344, 345, 346, 347] (by decide +kernel) (by decide +kernel)
set_option maxRecDepth 20000 in
theorem gL_law_X1_get : GoodIn wsL_law (wsV RL 26 RX1 yX1_get wsX1_get) := goodIn_app (goodIn_of _ (by decide +kernel)) ggL_law_X1_get
set_option maxRecDepth 20000 in
theorem ggL_law_X0_poke : GoodIn wsL_law wsX0_poke := goodIn_r _ [71, 72, 73, 2, 74, 75, 76, 77, 78, 79, 80, 81, 15, 82, 83, 84, 330, 331, 332, 333, 334, 335] (by decide +kernel) (by decide +kernel)
set_option maxRecDepth 20000 in
theorem gL_law_X0_poke : GoodIn wsL_law (wsV RL 27 RX0 yX0_poke wsX0_poke) := goodIn_app (goodIn_of _ (by decide +kernel)) ggL_law_X0_poke
set_option maxRecDepth 20000 in
theorem ggL_law_X1_poke : GoodIn wsL_law wsX1_poke := goodIn_r _ [88, 27, 336, 337, 338, 339, 340, 341, 342, 343, 344, 345, 346, 347] (by decide +kernel) (by decide +kernel)
set_option maxRecDepth 20000 in
theorem gL_law_X1_poke : GoodIn wsL_law (wsV RL 30 RX1 yX1_poke wsX1_poke) := goodIn_app (goodIn_of _ (by decide +kernel)) ggL_law_X1_poke
set_option maxRecDepth 20000 in
theorem ggL_law_X0_peek : GoodIn wsL_law wsX0_peek := goodIn_r _ [92, 72, 73, 2, 74, 75, 76, 77, 93, 94, 95, 96, 15, 82, 83, 84, 330, 331, 332, 333, 334, 335] (by decide +kernel) (by decide +kernel)
set_option maxRecDepth 20000 in
theorem gL_law_X0_peek : GoodIn wsL_law (wsV RL 31 RX0 yX0_peek wsX0_peek) := goodIn_app (goodIn_of _ (by decide +kernel)) ggL_law_X0_peek
set_option maxRecDepth 20000 in
theorem ggL_law_X1_peek : GoodIn wsL_law wsX1_peek := goodIn_r _ [100, 27, 336, 337, 338, 339, 340, 341, 342, 343, 344, 345, 346, 347] (by decide +kernel) (by decide +kernel)
set_option maxRecDepth 20000 in
theorem gL_law_X1_peek : GoodIn wsL_law (wsV RL 34 RX1 yX1_peek wsX1_peek) := goodIn_app (goodIn_of _ (by decide +kernel)) ggL_law_X1_peek
set_option maxRecDepth 20000 in
theorem ggL_law_X0_go : GoodIn wsL_law wsX0_go := goodIn_r _ [104, 17, 75, 76, 2, 77, 330, 331, 332, 333, 334, 335] (by decide +kernel) (by decide +kernel)
set_option maxRecDepth 20000 in
theorem gL_law_X0_go : GoodIn wsL_law (wsV RL 35 RX0 yX0_go wsX0_go) := goodIn_app (goodIn_of _ (by decide +kernel)) ggL_law_X0_go
set_option maxRecDepth 20000 in
theorem ggL_law_X1_go : GoodIn wsL_law wsX1_go := goodIn_r _ [108, 109, 336, 337, 338, 339, 340, 341, 342, 343, 344, 345, 346, 347] (by decide +kernel) (by decide +kernel)
set_option maxRecDepth 20000 in
theorem gL_law_X1_go : GoodIn wsL_law (wsV RL 39 RX1 yX1_go wsX1_go) := goodIn_app (goodIn_of _ (by decide +kernel)) ggL_law_X1_go
set_option maxRecDepth 20000 in
theorem ggL_law_X0_pc : GoodIn wsL_law wsX0_pc := goodIn_r _ [113, 17, 330, 331, 332, 333, 334, 335] (by decide +kernel) (by decide +kernel)
set_option maxRecDepth 20000 in
theorem gL_law_X0_pc : GoodIn wsL_law (wsV RL 40 RX0 yX0_pc wsX0_pc) := goodIn_app (goodIn_of _ (by decide +kernel)) ggL_law_X0_pc
set_option maxRecDepth 20000 in
theorem ggL_law_X1_pc : GoodIn wsL_law wsX1_pc := goodIn_r _ [117, 109, 336, 337, 338, 339, 340, 341, 342, 343, 344, 345, 346, 347] (by decide +kernel) (by decide +kernel)
set_option maxRecDepth 20000 in
theorem gL_law_X1_pc : GoodIn wsL_law (wsV RL 44 RX1 yX1_pc wsX1_pc) := goodIn_app (goodIn_of _ (by decide +kernel)) ggL_law_X1_pc
set_option maxRecDepth 20000 in
theorem ggL_law_X0_run : GoodIn wsL_law wsX0_run := goodIn_r _ [121, 122, 123, 124, 2, 125, 17, 13, 18, 126, 127, 128, 129, 16, 75, 76, 77, 130, 131, 132, 133, 134, 135, 136, 137, 138, 139, 140, 141, 142, 143, 144, 145, 146, 147, 14, 148, 149, 150, 151, 152, 153, 154, 155, 156, 157, 158, 159, 160, 161, 162, 163, 164, 165, 166, 167, 44, 45, 46, 47, 168, 169, 170, 171, 172, 173, 174, 175, 176, 177, 178, 179, 180, 181, 182, 183, 184, 185, 186, 187, 188, 189, 190, 191, 192, 193, 194, 195, 196, 197, 198, 199, 200, 201, 202, 203, 72, 73, 74, 93, 94, 95, 96, 15, 82, 83, 84, 204, 205, 206, 207, 208, 209, 210, 211, 212, 213, 214, 215, 216, 217, 78, 79, 80, 81, 218, 219, 220, 221, 222, 223, 224, 225, 226, 227, 228, 229, 230, 231, 232, 233, 234, 235, 236, 237, 238, 239, 240, 241, 242, 243, 330, 331, 332, 333, 334, 335] (by decide +kernel) (by decide +kernel)
set_option maxRecDepth 20000 in
theorem gL_law_X0_run : GoodIn wsL_law (wsV RL 45 RX0 yX0_run wsX0_run) := goodIn_app (goodIn_of _ (by decide +kernel)) ggL_law_X0_run
set_option maxRecDepth 20000 in
theorem ggL_law_X1_run : GoodIn wsL_law wsX1_run := goodIn_r _ [247, 248, 249, 250, 5, 251, 109, 36, 23, 252, 253, 254, 25, 255, 256, 257, 258, 259, 260, 261, 56, 57, 58, 59, 262, 263, 264, 265, 266, 267, 268, 269, 270, 271, 272, 273, 274, 275, 276, 277, 278, 52, 53, 54, 55, 279, 280, 281, 282, 27, 283, 284, 285, 286, 287, 288, 289, 290, 291, 292, 293, 294, 295, 296, 297, 298, 299, 300, 301, 302, 303, 304, 305, 306, 307, 308, 309, 310, 311, 312, 313, 314, 315, 316, 317, 318, 319, 320, 321, 336, 337, 338, 339, 340, 341, 342, 343, 344, 345, 346, 347] (by decide +kernel) (by decide +kernel)
set_option maxRecDepth 20000 in
theorem gL_law_X1_run : GoodIn wsL_law (wsV RL 48 RX1 yX1_run wsX1_run) := goodIn_app (goodIn_of _ (by decide +kernel)) ggL_law_X1_run
set_option maxRecDepth 20000 in
theorem ggL_law_X0_steps : GoodIn wsL_law wsX0_steps := goodIn_r _ [325, 18, 330, 331, 332, 333, 334, 335] (by decide +kernel) (by decide +kernel)
set_option maxRecDepth 20000 in
theorem gL_law_X0_steps : GoodIn wsL_law (wsV RL 49 RX0 yX0_steps wsX0_steps) := goodIn_app (goodIn_of _ (by decide +kernel)) ggL_law_X0_steps
set_option maxRecDepth 20000 in
theorem ggL_law_X1_steps : GoodIn wsL_law wsX1_steps := goodIn_r _ [329, 252, 336, 337, 338, 339, 340, 341, 342, 343, 344, 345, 346, 347] (by decide +kernel) (by decide +kernel)
set_option maxRecDepth 20000 in
theorem gL_law_X1_steps : GoodIn wsL_law (wsV RL 52 RX1 yX1_steps wsX1_steps) := goodIn_app (goodIn_of _ (by decide +kernel)) ggL_law_X1_steps
theorem dL_law_0 : decode cL_law 0 = .ok (.new 7, 3) := by decide +kernel
theorem dL_law_3 : decode cL_law 3 = .ok (.dup, 1) := by decide +kernel
theorem dL_law_4 : decode cL_law 4 = .ok (.invokespecial 9, 3) := by decide +kernel
theorem dL_law_7 : decode cL_law 7 = .ok (.astore_n 1, 1) := by decide +kernel
theorem dL_law_8 : decode cL_law 8 = .ok (.new 10, 3) := by decide +kernel
theorem dL_law_11 : decode cL_law 11 = .ok (.dup, 1) := by decide +kernel
theorem dL_law_12 : decode cL_law 12 = .ok (.invokespecial 12, 3) := by decide +kernel
theorem dL_law_15 : decode cL_law 15 = .ok (.astore_n 2, 1) := by decide +kernel
theorem dL_law_16 : decode cL_law 16 = .ok (.iconst 0, 1) := by decide +kernel
theorem dL_law_17 : decode cL_law 17 = .ok (.istore_n 3, 1) := by decide +kernel
theorem dL_law_18 : decode cL_law 18 = .ok (.iload_n 3, 1) := by decide +kernel
theorem dL_law_19 : decode cL_law 19 = .ok (.aload_n 0, 1) := by decide +kernel
theorem dL_law_20 : decode cL_law 20 = .ok (.arraylength, 1) := by decide +kernel
theorem dL_law_21 : decode cL_law 21 = .ok (.iconst 3, 1) := by decide +kernel
theorem dL_law_22 : decode cL_law 22 = .ok (.isub, 1) := by decide +kernel
theorem dL_law_23 : decode cL_law 23 = .ok (.if_icmp .gt 274, 3) := by decide +kernel
theorem dL_law_26 : decode cL_law 26 = .ok (.aload_n 0, 1) := by decide +kernel
theorem dL_law_27 : decode cL_law 27 = .ok (.iload_n 3, 1) := by decide +kernel
theorem dL_law_28 : decode cL_law 28 = .ok (.iaload, 1) := by decide +kernel
theorem dL_law_29 : decode cL_law 29 = .ok (.bipush 15, 2) := by decide +kernel
theorem dL_law_31 : decode cL_law 31 = .ok (.iand, 1) := by decide +kernel
theorem dL_law_32 : decode cL_law 32 = .ok (.tableswitch 259 0 8 #[52, 75, 108, 131, 164, 187, 210, 223, 246], 52) := by decide +kernel
theorem dL_law_84 : decode cL_law 84 = .ok (.aload_n 1, 1) := by decide +kernel
theorem dL_law_85 : decode cL_law 85 = .ok (.aload_n 0, 1) := by decide +kernel
theorem dL_law_86 : decode cL_law 86 = .ok (.iload_n 3, 1) := by decide +kernel
theorem dL_law_87 : decode cL_law 87 = .ok (.iconst 1, 1) := by decide +kernel
theorem dL_law_88 : decode cL_law 88 = .ok (.iadd, 1) := by decide +kernel
theorem dL_law_89 : decode cL_law 89 = .ok (.iaload, 1) := by decide +kernel
theorem dL_law_90 : decode cL_law 90 = .ok (.invokevirtual 13, 3) := by decide +kernel
theorem dL_law_93 : decode cL_law 93 = .ok (.aload_n 2, 1) := by decide +kernel
theorem dL_law_94 : decode cL_law 94 = .ok (.aload_n 0, 1) := by decide +kernel
theorem dL_law_95 : decode cL_law 95 = .ok (.iload_n 3, 1) := by decide +kernel
theorem dL_law_96 : decode cL_law 96 = .ok (.iconst 1, 1) := by decide +kernel
theorem dL_law_97 : decode cL_law 97 = .ok (.iadd, 1) := by decide +kernel
theorem dL_law_98 : decode cL_law 98 = .ok (.iaload, 1) := by decide +kernel
theorem dL_law_99 : decode cL_law 99 = .ok (.invokevirtual 17, 3) := by decide +kernel
theorem dL_law_102 : decode cL_law 102 = .ok (.if_icmp .eq 189, 3) := by decide +kernel
theorem dL_law_105 : decode cL_law 105 = .ok (.iconst 0, 1) := by decide +kernel
theorem dL_law_106 : decode cL_law 106 = .ok (.ireturn, 1) := by decide +kernel
theorem dL_law_107 : decode cL_law 107 = .ok (.aload_n 1, 1) := by decide +kernel
theorem dL_law_108 : decode cL_law 108 = .ok (.aload_n 0, 1) := by decide +kernel
theorem dL_law_109 : decode cL_law 109 = .ok (.iload_n 3, 1) := by decide +kernel
theorem dL_law_110 : decode cL_law 110 = .ok (.iconst 1, 1) := by decide +kernel
theorem dL_law_111 : decode cL_law 111 = .ok (.iadd, 1) := by decide +kernel
theorem dL_law_112 : decode cL_law 112 = .ok (.iaload, 1) := by decide +kernel
theorem dL_law_113 : decode cL_law 113 = .ok (.aload_n 0, 1) := by decide +kernel
theorem dL_law_114 : decode cL_law 114 = .ok (.iload_n 3, 1) := by decide +kernel
theorem dL_law_115 : decode cL_law 115 = .ok (.iconst 2, 1) := by decide +kernel
theorem dL_law_116 : decode cL_law 116 = .ok (.iadd, 1) := by decide +kernel
theorem dL_law_117 : decode cL_law 117 = .ok (.iaload, 1) := by decide +kernel
theorem dL_law_118 : decode cL_law 118 = .ok (.invokevirtual 18, 3) := by decide +kernel
theorem dL_law_121 : decode cL_law 121 = .ok (.aload_n 2, 1) := by decide +kernel
theorem dL_law_122 : decode cL_law 122 = .ok (.aload_n 0, 1) := by decide +kernel
theorem dL_law_123 : decode cL_law 123 = .ok (.iload_n 3, 1) := by decide +kernel
theorem dL_law_124 : decode cL_law 124 = .ok (.iconst 1, 1) := by decide +kernel
theorem dL_law_125 : decode cL_law 125 = .ok (.iadd, 1) := by decide +kernel
theorem dL_law_126 : decode cL_law 126 = .ok (.iaload, 1) := by decide +kernel
theorem dL_law_127 : decode cL_law 127 = .ok (.aload_n 0, 1) := by decide +kernel
theorem dL_law_128 : decode cL_law 128 = .ok (.iload_n 3, 1) := by decide +kernel
theorem dL_law_129 : decode cL_law 129 = .ok (.iconst 2, 1) := by decide +kernel
theorem dL_law_130 : decode cL_law 130 = .ok (.iadd, 1) := by decide +kernel
theorem dL_law_131 : decode cL_law 131 = .ok (.iaload, 1) := by decide +kernel
theorem dL_law_132 : decode cL_law 132 = .ok (.invokevirtual 22, 3) := by decide +kernel
theorem dL_law_135 : decode cL_law 135 = .ok (.if_icmp .eq 156, 3) := by decide +kernel
theorem dL_law_138 : decode cL_law 138 = .ok (.iconst 0, 1) := by decide +kernel
theorem dL_law_139 : decode cL_law 139 = .ok (.ireturn, 1) := by decide +kernel
theorem dL_law_140 : decode cL_law 140 = .ok (.aload_n 1, 1) := by decide +kernel
theorem dL_law_141 : decode cL_law 141 = .ok (.aload_n 0, 1) := by decide +kernel
theorem dL_law_142 : decode cL_law 142 = .ok (.iload_n 3, 1) := by decide +kernel
theorem dL_law_143 : decode cL_law 143 = .ok (.iconst 1, 1) := by decide +kernel
theorem dL_law_144 : decode cL_law 144 = .ok (.iadd, 1) := by decide +kernel
theorem dL_law_145 : decode cL_law 145 = .ok (.iaload, 1) := by decide +kernel
theorem dL_law_146 : decode cL_law 146 = .ok (.invokevirtual 23, 3) := by decide +kernel
theorem dL_law_149 : decode cL_law 149 = .ok (.aload_n 2, 1) := by decide +kernel
theorem dL_law_150 : decode cL_law 150 = .ok (.aload_n 0, 1) := by decide +kernel
theorem dL_law_151 : decode cL_law 151 = .ok (.iload_n 3, 1) := by decide +kernel
theorem dL_law_152 : decode cL_law 152 = .ok (.iconst 1, 1) := by decide +kernel
theorem dL_law_153 : decode cL_law 153 = .ok (.iadd, 1) := by decide +kernel
theorem dL_law_154 : decode cL_law 154 = .ok (.iaload, 1) := by decide +kernel
theorem dL_law_155 : decode cL_law 155 = .ok (.invokevirtual 26, 3) := by decide +kernel
theorem dL_law_158 : decode cL_law 158 = .ok (.if_icmp .eq 133, 3) := by decide +kernel
theorem dL_law_161 : decode cL_law 161 = .ok (.iconst 0, 1) := by decide +kernel
theorem dL_law_162 : decode cL_law 162 = .ok (.ireturn, 1) := by decide +kernel
theorem dL_law_163 : decode cL_law 163 = .ok (.aload_n 1, 1) := by decide +kernel
theorem dL_law_164 : decode cL_law 164 = .ok (.aload_n 0, 1) := by decide +kernel
theorem dL_law_165 : decode cL_law 165 = .ok (.iload_n 3, 1) := by decide +kernel
theorem dL_law_166 : decode cL_law 166 = .ok (.iconst 1, 1) := by decide +kernel
theorem dL_law_167 : decode cL_law 167 = .ok (.iadd, 1) := by decide +kernel
theorem dL_law_168 : decode cL_law 168 = .ok (.iaload, 1) := by decide +kernel
theorem dL_law_169 : decode cL_law 169 = .ok (.aload_n 0, 1) := by decide +kernel
theorem dL_law_170 : decode cL_law 170 = .ok (.iload_n 3, 1) := by decide +kernel
theorem dL_law_171 : decode cL_law 171 = .ok (.iconst 2, 1) := by decide +kernel
theorem dL_law_172 : decode cL_law 172 = .ok (.iadd, 1) := by decide +kernel
theorem dL_law_173 : decode cL_law 173 = .ok (.iaload, 1) := by decide +kernel
theorem dL_law_174 : decode cL_law 174 = .ok (.invokevirtual 27, 3) := by decide +kernel
theorem dL_law_177 : decode cL_law 177 = .ok (.aload_n 2, 1) := by decide +kernel
theorem dL_law_178 : decode cL_law 178 = .ok (.aload_n 0, 1) := by decide +kernel
theorem dL_law_179 : decode cL_law 179 = .ok (.iload_n 3, 1) := by decide +kernel
theorem dL_law_180 : decode cL_law 180 = .ok (.iconst 1, 1) := by decide +kernel
theorem dL_law_181 : decode cL_law 181 = .ok (.iadd, 1) := by decide +kernel
theorem dL_law_182 : decode cL_law 182 = .ok (.iaload, 1) := by decide +kernel
theorem dL_law_183 : decode cL_law 183 = .ok (.aload_n 0, 1) := by decide +kernel
theorem dL_law_184 : decode cL_law 184 = .ok (.iload_n 3, 1) := by decide +kernel
theorem dL_law_185 : decode cL_law 185 = .ok (.iconst 2, 1) := by decide +kernel
theorem dL_law_186 : decode cL_law 186 = .ok (.iadd, 1) := by decide +kernel
theorem dL_law_187 : decode cL_law 187 = .ok (.iaload, 1) := by decide +kernel
theorem dL_law_188 : decode cL_law 188 = .ok (.invokevirtual 30, 3) := by decide +kernel
theorem dL_law_191 : decode cL_law 191 = .ok (.if_icmp .eq 100, 3) := by decide +kernel
theorem dL_law_194 : decode cL_law 194 = .ok (.iconst 0, 1) := by decide +kernel
theorem dL_law_195 : decode cL_law 195 = .ok (.ireturn, 1) := by decide +kernel
theorem dL_law_196 : decode cL_law 196 = .ok (.aload_n 1, 1) := by decide +kernel
theorem dL_law_197 : decode cL_law 197 = .ok (.aload_n 0, 1) := by decide +kernel
theorem dL_law_198 : decode cL_law 198 = .ok (.iload_n 3, 1) := by decide +kernel
theorem dL_law_199 : decode cL_law 199 = .ok (.iconst 1, 1) := by decide +kernel
theorem dL_law_200 : decode cL_law 200 = .ok (.iadd, 1) := by decide +kernel
theorem dL_law_201 : decode cL_law 201 = .ok (.iaload, 1) := by decide +kernel
theorem dL_law_202 : decode cL_law 202 = .ok (.invokevirtual 31, 3) := by decide +kernel
theorem dL_law_205 : decode cL_law 205 = .ok (.aload_n 2, 1) := by decide +kernel
theorem dL_law_206 : decode cL_law 206 = .ok (.aload_n 0, 1) := by decide +kernel
theorem dL_law_207 : decode cL_law 207 = .ok (.iload_n 3, 1) := by decide +kernel
theorem dL_law_208 : decode cL_law 208 = .ok (.iconst 1, 1) := by decide +kernel
theorem dL_law_209 : decode cL_law 209 = .ok (.iadd, 1) := by decide +kernel
theorem dL_law_210 : decode cL_law 210 = .ok (.iaload, 1) := by decide +kernel
theorem dL_law_211 : decode cL_law 211 = .ok (.invokevirtual 34, 3) := by decide +kernel
theorem dL_law_214 : decode cL_law 214 = .ok (.if_icmp .eq 77, 3) := by decide +kernel
theorem dL_law_217 : decode cL_law 217 = .ok (.iconst 0, 1) := by decide +kernel
theorem dL_law_218 : decode cL_law 218 = .ok (.ireturn, 1) := by decide +kernel
theorem dL_law_219 : decode cL_law 219 = .ok (.aload_n 1, 1) := by decide +kernel
theorem dL_law_220 : decode cL_law 220 = .ok (.aload_n 0, 1) := by decide +kernel
theorem dL_law_221 : decode cL_law 221 = .ok (.iload_n 3, 1) := by decide +kernel
theorem dL_law_222 : decode cL_law 222 = .ok (.iconst 1, 1) := by decide +kernel
theorem dL_law_223 : decode cL_law 223 = .ok (.iadd, 1) := by decide +kernel
theorem dL_law_224 : decode cL_law 224 = .ok (.iaload, 1) := by decide +kernel
theorem dL_law_225 : decode cL_law 225 = .ok (.invokevirtual 35, 3) := by decide +kernel
theorem dL_law_228 : decode cL_law 228 = .ok (.aload_n 2, 1) := by decide +kernel
theorem dL_law_229 : decode cL_law 229 = .ok (.aload_n 0, 1) := by decide +kernel
theorem dL_law_230 : decode cL_law 230 = .ok (.iload_n 3, 1) := by decide +kernel
theorem dL_law_231 : decode cL_law 231 = .ok (.iconst 1, 1) := by decide +kernel
theorem dL_law_232 : decode cL_law 232 = .ok (.iadd, 1) := by decide +kernel
theorem dL_law_233 : decode cL_law 233 = .ok (.iaload, 1) := by decide +kernel
theorem dL_law_234 : decode cL_law 234 = .ok (.invokevirtual 39, 3) := by decide +kernel
theorem dL_law_237 : decode cL_law 237 = .ok (.if_icmp .eq 54, 3) := by decide +kernel
theorem dL_law_240 : decode cL_law 240 = .ok (.iconst 0, 1) := by decide +kernel
theorem dL_law_241 : decode cL_law 241 = .ok (.ireturn, 1) := by decide +kernel
theorem dL_law_242 : decode cL_law 242 = .ok (.aload_n 1, 1) := by decide +kernel
theorem dL_law_243 : decode cL_law 243 = .ok (.invokevirtual 40, 3) := by decide +kernel
theorem dL_law_246 : decode cL_law 246 = .ok (.aload_n 2, 1) := by decide +kernel
theorem dL_law_247 : decode cL_law 247 = .ok (.invokevirtual 44, 3) := by decide +kernel
theorem dL_law_250 : decode cL_law 250 = .ok (.if_icmp .eq 41, 3) := by decide +kernel
theorem dL_law_253 : decode cL_law 253 = .ok (.iconst 0, 1) := by decide +kernel
theorem dL_law_254 : decode cL_law 254 = .ok (.ireturn, 1) := by decide +kernel
theorem dL_law_255 : decode cL_law 255 = .ok (.aload_n 1, 1) := by decide +kernel
theorem dL_law_256 : decode cL_law 256 = .ok (.aload_n 0, 1) := by decide +kernel
theorem dL_law_257 : decode cL_law 257 = .ok (.iload_n 3, 1) := by decide +kernel
theorem dL_law_258 : decode cL_law 258 = .ok (.iconst 1, 1) := by decide +kernel
theorem dL_law_259 : decode cL_law 259 = .ok (.iadd, 1) := by decide +kernel
theorem dL_law_260 : decode cL_law 260 = .ok (.iaload, 1) := by decide +kernel
theorem dL_law_261 : decode cL_law 261 = .ok (.invokevirtual 45, 3) := by decide +kernel
theorem dL_law_264 : decode cL_law 264 = .ok (.aload_n 2, 1) := by decide +kernel
theorem dL_law_265 : decode cL_law 265 = .ok (.aload_n 0, 1) := by decide +kernel
theorem dL_law_266 : decode cL_law 266 = .ok (.iload_n 3, 1) := by decide +kernel
theorem dL_law_267 : decode cL_law 267 = .ok (.iconst 1, 1) := by decide +kernel
theorem dL_law_268 : decode cL_law 268 = .ok (.iadd, 1) := by decide +kernel
theorem dL_law_269 : decode cL_law 269 = .ok (.iaload, 1) := by decide +kernel
theorem dL_law_270 : decode cL_law 270 = .ok (.invokevirtual 48, 3) := by decide +kernel
theorem dL_law_273 : decode cL_law 273 = .ok (.if_icmp .eq 18, 3) := by decide +kernel
theorem dL_law_276 : decode cL_law 276 = .ok (.iconst 0, 1) := by decide +kernel
theorem dL_law_277 : decode cL_law 277 = .ok (.ireturn, 1) := by decide +kernel
theorem dL_law_278 : decode cL_law 278 = .ok (.aload_n 1, 1) := by decide +kernel
theorem dL_law_279 : decode cL_law 279 = .ok (.invokevirtual 49, 3) := by decide +kernel
theorem dL_law_282 : decode cL_law 282 = .ok (.aload_n 2, 1) := by decide +kernel
theorem dL_law_283 : decode cL_law 283 = .ok (.invokevirtual 52, 3) := by decide +kernel
theorem dL_law_286 : decode cL_law 286 = .ok (.if_icmp .eq 5, 3) := by decide +kernel
theorem dL_law_289 : decode cL_law 289 = .ok (.iconst 0, 1) := by decide +kernel
theorem dL_law_290 : decode cL_law 290 = .ok (.ireturn, 1) := by decide +kernel
theorem dL_law_291 : decode cL_law 291 = .ok (.iinc 3 3, 3) := by decide +kernel
theorem dL_law_294 : decode cL_law 294 = .ok (.goto (-276), 3) := by decide +kernel
theorem dL_law_297 : decode cL_law 297 = .ok (.iconst 1, 1) := by decide +kernel
theorem dL_law_298 : decode cL_law 298 = .ok (.ireturn, 1) := by decide +kernel
end
section
/-! The two states as values, their worlds, and a row a call. -/
/-- WordMachine: code, registers, memory, wordCount, pc, stepsDone -/
abbrev WS : Type := (Nat → Int32) × (Nat → Int32) × (Nat → Int32) × Int32 × Int32 × Int32
/-- the reference: code, words, pc, steps, registers, memory, d, t, s, immediate, x, y -/
abbrev MS : Type := (Nat → Int32) × Int32 × Int32 × Int32 × (Nat → Int64) × (Nat → Int32) × Int32 × Int32 × Int32 × Int32 × Int64 × Int64
abbrev wa0 (h q1 q2 q3 : Nat) : Nat → Prop := fun q => q = h ∨ q = q1 ∨ q = q2 ∨ q = q3
abbrev ww0 (cI : ClassId) (h q1 q2 q3 : Nat) (u : WS) : va_W := [(h, .inr (0, [.ref q1, .ref q2, .ref q3, .int u.2.2.2.1, .int u.2.2.2.2.1, .int u.2.2.2.2.2])), (q1, .inl (cI, 1024, .inl u.1)), (q2, .inl (cI, 32, .inl u.2.1)), (q3, .inl (cI, 1024, .inl u.2.2.1))]
abbrev ww1 (cI cJ cB : ClassId) (h q1 q2 q3 : Nat) (v : MS) : va_W := [(h, .inr (1, [.ref q1, .int v.2.1, .int v.2.2.1, .int v.2.2.2.1, .ref q2, .ref q3, .int v.2.2.2.2.2.2.1, .int v.2.2.2.2.2.2.2.1, .int v.2.2.2.2.2.2.2.2.1, .int v.2.2.2.2.2.2.2.2.2.1, .long v.2.2.2.2.2.2.2.2.2.2.1, .long v.2.2.2.2.2.2.2.2.2.2.2])), (q1, .inl (cI, 1024, .inl v.1)), (q2, .inl (cJ, 32, .inr (.inl v.2.2.2.2.1))), (q3, .inl (cB, 4096, .inl v.2.2.2.2.2.1))]
abbrev ty0 (cI : ClassId) : List (ClassId × FieldType) := [(cI, .int)]
abbrev ty1 (cI cJ cB : ClassId) : List (ClassId × FieldType) := [(cI, .int), (cJ, .long), (cB, .byte)]
/-- the four addresses are apart -/
def ap4 (h q1 q2 q3 : Nat) : Prop := h ≠ q1 ∧ h ≠ q2 ∧ h ≠ q3 ∧ q1 ≠ q2 ∧ q1 ≠ q3 ∧ q2 ≠ q3
theorem ap4_D {h q1 q2 q3 : Nat} {e0 e1 e2 e3 : va_E} (a : ap4 h q1 q2 q3) : va_D (wa0 h q1 q2 q3) [(h, e0), (q1, e1), (q2, e2), (q3, e3)] := by
  obtain ⟨a1, a2, a3, a4, a5, a6⟩ := a
  have ne : ∀ {x y : Nat}, x ≠ y → y ≠ x := fun h e => h e.symm
  refine ⟨fun i j p q hi hj hpq => ?_, fun k q hk => ?_⟩
  · match i, j with
    | 0, 0 => rfl
    | 0, 1 => cases hi; cases hj; exact absurd hpq a1
    | 0, 2 => cases hi; cases hj; exact absurd hpq a2
    | 0, 3 => cases hi; cases hj; exact absurd hpq a3
    | 1, 0 => cases hi; cases hj; exact absurd hpq (ne a1)
    | 1, 1 => rfl
    | 1, 2 => cases hi; cases hj; exact absurd hpq a4
    | 1, 3 => cases hi; cases hj; exact absurd hpq a5
    | 2, 0 => cases hi; cases hj; exact absurd hpq (ne a2)
    | 2, 1 => cases hi; cases hj; exact absurd hpq (ne a4)
    | 2, 2 => rfl
    | 2, 3 => cases hi; cases hj; exact absurd hpq a6
    | 3, 0 => cases hi; cases hj; exact absurd hpq (ne a3)
    | 3, 1 => cases hi; cases hj; exact absurd hpq (ne a5)
    | 3, 2 => cases hi; cases hj; exact absurd hpq (ne a6)
    | 3, 3 => rfl
    | i + 4, _ => exact absurd hi (by simp)
    | 0, j + 4 => exact absurd hj (by simp)
    | 1, j + 4 => exact absurd hj (by simp)
    | 2, j + 4 => exact absurd hj (by simp)
    | 3, j + 4 => exact absurd hj (by simp)
  · match k with
    | 0 => cases hk; exact Or.inl rfl
    | 1 => cases hk; exact Or.inr (Or.inl rfl)
    | 2 => cases hk; exact Or.inr (Or.inr (Or.inl rfl))
    | 3 => cases hk; exact Or.inr (Or.inr (Or.inr rfl))
    | k + 4 => exact absurd hk (by simp)
/-- what a pure static method promises -/
abbrev Pui (l : Launch) (y : MethodName) (ws : List Cond) (fr lo : Nat) (As : List Value) (v : Int32) : Prop := Met l y ws ({ frames := fr, cells := 0, slots := 0, locals := lo }) (va_Pc As (fun _ => True)) (va_Qi (fun (r : Int32) (_ : Unit) => r = v) (fun _ _ => True) (fun _ => False)) 0 0 (fun _ => False)
abbrev Pul (l : Launch) (y : MethodName) (ws : List Cond) (fr lo : Nat) (As : List Value) (v : Int64) : Prop := Met l y ws ({ frames := fr, cells := 0, slots := 0, locals := lo }) (va_Pc As (fun _ => True)) (va_Ql (fun (r : Int64) (_ : Unit) => r = v) (fun _ _ => True) (fun _ => False)) 0 0 (fun _ => False)
/-- what a method of an object promises: its world before, its world behind, its answer -/
abbrev Wpre (D : va_G) (tys : List (ClassId × FieldType)) (w : va_W) (U : State) : Prop := va_P D vwCl w U.heap ∧ va_K D vwCl tys U
abbrev Ini (l : Launch) (y : MethodName) (ws : List Cond) (fr lo : Nat) (D : va_G) (tys : List (ClassId × FieldType)) (A : Nat → Prop) (As : List Value) (w w1 : va_W) (v : Int32) : Prop := Met l y ws ({ frames := fr, cells := 0, slots := 0, locals := lo }) (va_Pc As (Wpre D tys w)) (va_Qi (fun (r : Int32) (_ : Unit) => r = v) (fun _ t => va_P D vwCl w1 t.heap) A) 0 0 A
abbrev Inl (l : Launch) (y : MethodName) (ws : List Cond) (fr lo : Nat) (D : va_G) (tys : List (ClassId × FieldType)) (A : Nat → Prop) (As : List Value) (w w1 : va_W) (v : Int64) : Prop := Met l y ws ({ frames := fr, cells := 0, slots := 0, locals := lo }) (va_Pc As (Wpre D tys w)) (va_Ql (fun (r : Int64) (_ : Unit) => r = v) (fun _ t => va_P D vwCl w1 t.heap) A) 0 0 A
abbrev Inv (l : Launch) (y : MethodName) (ws : List Cond) (fr lo : Nat) (D : va_G) (tys : List (ClassId × FieldType)) (A : Nat → Prop) (As : List Value) (w w1 : va_W) : Prop := Met l y ws ({ frames := fr, cells := 0, slots := 0, locals := lo }) (va_Pc As (Wpre D tys w)) (va_Qv (fun (_ : Unit) => True) (fun _ t => va_P D vwCl w1 t.heap) A) 0 0 A
theorem Wpre_blind {D : va_G} {tys : List (ClassId × FieldType)} {w : va_W} {As : List Value} : FrameBlind (va_Pc As (Wpre D tys w)) := fun a U g mk q => ⟨q.1, q.2.1, va_K.moved (u := U) (U := U.calling g mk a) (Vm.Alike.refl U.vm) q.2.2⟩
section CALLS
variable {p : Program} {l : Launch} {e : Env} {R : Room} {s : State} {m : MethodId} {args : Array Value} {below : List Frame} {meth : Method} {c : Code} {H : Heap} {locs : List Loc} {cells slots : Nat} {Q : State → Prop}
variable {cc : ByteArray} {nL : Nat} {Ts : List Cond} {own : String} {pc : Nat} {ls : Array Slot} {rest st0 : List Value} {D D2 : va_G} {cl : List vw_C} {A A1 : Nat → Prop} {H0 : Heap} {w0 w w1 : va_W} {tys : List (ClassId × FieldType)}
variable {y : MethodName} {bytes : ByteArray} {maxL fr lo index n : Nat} {ret : Option FieldType} {ws ws' : List Cond} {As : List Value}
/-- a call of a pure static method with an int for an answer: the world stays -/
theorem pu_i {v : Int32} (S : CallFix p m c cc nL s args Ts own) (hM : Pui l y ws fr lo As v) (hT : GoodIn Ts (va_wsS own index y ws)) (hw : ws = Cond.code y bytes maxL ret :: ws') (hd : y.cls ≠ "java/lang/invoke/MethodHandle" ∧ y.cls ≠ "java/lang/invoke/VarHandle" ∧ (parseMethodDescriptor y.desc).map (fun d => d.parameters.length) = some As.length) (hR : fr + 1 ≤ R.frames ∧ 8 + (maxL + 11) + lo ≤ R.locals)
    (hsz : ls.size = nL) (hst : st0 = As.reverse ++ rest) (hrm : (rest.map fun v => v.category).sum ≤ 8) (hdg : decode cc pc = .ok (.invokestatic index, 3)) (hf : cells ≤ R.cells ∧ slots ≤ R.slots) (hP : va_P D cl w0 H) (hS : va_S A H0 H locs)
    (k : ∀ (H1 : Heap) (locs1 : List Loc), va_P D cl w0 H1 → va_S A H0 H1 locs1 → W p l e R s m args below meth c H1 locs1 cells slots Q (F0 m (pc + 3) ls (.int v :: rest))) : W p l e R s m args below meth c H locs cells slots Q (F0 m pc ls st0) := by
  subst hst
  refine va_calli (va_runS S hM (va_cwS As.length S.2.2.2.2 hT hw rfl rfl hd hR) ⟨fun a U g mk q => q, fun U hU hW => ⟨rfl, trivial⟩⟩ rfl rfl hsz rfl (lv_room hrm) hdg hf) hS (fun q _ h => h.elim) (fun q h => h.elim) (fun r u t H1 locs1 ht hvm hpost hB hz1 hk1 hS1 => ?_)
  subst hpost
  exact k H1 locs1 (hP.kept (fun k q hq => hk1 q.1 ((hP k q hq).lt) (fun h => h))) hS1
theorem pu_l {v : Int64} (S : CallFix p m c cc nL s args Ts own) (hM : Pul l y ws fr lo As v) (hT : GoodIn Ts (va_wsS own index y ws)) (hw : ws = Cond.code y bytes maxL ret :: ws') (hd : y.cls ≠ "java/lang/invoke/MethodHandle" ∧ y.cls ≠ "java/lang/invoke/VarHandle" ∧ (parseMethodDescriptor y.desc).map (fun d => d.parameters.length) = some As.length) (hR : fr + 1 ≤ R.frames ∧ 8 + (maxL + 11) + lo ≤ R.locals)
    (hsz : ls.size = nL) (hst : st0 = As.reverse ++ rest) (hrm : (rest.map fun v => v.category).sum ≤ 8) (hdg : decode cc pc = .ok (.invokestatic index, 3)) (hf : cells ≤ R.cells ∧ slots ≤ R.slots) (hP : va_P D cl w0 H) (hS : va_S A H0 H locs)
    (k : ∀ (H1 : Heap) (locs1 : List Loc), va_P D cl w0 H1 → va_S A H0 H1 locs1 → W p l e R s m args below meth c H1 locs1 cells slots Q (F0 m (pc + 3) ls (.long v :: rest))) : W p l e R s m args below meth c H locs cells slots Q (F0 m pc ls st0) := by
  subst hst
  refine va_calll (va_runS S hM (va_cwS As.length S.2.2.2.2 hT hw rfl rfl hd hR) ⟨fun a U g mk q => q, fun U hU hW => ⟨rfl, trivial⟩⟩ rfl rfl hsz rfl (lv_room hrm) hdg hf) hS (fun q _ h => h.elim) (fun q h => h.elim) (fun r u t H1 locs1 ht hvm hpost hB hz1 hk1 hS1 => ?_)
  subst hpost
  exact k H1 locs1 (hP.kept (fun k q hq => hk1 q.1 ((hP k q hq).lt) (fun h => h))) hS1
variable {C : String} {b ci q0 : Nat} {T0 : u_T} {N0 : Nat} {fs : List Value}
/-- a call of a method of the object at b, whose world is w: it becomes w1, and cells outside A1 stay -/
theorem in_i {v : Int32} (S : CallFix p m c cc nL s args Ts own) (hM : Ini l y ws fr lo D tys A1 (.ref b :: As) w w1 v) (hT : GoodIn Ts (wsV own index C y ws)) (hw : ws = Cond.code y bytes maxL ret :: ws') (hd : y.cls = C ∧ y.cls ≠ "java/lang/invoke/MethodHandle" ∧ y.cls ≠ "java/lang/invoke/VarHandle" ∧ (parseMethodDescriptor y.desc).map (fun d => d.parameters.length) = some As.length) (hR : fr + 1 ≤ R.frames ∧ 8 + (maxL + 11) + lo ≤ R.locals)
    (hK : va_K D vwCl tys s) (hc : vwCl[ci]? = some (C, T0, N0)) (he : w[0]? = some (b, .inr (ci, fs)))
    (hsz : ls.size = nL) (hst : st0 = As.reverse ++ .ref b :: rest) (hrm : (rest.map fun v => v.category).sum ≤ 8) (hdg : decode cc pc = .ok (.invokevirtual index, 3)) (hf : cells ≤ R.cells ∧ slots ≤ R.slots) (hP : va_P D vwCl w H) (hS : va_S A H0 H locs) (hA : ∀ q, A1 q → A q)
    (k : ∀ (H1 : Heap) (locs1 : List Loc), va_P D vwCl w1 H1 → va_S A H0 H1 locs1 → H.size ≤ H1.size → (∀ q : Nat, q < H.size → ¬ A1 q → H1[q]? = H[q]?) → W p l e R s m args below meth c H1 locs1 cells slots Q (F0 m (pc + 3) ls (.int v :: rest))) : W p l e R s m args below meth c H locs cells slots Q (F0 m pc ls st0) := by
  subst hst
  refine va_calli (va_runV S hM (cwV As.length S.2.2.2.2 hT hw rfl rfl hd hR) ⟨Wpre_blind, va_recv hK hP hc he, fun U hU hW => ⟨rfl, by rw [hU]; exact hP, va_K.moved hW.alike hK⟩⟩ rfl rfl hsz rfl (lv_room hrm) hdg hf) hS (fun q _ h => hA q h) hA (fun r u t H1 locs1 ht hvm hpost hB hz1 hk1 hS1 => ?_)
  subst hpost
  rw [ht] at hB
  exact k H1 locs1 hB hS1 hz1 hk1
theorem in_l {v : Int64} (S : CallFix p m c cc nL s args Ts own) (hM : Inl l y ws fr lo D tys A1 (.ref b :: As) w w1 v) (hT : GoodIn Ts (wsV own index C y ws)) (hw : ws = Cond.code y bytes maxL ret :: ws') (hd : y.cls = C ∧ y.cls ≠ "java/lang/invoke/MethodHandle" ∧ y.cls ≠ "java/lang/invoke/VarHandle" ∧ (parseMethodDescriptor y.desc).map (fun d => d.parameters.length) = some As.length) (hR : fr + 1 ≤ R.frames ∧ 8 + (maxL + 11) + lo ≤ R.locals)
    (hK : va_K D vwCl tys s) (hc : vwCl[ci]? = some (C, T0, N0)) (he : w[0]? = some (b, .inr (ci, fs)))
    (hsz : ls.size = nL) (hst : st0 = As.reverse ++ .ref b :: rest) (hrm : (rest.map fun v => v.category).sum ≤ 8) (hdg : decode cc pc = .ok (.invokevirtual index, 3)) (hf : cells ≤ R.cells ∧ slots ≤ R.slots) (hP : va_P D vwCl w H) (hS : va_S A H0 H locs) (hA : ∀ q, A1 q → A q)
    (k : ∀ (H1 : Heap) (locs1 : List Loc), va_P D vwCl w1 H1 → va_S A H0 H1 locs1 → H.size ≤ H1.size → (∀ q : Nat, q < H.size → ¬ A1 q → H1[q]? = H[q]?) → W p l e R s m args below meth c H1 locs1 cells slots Q (F0 m (pc + 3) ls (.long v :: rest))) : W p l e R s m args below meth c H locs cells slots Q (F0 m pc ls st0) := by
  subst hst
  refine va_calll (va_runV S hM (cwV As.length S.2.2.2.2 hT hw rfl rfl hd hR) ⟨Wpre_blind, va_recv hK hP hc he, fun U hU hW => ⟨rfl, by rw [hU]; exact hP, va_K.moved hW.alike hK⟩⟩ rfl rfl hsz rfl (lv_room hrm) hdg hf) hS (fun q _ h => hA q h) hA (fun r u t H1 locs1 ht hvm hpost hB hz1 hk1 hS1 => ?_)
  subst hpost
  rw [ht] at hB
  exact k H1 locs1 hB hS1 hz1 hk1
theorem in_v (S : CallFix p m c cc nL s args Ts own) (hM : Inv l y ws fr lo D tys A1 (.ref b :: As) w w1) (hT : GoodIn Ts (wsV own index C y ws)) (hw : ws = Cond.code y bytes maxL ret :: ws') (hd : y.cls = C ∧ y.cls ≠ "java/lang/invoke/MethodHandle" ∧ y.cls ≠ "java/lang/invoke/VarHandle" ∧ (parseMethodDescriptor y.desc).map (fun d => d.parameters.length) = some As.length) (hR : fr + 1 ≤ R.frames ∧ 8 + (maxL + 11) + lo ≤ R.locals)
    (hK : va_K D vwCl tys s) (hc : vwCl[ci]? = some (C, T0, N0)) (he : w[0]? = some (b, .inr (ci, fs)))
    (hsz : ls.size = nL) (hst : st0 = As.reverse ++ .ref b :: rest) (hrm : (rest.map fun v => v.category).sum ≤ 8) (hdg : decode cc pc = .ok (.invokevirtual index, 3)) (hf : cells ≤ R.cells ∧ slots ≤ R.slots) (hP : va_P D vwCl w H) (hS : va_S A H0 H locs) (hA : ∀ q, A1 q → A q)
    (k : ∀ (H1 : Heap) (locs1 : List Loc), va_P D vwCl w1 H1 → va_S A H0 H1 locs1 → H.size ≤ H1.size → (∀ q : Nat, q < H.size → ¬ A1 q → H1[q]? = H[q]?) → W p l e R s m args below meth c H1 locs1 cells slots Q (F0 m (pc + 3) ls rest)) : W p l e R s m args below meth c H locs cells slots Q (F0 m pc ls st0) := by
  subst hst
  refine va_callv (va_runV S hM (cwV As.length S.2.2.2.2 hT hw rfl rfl hd hR) ⟨Wpre_blind, va_recv hK hP hc he, fun U hU hW => ⟨rfl, by rw [hU]; exact hP, va_K.moved hW.alike hK⟩⟩ rfl rfl hsz rfl (lv_room hrm) hdg hf) hS (fun q _ h => hA q h) hA (fun u t H1 locs1 ht hvm hpost hB hz1 hk1 hS1 => ?_)
  rw [ht] at hB
  exact k H1 locs1 hB hS1 hz1 hk1
end CALLS
end
section
abbrev W_code (u : WS) : Nat → Int32 := u.1
abbrev Wp_code (x : Nat → Int32) (u : WS) : WS := (x, u.2.1, u.2.2.1, u.2.2.2.1, u.2.2.2.2.1, u.2.2.2.2.2)
abbrev W_regs (u : WS) : Nat → Int32 := u.2.1
abbrev Wp_regs (x : Nat → Int32) (u : WS) : WS := (u.1, x, u.2.2.1, u.2.2.2.1, u.2.2.2.2.1, u.2.2.2.2.2)
abbrev W_mem (u : WS) : Nat → Int32 := u.2.2.1
abbrev Wp_mem (x : Nat → Int32) (u : WS) : WS := (u.1, u.2.1, x, u.2.2.2.1, u.2.2.2.2.1, u.2.2.2.2.2)
abbrev W_wc (u : WS) : Int32 := u.2.2.2.1
abbrev Wp_wc (x : Int32) (u : WS) : WS := (u.1, u.2.1, u.2.2.1, x, u.2.2.2.2.1, u.2.2.2.2.2)
abbrev W_pc (u : WS) : Int32 := u.2.2.2.2.1
abbrev Wp_pc (x : Int32) (u : WS) : WS := (u.1, u.2.1, u.2.2.1, u.2.2.2.1, x, u.2.2.2.2.2)
abbrev W_st (u : WS) : Int32 := u.2.2.2.2.2
abbrev Wp_st (x : Int32) (u : WS) : WS := (u.1, u.2.1, u.2.2.1, u.2.2.2.1, u.2.2.2.2.1, x)
abbrev M_code (u : MS) : Nat → Int32 := u.1
abbrev Mp_code (x : Nat → Int32) (u : MS) : MS := (x, u.2.1, u.2.2.1, u.2.2.2.1, u.2.2.2.2.1, u.2.2.2.2.2.1, u.2.2.2.2.2.2.1, u.2.2.2.2.2.2.2.1, u.2.2.2.2.2.2.2.2.1, u.2.2.2.2.2.2.2.2.2.1, u.2.2.2.2.2.2.2.2.2.2.1, u.2.2.2.2.2.2.2.2.2.2.2)
abbrev M_wc (u : MS) : Int32 := u.2.1
abbrev Mp_wc (x : Int32) (u : MS) : MS := (u.1, x, u.2.2.1, u.2.2.2.1, u.2.2.2.2.1, u.2.2.2.2.2.1, u.2.2.2.2.2.2.1, u.2.2.2.2.2.2.2.1, u.2.2.2.2.2.2.2.2.1, u.2.2.2.2.2.2.2.2.2.1, u.2.2.2.2.2.2.2.2.2.2.1, u.2.2.2.2.2.2.2.2.2.2.2)
abbrev M_pc (u : MS) : Int32 := u.2.2.1
abbrev Mp_pc (x : Int32) (u : MS) : MS := (u.1, u.2.1, x, u.2.2.2.1, u.2.2.2.2.1, u.2.2.2.2.2.1, u.2.2.2.2.2.2.1, u.2.2.2.2.2.2.2.1, u.2.2.2.2.2.2.2.2.1, u.2.2.2.2.2.2.2.2.2.1, u.2.2.2.2.2.2.2.2.2.2.1, u.2.2.2.2.2.2.2.2.2.2.2)
abbrev M_st (u : MS) : Int32 := u.2.2.2.1
abbrev Mp_st (x : Int32) (u : MS) : MS := (u.1, u.2.1, u.2.2.1, x, u.2.2.2.2.1, u.2.2.2.2.2.1, u.2.2.2.2.2.2.1, u.2.2.2.2.2.2.2.1, u.2.2.2.2.2.2.2.2.1, u.2.2.2.2.2.2.2.2.2.1, u.2.2.2.2.2.2.2.2.2.2.1, u.2.2.2.2.2.2.2.2.2.2.2)
abbrev M_regs (u : MS) : Nat → Int64 := u.2.2.2.2.1
abbrev Mp_regs (x : Nat → Int64) (u : MS) : MS := (u.1, u.2.1, u.2.2.1, u.2.2.2.1, x, u.2.2.2.2.2.1, u.2.2.2.2.2.2.1, u.2.2.2.2.2.2.2.1, u.2.2.2.2.2.2.2.2.1, u.2.2.2.2.2.2.2.2.2.1, u.2.2.2.2.2.2.2.2.2.2.1, u.2.2.2.2.2.2.2.2.2.2.2)
abbrev M_mem (u : MS) : Nat → Int32 := u.2.2.2.2.2.1
abbrev Mp_mem (x : Nat → Int32) (u : MS) : MS := (u.1, u.2.1, u.2.2.1, u.2.2.2.1, u.2.2.2.2.1, x, u.2.2.2.2.2.2.1, u.2.2.2.2.2.2.2.1, u.2.2.2.2.2.2.2.2.1, u.2.2.2.2.2.2.2.2.2.1, u.2.2.2.2.2.2.2.2.2.2.1, u.2.2.2.2.2.2.2.2.2.2.2)
abbrev M_d (u : MS) : Int32 := u.2.2.2.2.2.2.1
abbrev Mp_d (x : Int32) (u : MS) : MS := (u.1, u.2.1, u.2.2.1, u.2.2.2.1, u.2.2.2.2.1, u.2.2.2.2.2.1, x, u.2.2.2.2.2.2.2.1, u.2.2.2.2.2.2.2.2.1, u.2.2.2.2.2.2.2.2.2.1, u.2.2.2.2.2.2.2.2.2.2.1, u.2.2.2.2.2.2.2.2.2.2.2)
abbrev M_t (u : MS) : Int32 := u.2.2.2.2.2.2.2.1
abbrev Mp_t (x : Int32) (u : MS) : MS := (u.1, u.2.1, u.2.2.1, u.2.2.2.1, u.2.2.2.2.1, u.2.2.2.2.2.1, u.2.2.2.2.2.2.1, x, u.2.2.2.2.2.2.2.2.1, u.2.2.2.2.2.2.2.2.2.1, u.2.2.2.2.2.2.2.2.2.2.1, u.2.2.2.2.2.2.2.2.2.2.2)
abbrev M_s (u : MS) : Int32 := u.2.2.2.2.2.2.2.2.1
abbrev Mp_s (x : Int32) (u : MS) : MS := (u.1, u.2.1, u.2.2.1, u.2.2.2.1, u.2.2.2.2.1, u.2.2.2.2.2.1, u.2.2.2.2.2.2.1, u.2.2.2.2.2.2.2.1, x, u.2.2.2.2.2.2.2.2.2.1, u.2.2.2.2.2.2.2.2.2.2.1, u.2.2.2.2.2.2.2.2.2.2.2)
abbrev M_im (u : MS) : Int32 := u.2.2.2.2.2.2.2.2.2.1
abbrev Mp_im (x : Int32) (u : MS) : MS := (u.1, u.2.1, u.2.2.1, u.2.2.2.1, u.2.2.2.2.1, u.2.2.2.2.2.1, u.2.2.2.2.2.2.1, u.2.2.2.2.2.2.2.1, u.2.2.2.2.2.2.2.2.1, x, u.2.2.2.2.2.2.2.2.2.2.1, u.2.2.2.2.2.2.2.2.2.2.2)
abbrev M_x (u : MS) : Int64 := u.2.2.2.2.2.2.2.2.2.2.1
abbrev Mp_x (x : Int64) (u : MS) : MS := (u.1, u.2.1, u.2.2.1, u.2.2.2.1, u.2.2.2.2.1, u.2.2.2.2.2.1, u.2.2.2.2.2.2.1, u.2.2.2.2.2.2.2.1, u.2.2.2.2.2.2.2.2.1, u.2.2.2.2.2.2.2.2.2.1, x, u.2.2.2.2.2.2.2.2.2.2.2)
abbrev M_y (u : MS) : Int64 := u.2.2.2.2.2.2.2.2.2.2.2
abbrev Mp_y (x : Int64) (u : MS) : MS := (u.1, u.2.1, u.2.2.1, u.2.2.2.1, u.2.2.2.2.1, u.2.2.2.2.2.1, u.2.2.2.2.2.2.1, u.2.2.2.2.2.2.2.1, u.2.2.2.2.2.2.2.2.1, u.2.2.2.2.2.2.2.2.2.1, u.2.2.2.2.2.2.2.2.2.2.1, x)
abbrev i_ushr (x y : Int32) : Int32 := (x.toUInt32 >>> (y.toUInt32 &&& Int32.toUInt32 31)).toInt32
abbrev l_ushr (x : Int64) (y : Int32) : Int64 := (x.toUInt64 >>> (y.toInt64.toUInt64 &&& Int64.toUInt64 63)).toInt64
abbrev l_shl (x : Int64) (y : Int32) : Int64 := x <<< (y.toInt64 &&& 63)
abbrev l_shr (x : Int64) (y : Int32) : Int64 := x >>> (y.toInt64 &&& 63)
def S0_isRegister (ra : Int32) : Int32 := if ra < 0 then 0 else if 32 ≤ ra then 0 else 1
def S0_isMultiple (aa : Int32) (ba : Int32) : Int32 := if (aa &&& (ba - 1)) = 0 then 1 else 0
def S0_isAddress (aa : Int32) (ba : Int32) : Int32 := if aa < 0 then 0 else if (4096 - ba) < aa then 0 else if (S0_isMultiple aa ba) = 0 then 0 else 1
def S0_bitOffset (aa : Int32) : Int32 := (aa - aa / 4 * 4) * 8
def S0_widthOf (ta : Int32) : Int32 := (1 : Int32) <<< ((ta &&& 3) &&& 31)
def S0_loaded (ta : Int32) (ba : Int32) : Int32 := if ta = 0 then ba.toInt8.toInt32 else if ta = 1 then ba.toInt16.toInt32 else if ta = 2 then ba else if ta = 3 then ba else if ta = 4 then ba &&& 255 else if ta = 5 then ba &&& 65535 else ba
def S0_storedBits (ta : Int32) : Int32 := if ta = 0 then 255 else if ta = 1 then 65535 else (-1)
def S0_fieldOp (wa : Int32) : Int32 := wa &&& 127
def S0_fieldD (wa : Int32) : Int32 := (i_ushr wa 7) &&& 31
def S0_fieldT (wa : Int32) : Int32 := (i_ushr wa 12) &&& 7
def S0_fieldX (wa : Int32) : Int32 := (i_ushr wa 15) &&& 31
def S0_fieldY (wa : Int32) : Int32 := (i_ushr wa 20) &&& 31
def S0_fieldS (wa : Int32) : Int32 := i_ushr wa 25
def S0_numberI (wa : Int32) : Int32 := wa >>> ((20 : Int32) &&& 31)
def S0_storeDistance (wa : Int32) : Int32 := ((wa >>> ((25 : Int32) &&& 31)) <<< ((5 : Int32) &&& 31)) ||| (S0_fieldD wa)
def S0_branchDistance (wa : Int32) : Int32 := ((((wa >>> ((31 : Int32) &&& 31)) <<< ((12 : Int32) &&& 31)) ||| (((i_ushr wa 7) &&& 1) <<< ((11 : Int32) &&& 31))) ||| (((i_ushr wa 25) &&& 63) <<< ((5 : Int32) &&& 31))) ||| (((i_ushr wa 8) &&& 15) <<< ((1 : Int32) &&& 31))
def S0_jumpDistance (wa : Int32) : Int32 := ((((wa >>> ((31 : Int32) &&& 31)) <<< ((20 : Int32) &&& 31)) ||| (wa &&& 1044480)) ||| (((i_ushr wa 20) &&& 1) <<< ((11 : Int32) &&& 31))) ||| (((i_ushr wa 21) &&& 1023) <<< ((1 : Int32) &&& 31))
def S0_unsigned (va : Int32) : Int64 := va.toInt64 &&& 4294967295
def S0_plain (ta : Int32) (xa : Int32) (ya : Int32) : Int32 := if ta = 0 then xa + ya else if ta = 1 then xa <<< ((ya &&& 31) &&& 31) else if ta = 2 then if ya ≤ xa then 0 else 1 else if ta = 3 then if 0 ≤ (lg_cmp (S0_unsigned xa) (S0_unsigned ya)) then 0 else 1 else if ta = 4 then xa ^^^ ya else if ta = 5 then i_ushr xa (ya &&& 31) else if ta = 6 then xa ||| ya else xa &&& ya
def S0_movedRightWithSign (xa : Int32) (ya : Int32) : Int32 := xa >>> ((ya &&& 31) &&& 31)
def S0_upperOfProduct (xa : Int64) (ya : Int64) : Int32 := (l_ushr (xa * ya) 32).toInt32
def S0_quotient (xa : Int64) (ya : Int64) : Int32 := if (lg_cmp ya 0) = 0 then (-1) else (xa / ya).toInt32
def S0_rest (xa : Int64) (ya : Int64) : Int32 := if (lg_cmp ya 0) = 0 then xa.toInt32 else (xa - xa / ya * ya).toInt32
def S0_productOrQuotient (ta : Int32) (xa : Int32) (ya : Int32) : Int32 := if ta = 0 then xa * ya else if ta = 1 then S0_upperOfProduct xa.toInt64 ya.toInt64 else if ta = 2 then S0_upperOfProduct xa.toInt64 (S0_unsigned ya) else if ta = 3 then S0_upperOfProduct (S0_unsigned xa) (S0_unsigned ya) else if ta = 4 then S0_quotient xa.toInt64 ya.toInt64 else if ta = 5 then S0_quotient (S0_unsigned xa) (S0_unsigned ya) else if ta = 6 then S0_rest xa.toInt64 ya.toInt64 else S0_rest (S0_unsigned xa) (S0_unsigned ya)
def S0_holds (ta : Int32) (xa : Int32) (ya : Int32) : Int32 := if ta = 0 then if xa = ya then 1 else 0 else if ta = 1 then if xa = ya then 0 else 1 else if ta = 2 then if (lg_cmp (S0_unsigned xa) (S0_unsigned ya)) < 0 then 0 else 1 else if ta = 3 then if (lg_cmp (S0_unsigned xa) (S0_unsigned ya)) < 0 then 0 else 1 else if ta = 4 then if ya ≤ xa then 0 else 1 else if ta = 5 then if xa < ya then 0 else 1 else if ta = 6 then if 0 ≤ (lg_cmp (S0_unsigned xa) (S0_unsigned ya)) then 0 else 1 else if (lg_cmp (S0_unsigned xa) (S0_unsigned ya)) < 0 then 0 else 1
def S0_setRegister (ra : Int32) (va : Int32) (u : WS) : WS := if ra ≤ 0 then u else if 32 ≤ ra then u else Wp_regs (upd (W_regs u) ra.toNatClampNeg va) u
def S0_valueX (wa : Int32) (u : WS) : Int32 := W_regs u (S0_fieldX wa).toNatClampNeg
def S0_valueY (wa : Int32) (u : WS) : Int32 := W_regs u (S0_fieldY wa).toNatClampNeg
def S0_isPlaceOfWord (aa : Int32) (u : WS) : Int32 := if aa < 0 then 0 else if (S0_isMultiple aa (4)) = 0 then 0 else if (W_wc u) ≤ (aa / 4) then 0 else 1
def S0_bitsFrom (aa : Int32) (u : WS) : Int32 := i_ushr (W_mem u (aa / 4).toNatClampNeg) (S0_bitOffset aa)
def S0_replaceBits (aa : Int32) (ba : Int32) (va : Int32) (u : WS) : WS := Wp_mem (upd (W_mem u) (aa / 4).toNatClampNeg (((W_mem u (aa / 4).toNatClampNeg) &&& ((ba <<< ((S0_bitOffset aa) &&& 31)) ^^^ (-1))) ||| ((va &&& ba) <<< ((S0_bitOffset aa) &&& 31)))) u
def S0_tell (wa : Int32) (va : Int32) (u : WS) : Int32 × WS := (0, Wp_pc ((W_pc (S0_setRegister (S0_fieldD wa) va u)) + 4) (S0_setRegister (S0_fieldD wa) va u))
def S0_jump (wa : Int32) (ta : Int32) (u : WS) : Int32 × WS := (0, Wp_pc ta (S0_setRegister (S0_fieldD wa) ((W_pc u) + 4) u))
def S0_ask (wa : Int32) (u : WS) : Int32 × WS := if wa = 115 then (1, Wp_pc ((W_pc u) + 4) u) else (3, u)
def S0_jumpToRegister (wa : Int32) (u : WS) : Int32 × WS := if (S0_fieldT wa) = 0 then ((S0_jump wa (((S0_valueX wa u) + (S0_numberI wa)) &&& (-2)) u).1, (S0_jump wa (((S0_valueX wa u) + (S0_numberI wa)) &&& (-2)) u).2) else (3, u)
def S0_branch (wa : Int32) (u : WS) : Int32 × WS := if (S0_fieldT wa) = 2 then (3, u) else if (S0_fieldT wa) = 3 then (3, u) else if (S0_holds (S0_fieldT wa) (S0_valueX wa u) (S0_valueY wa u)) = 0 then (0, Wp_pc ((W_pc u) + 4) u) else (0, Wp_pc ((W_pc u) + (S0_branchDistance wa)) u)
def S0_store (wa : Int32) (u : WS) : Int32 × WS := if (S0_fieldT wa) ≤ 2 then if (S0_isAddress ((S0_valueX wa u) + (S0_storeDistance wa)) (S0_widthOf (S0_fieldT wa))) = 0 then (4, u) else (0, Wp_pc ((W_pc (S0_replaceBits ((S0_valueX wa u) + (S0_storeDistance wa)) (S0_storedBits (S0_fieldT wa)) (S0_valueY wa u) u)) + 4) (S0_replaceBits ((S0_valueX wa u) + (S0_storeDistance wa)) (S0_storedBits (S0_fieldT wa)) (S0_valueY wa u) u)) else (3, u)
def S0_load (wa : Int32) (u : WS) : Int32 × WS := if (S0_fieldT wa) = 3 then (3, u) else if (S0_fieldT wa) ≤ 5 then if (S0_isAddress ((S0_valueX wa u) + (S0_numberI wa)) (S0_widthOf (S0_fieldT wa))) = 0 then (4, u) else ((S0_tell wa (S0_loaded (S0_fieldT wa) (S0_bitsFrom ((S0_valueX wa u) + (S0_numberI wa)) u)) u).1, (S0_tell wa (S0_loaded (S0_fieldT wa) (S0_bitsFrom ((S0_valueX wa u) + (S0_numberI wa)) u)) u).2) else (3, u)
def S0_calculateWithNumber (wa : Int32) (u : WS) : Int32 × WS := if (S0_fieldT wa) = 1 then if (S0_fieldS wa) = 0 then ((S0_tell wa (S0_plain (S0_fieldT wa) (S0_valueX wa u) (S0_fieldY wa)) u).1, (S0_tell wa (S0_plain (S0_fieldT wa) (S0_valueX wa u) (S0_fieldY wa)) u).2) else if (S0_fieldS wa) = 32 then if (S0_fieldT wa) = 5 then ((S0_tell wa (S0_movedRightWithSign (S0_valueX wa u) (S0_fieldY wa)) u).1, (S0_tell wa (S0_movedRightWithSign (S0_valueX wa u) (S0_fieldY wa)) u).2) else (3, u) else (3, u) else if (S0_fieldT wa) = 5 then if (S0_fieldS wa) = 0 then ((S0_tell wa (S0_plain (S0_fieldT wa) (S0_valueX wa u) (S0_fieldY wa)) u).1, (S0_tell wa (S0_plain (S0_fieldT wa) (S0_valueX wa u) (S0_fieldY wa)) u).2) else if (S0_fieldS wa) = 32 then if (S0_fieldT wa) = 5 then ((S0_tell wa (S0_movedRightWithSign (S0_valueX wa u) (S0_fieldY wa)) u).1, (S0_tell wa (S0_movedRightWithSign (S0_valueX wa u) (S0_fieldY wa)) u).2) else (3, u) else (3, u) else ((S0_tell wa (S0_plain (S0_fieldT wa) (S0_valueX wa u) (S0_numberI wa)) u).1, (S0_tell wa (S0_plain (S0_fieldT wa) (S0_valueX wa u) (S0_numberI wa)) u).2)
def S0_calculateWithRegister (wa : Int32) (u : WS) : Int32 × WS := if (S0_fieldS wa) = 0 then ((S0_tell wa (S0_plain (S0_fieldT wa) (S0_valueX wa u) (S0_valueY wa u)) u).1, (S0_tell wa (S0_plain (S0_fieldT wa) (S0_valueX wa u) (S0_valueY wa u)) u).2) else if (S0_fieldS wa) = 1 then ((S0_tell wa (S0_productOrQuotient (S0_fieldT wa) (S0_valueX wa u) (S0_valueY wa u)) u).1, (S0_tell wa (S0_productOrQuotient (S0_fieldT wa) (S0_valueX wa u) (S0_valueY wa u)) u).2) else if (S0_fieldS wa) = 32 then if (S0_fieldT wa) = 0 then ((S0_tell wa ((S0_valueX wa u) - (S0_valueY wa u)) u).1, (S0_tell wa ((S0_valueX wa u) - (S0_valueY wa u)) u).2) else if (S0_fieldT wa) = 5 then ((S0_tell wa (S0_movedRightWithSign (S0_valueX wa u) (S0_valueY wa u)) u).1, (S0_tell wa (S0_movedRightWithSign (S0_valueX wa u) (S0_valueY wa u)) u).2) else (3, u) else (3, u)
def S0_perform (wa : Int32) (u : WS) : Int32 × WS := if (S0_fieldOp wa) = 3 then ((S0_load wa u).1, (S0_load wa u).2) else if (S0_fieldOp wa) = 19 then ((S0_calculateWithNumber wa u).1, (S0_calculateWithNumber wa u).2) else if (S0_fieldOp wa) = 23 then ((S0_tell wa ((W_pc u) + (wa &&& (-4096))) u).1, (S0_tell wa ((W_pc u) + (wa &&& (-4096))) u).2) else if (S0_fieldOp wa) = 35 then ((S0_store wa u).1, (S0_store wa u).2) else if (S0_fieldOp wa) = 51 then ((S0_calculateWithRegister wa u).1, (S0_calculateWithRegister wa u).2) else if (S0_fieldOp wa) = 55 then ((S0_tell wa (wa &&& (-4096)) u).1, (S0_tell wa (wa &&& (-4096)) u).2) else if (S0_fieldOp wa) = 99 then ((S0_branch wa u).1, (S0_branch wa u).2) else if (S0_fieldOp wa) = 103 then ((S0_jumpToRegister wa u).1, (S0_jumpToRegister wa u).2) else if (S0_fieldOp wa) = 111 then ((S0_jump wa ((W_pc u) + (S0_jumpDistance wa)) u).1, (S0_jump wa ((W_pc u) + (S0_jumpDistance wa)) u).2) else if (S0_fieldOp wa) = 115 then ((S0_ask wa u).1, (S0_ask wa u).2) else (3, u)
def S0_step  (u : WS) : Int32 × WS := if (S0_isPlaceOfWord (W_pc u) u) = 0 then (2, u) else if ((S0_perform (W_code u ((W_pc u) / 4).toNatClampNeg) u).1) = 0 then ((S0_perform (W_code u ((W_pc u) / 4).toNatClampNeg) u).1, Wp_st ((W_st ((S0_perform (W_code u ((W_pc u) / 4).toNatClampNeg) u).2)) + 1) ((S0_perform (W_code u ((W_pc u) / 4).toNatClampNeg) u).2)) else if ((S0_perform (W_code u ((W_pc u) / 4).toNatClampNeg) u).1) = 1 then ((S0_perform (W_code u ((W_pc u) / 4).toNatClampNeg) u).1, Wp_st ((W_st ((S0_perform (W_code u ((W_pc u) / 4).toNatClampNeg) u).2)) + 1) ((S0_perform (W_code u ((W_pc u) / 4).toNatClampNeg) u).2)) else ((S0_perform (W_code u ((W_pc u) / 4).toNatClampNeg) u).1, (S0_perform (W_code u ((W_pc u) / 4).toNatClampNeg) u).2)
def S0_word (wa : Int32) (u : WS) : Int32 × WS := if (W_wc u) < 1024 then (W_wc (Wp_wc ((W_wc (Wp_code (upd (W_code u) (W_wc u).toNatClampNeg wa) u)) + 1) (Wp_code (upd (W_code u) (W_wc u).toNatClampNeg wa) u)), Wp_wc ((W_wc (Wp_code (upd (W_code u) (W_wc u).toNatClampNeg wa) u)) + 1) (Wp_code (upd (W_code u) (W_wc u).toNatClampNeg wa) u)) else ((-1), u)
def S0_put (ra : Int32) (va : Int32) (u : WS) : Int32 × WS := if (S0_isRegister ra) = 0 then (0, u) else (1, S0_setRegister ra va u)
def S0_get (ra : Int32) (u : WS) : Int32 := if (S0_isRegister ra) = 0 then 0 else W_regs u ra.toNatClampNeg
def S0_poke (aa : Int32) (va : Int32) (u : WS) : Int32 × WS := if (S0_isAddress aa (1)) = 0 then (0, u) else (1, S0_replaceBits aa (255) va u)
def S0_peek (aa : Int32) (u : WS) : Int32 := if (S0_isAddress aa (1)) = 0 then (-1) else (S0_bitsFrom aa u) &&& 255
def S0_go (aa : Int32) (u : WS) : Int32 × WS := if (S0_isMultiple aa (4)) = 0 then (0, u) else (1, Wp_pc aa u)
def S0_pc  (u : WS) : Int32 := W_pc u
def S0_steps  (u : WS) : Int32 := W_st u
def S0_loop : Nat → WS → Int32 × WS
  | 0, u => (0, u)
  | n + 1, u => if (S0_step u).1 = 0 then S0_loop n (S0_step u).2 else ((S0_step u).1, (S0_step u).2)
def S0_run (na : Int32) (u : WS) : Int32 × WS := if na < 0 then ((-1), u) else if na ≤ 1000 then S0_loop na.toNatClampNeg u else ((-1), u)
def S1_plain (va : Int64) : Int64 := va &&& 4294967295
def S1_signed (va : Int64) : Int64 := if (lg_cmp va 2147483648) < 0 then va else va - 4294967296
def S1_bits (wa : Int32) (fa : Int32) (na : Int32) : Int32 := ((l_shr (S1_plain wa.toInt64) fa).toInt32) &&& (((1 : Int32) <<< (na &&& 31)) - 1)
def S1_withSign (va : Int32) (na : Int32) : Int32 := if va < ((1 : Int32) <<< ((na - 1) &&& 31)) then va else va - ((1 : Int32) <<< (na &&& 31))
def S1_power (na : Int64) : Int64 := lN (2 ^ na.toNatClampNeg)
def S1_down (aa : Int64) (ba : Int64) : Int64 := if (lg_cmp ((aa / ba) * ba) aa) ≤ 0 then aa / ba else (aa / ba) - 1
def S1_made (ta : Int32) (sa : Int32) (aa : Int64) (ba : Int64) : Int64 := if ta = 0 then if sa = 32 then aa - ba else aa + ba else if ta = 1 then aa * (S1_power (ba - ba / 32 * 32)) else if ta = 2 then if 0 ≤ (lg_cmp (S1_signed aa) (S1_signed ba)) then 0 else 1 else if ta = 3 then if 0 ≤ (lg_cmp aa ba) then 0 else 1 else if ta = 4 then aa ^^^ ba else if ta = 5 then if sa = 0 then aa / (S1_power (ba - ba / 32 * 32)) else S1_down (S1_signed aa) (S1_power (ba - ba / 32 * 32)) else if ta = 6 then aa ||| ba else aa &&& ba
def S1_give (ra : Int32) (va : Int64) (u : MS) : MS := if ra ≤ 0 then u else Mp_regs (vp_updL (M_regs u) ra.toNatClampNeg (S1_plain va)) u
def S1_word (wa : Int32) (u : MS) : Int32 × MS := if (M_wc u) = 1024 then ((-1), u) else (M_wc (Mp_wc ((M_wc (Mp_code (upd (M_code u) (M_wc u).toNatClampNeg wa) u)) + 1) (Mp_code (upd (M_code u) (M_wc u).toNatClampNeg wa) u)), Mp_wc ((M_wc (Mp_code (upd (M_code u) (M_wc u).toNatClampNeg wa) u)) + 1) (Mp_code (upd (M_code u) (M_wc u).toNatClampNeg wa) u))
def S1_put (ra : Int32) (va : Int32) (u : MS) : Int32 × MS := if ra < 0 then (0, u) else if ra ≤ 31 then (1, S1_give ra va.toInt64 u) else (0, u)
def S1_get (ra : Int32) (u : MS) : Int32 := if ra < 0 then 0 else if 32 ≤ ra then 0 else (M_regs u ra.toNatClampNeg).toInt32
def S1_poke (aa : Int32) (va : Int32) (u : MS) : Int32 × MS := if aa < 0 then (0, u) else if aa ≤ 4095 then (1, Mp_mem (upd (M_mem u) aa.toNatClampNeg (vp_nar .byte va.toInt8.toInt32)) u) else (0, u)
def S1_peek (aa : Int32) (u : MS) : Int32 := if aa < 0 then (-1) else if 4096 ≤ aa then (-1) else (M_mem u aa.toNatClampNeg) &&& 255
def S1_go (aa : Int32) (u : MS) : Int32 × MS := if (aa - aa / 4 * 4) = 0 then (1, Mp_pc aa u) else (0, u)
def S1_pc  (u : MS) : Int32 := M_pc u
def S1_steps  (u : MS) : Int32 := M_st u
def S1_width (la : Int32) (u : MS) : Int32 := if (M_t u) = 0 then 1 else if la = 0 then if (M_t u) = 1 then 2 else if la = 0 then if (M_t u) = 2 then 4 else 0 else if (M_t u) = 5 then 2 else if (M_t u) = 2 then 4 else 0 else if (M_t u) = 4 then 1 else if (M_t u) = 1 then 2 else if la = 0 then if (M_t u) = 2 then 4 else 0 else if (M_t u) = 5 then 2 else if (M_t u) = 2 then 4 else 0
def S1_isThere (aa : Int64) (na : Int32) (u : MS) : Int32 := if (lg_cmp (aa - aa / na.toInt64 * na.toInt64) 0) = 0 then if 0 < (lg_cmp (aa + na.toInt64) 4096) then 0 else 1 else 0
def S1_upper  (u : MS) : Int64 := ((((M_x u) / 65536) * ((M_y u) / 65536)) + (((((M_x u) / 65536) * ((M_y u) - (M_y u) / 65536 * 65536)) + ((((M_x u) - (M_x u) / 65536 * 65536) * ((M_y u) - (M_y u) / 65536 * 65536)) / 65536)) / 65536)) + (((((M_x u) - (M_x u) / 65536 * 65536) * ((M_y u) / 65536)) + (((((M_x u) / 65536) * ((M_y u) - (M_y u) / 65536 * 65536)) + ((((M_x u) - (M_x u) / 65536 * 65536) * ((M_y u) - (M_y u) / 65536 * 65536)) / 65536)) - ((((M_x u) / 65536) * ((M_y u) - (M_y u) / 65536 * 65536)) + ((((M_x u) - (M_x u) / 65536 * 65536) * ((M_y u) - (M_y u) / 65536 * 65536)) / 65536)) / 65536 * 65536)) / 65536)
def S1_product  (u : MS) : Int64 := if (M_t u) = 0 then (S1_signed (M_x u)) * (S1_signed (M_y u)) else if (M_t u) = 1 then S1_down ((S1_signed (M_x u)) * (S1_signed (M_y u))) (4294967296) else if (M_t u) = 2 then S1_down ((S1_signed (M_x u)) * (M_y u)) (4294967296) else if (M_t u) = 3 then S1_upper u else if (M_t u) = 4 then if (lg_cmp (M_y u) 0) = 0 then (-1) else (S1_signed (M_x u)) / (S1_signed (M_y u)) else if (M_t u) = 5 then if (lg_cmp (M_y u) 0) = 0 then (-1) else (M_x u) / (M_y u) else if (M_t u) = 6 then if (lg_cmp (M_y u) 0) = 0 then M_x u else (S1_signed (M_x u)) - (S1_signed (M_x u)) / (S1_signed (M_y u)) * (S1_signed (M_y u)) else if (lg_cmp (M_y u) 0) = 0 then M_x u else (M_x u) - (M_x u) / (M_y u) * (M_y u)
def S1_number (oa : Int32) (wa : Int32) (u : MS) : Int32 × MS := if oa = 55 then if oa = 23 then (0, S1_give (M_d u) ((((wa >>> ((12 : Int32) &&& 31)).toInt64) * 4096) + ((M_pc u).toInt64)) u) else (0, S1_give (M_d u) ((((wa >>> ((12 : Int32) &&& 31)).toInt64) * 4096) + ((0 : Int32).toInt64)) u) else if oa = 23 then if oa = 23 then (0, S1_give (M_d u) ((((wa >>> ((12 : Int32) &&& 31)).toInt64) * 4096) + ((M_pc u).toInt64)) u) else (0, S1_give (M_d u) ((((wa >>> ((12 : Int32) &&& 31)).toInt64) * 4096) + ((0 : Int32).toInt64)) u) else if oa = 19 then if (M_t u) = 1 then if (M_s u) = 0 then (0, S1_give (M_d u) (S1_made (M_t u) (M_s u) (M_x u) ((((l_shr (S1_plain wa.toInt64) 20).toInt32) &&& 31).toInt64)) u) else if (M_t u) = 5 then if (M_s u) = 32 then (0, S1_give (M_d u) (S1_made (M_t u) (M_s u) (M_x u) ((((l_shr (S1_plain wa.toInt64) 20).toInt32) &&& 31).toInt64)) u) else (3, u) else (3, u) else if (M_t u) = 5 then if (M_s u) = 0 then (0, S1_give (M_d u) (S1_made (M_t u) (M_s u) (M_x u) ((((l_shr (S1_plain wa.toInt64) 20).toInt32) &&& 31).toInt64)) u) else if (M_t u) = 5 then if (M_s u) = 32 then (0, S1_give (M_d u) (S1_made (M_t u) (M_s u) (M_x u) ((((l_shr (S1_plain wa.toInt64) 20).toInt32) &&& 31).toInt64)) u) else (3, u) else (3, u) else (0, S1_give (M_d u) (S1_made (M_t u) (0) (M_x u) (S1_plain ((M_im u).toInt64))) u) else if oa = 51 then if (M_s u) = 1 then (0, S1_give (M_d u) (S1_product u) u) else if (M_s u) = 0 then (0, S1_give (M_d u) (S1_made (M_t u) (M_s u) (M_x u) (M_y u)) u) else if (M_s u) = 32 then if (M_t u) = 0 then (0, S1_give (M_d u) (S1_made (M_t u) (M_s u) (M_x u) (M_y u)) u) else if (M_t u) = 5 then (0, S1_give (M_d u) (S1_made (M_t u) (M_s u) (M_x u) (M_y u)) u) else (3, u) else (3, u) else (3, u)
def S1_lfin (vv wo : Int64) (u : MS) : Int32 × MS := if 2 ≤ (M_t u) then (0, S1_give (M_d u) vv u) else if (lg_cmp vv (wo / 2)) < 0 then (0, S1_give (M_d u) vv u) else (0, S1_give (M_d u) (vv - wo) u)
def S1_lloop : Nat → Int64 → Int32 → Int64 → Int64 → MS → Int32 × MS
  | 0, _, _, vv, wo, u => S1_lfin vv wo u
  | n + 1, a, k, vv, wo, u => S1_lloop n a (k + 1) (vv + ((((M_mem u ((a.toInt32) + k).toNatClampNeg) &&& 255).toInt64) * wo)) (wo * 256) u
def S1_load  (u : MS) : Int32 × MS := if (S1_width (1) u) = 0 then (3, u) else if (S1_isThere (S1_plain ((M_x u) + ((M_im u).toInt64))) (S1_width (1) u) u) = 0 then (4, u) else S1_lloop (S1_width (1) u).toNatClampNeg (S1_plain ((M_x u) + (M_im u).toInt64)) 0 0 1 u
def S1_sloop : Nat → Int64 → Int32 → Int64 → MS → Int32 × MS
  | 0, _, _, _, w => (0, w)
  | n + 1, a, k, yy, w => S1_sloop n a (k + 1) (yy / 256) (Mp_mem (upd (M_mem w) ((a.toInt32) + k).toNatClampNeg (vp_nar .byte (((yy - yy / 256 * 256).toInt32).toInt8.toInt32))) w)
def S1_store  (u : MS) : Int32 × MS := if (S1_width (0) u) = 0 then (3, u) else if (S1_isThere (S1_plain ((M_x u) + ((S1_withSign (((M_s u) * 32) + (M_d u)) (12)).toInt64))) (S1_width (0) u) u) = 0 then (4, u) else S1_sloop (S1_width (0) u).toNatClampNeg (S1_plain ((M_x u) + (S1_withSign (((M_s u) * 32) + (M_d u)) (12)).toInt64)) 0 (M_y u) u
def S1_branch_j (wa hv : Int32) (u : MS) : Int32 × MS := if hv = 0 then (0, Mp_pc ((M_pc u) + 4) u) else (0, Mp_pc ((M_pc u) + (S1_withSign (((((S1_bits wa (8) (4)) * 2) + ((S1_bits wa (25) (6)) * 32)) + ((S1_bits wa (7) (1)) * 2048)) + ((S1_bits wa (31) (1)) * 4096)) (13))) u)
def S1_branch (wa : Int32) (u : MS) : Int32 × MS := if (M_t u) = 0 then if (lg_cmp (M_x u) (M_y u)) = 0 then S1_branch_j wa (1) u else S1_branch_j wa (0) u else if (M_t u) = 1 then if (lg_cmp (M_x u) (M_y u)) = 0 then S1_branch_j wa (0) u else S1_branch_j wa (1) u else if (M_t u) = 2 then (3, u) else if (M_t u) = 3 then (3, u) else if (M_t u) = 4 then if 0 ≤ (lg_cmp (S1_signed (M_x u)) (S1_signed (M_y u))) then S1_branch_j wa (0) u else S1_branch_j wa (1) u else if (M_t u) = 5 then if (lg_cmp (S1_signed (M_x u)) (S1_signed (M_y u))) < 0 then S1_branch_j wa (0) u else S1_branch_j wa (1) u else if (M_t u) = 6 then if 0 ≤ (lg_cmp (M_x u) (M_y u)) then S1_branch_j wa (0) u else S1_branch_j wa (1) u else if (M_t u) = 7 then if (lg_cmp (M_x u) (M_y u)) < 0 then S1_branch_j wa (0) u else S1_branch_j wa (1) u else (3, u)
def S1_work (oa : Int32) (wa : Int32) (u : MS) : Int32 × MS := if oa = 99 then ((S1_branch wa u).1, (S1_branch wa u).2) else if oa = 111 then (0, Mp_pc ((M_pc (S1_give (M_d u) (((M_pc u) + 4).toInt64) u)) + (S1_withSign (((((S1_bits wa (21) (10)) * 2) + ((S1_bits wa (20) (1)) * 2048)) + ((S1_bits wa (12) (8)) * 4096)) + ((S1_bits wa (31) (1)) * 1048576)) (21))) (S1_give (M_d u) (((M_pc u) + 4).toInt64) u)) else if oa = 103 then if (M_t u) = 0 then (0, Mp_pc ((((M_x u) + ((M_im u).toInt64)).toInt32) &&& (-2)) (S1_give (M_d u) (((M_pc u) + 4).toInt64) u)) else if oa = 3 then if ((S1_load u).1) = 0 then ((S1_load u).1, Mp_pc ((M_pc ((S1_load u).2)) + 4) ((S1_load u).2)) else ((S1_load u).1, (S1_load u).2) else if oa = 35 then if ((S1_store u).1) = 0 then ((S1_store u).1, Mp_pc ((M_pc ((S1_store u).2)) + 4) ((S1_store u).2)) else ((S1_store u).1, (S1_store u).2) else if ((S1_number oa wa u).1) = 0 then ((S1_number oa wa u).1, Mp_pc ((M_pc ((S1_number oa wa u).2)) + 4) ((S1_number oa wa u).2)) else ((S1_number oa wa u).1, (S1_number oa wa u).2) else if oa = 3 then if ((S1_load u).1) = 0 then ((S1_load u).1, Mp_pc ((M_pc ((S1_load u).2)) + 4) ((S1_load u).2)) else ((S1_load u).1, (S1_load u).2) else if oa = 35 then if ((S1_store u).1) = 0 then ((S1_store u).1, Mp_pc ((M_pc ((S1_store u).2)) + 4) ((S1_store u).2)) else ((S1_store u).1, (S1_store u).2) else if ((S1_number oa wa u).1) = 0 then ((S1_number oa wa u).1, Mp_pc ((M_pc ((S1_number oa wa u).2)) + 4) ((S1_number oa wa u).2)) else ((S1_number oa wa u).1, (S1_number oa wa u).2)
def S1_step  (u : MS) : Int32 × MS := if (M_pc u) < 0 then (2, u) else if ((M_pc u) - (M_pc u) / 4 * 4) = 0 then if ((M_pc u) / 4) < (M_wc u) then if (M_code u ((M_pc u) / 4).toNatClampNeg) = 115 then (1, Mp_pc ((M_pc (Mp_st ((M_st u) + 1) u)) + 4) (Mp_st ((M_st u) + 1) u)) else if ((S1_work (S1_bits (M_code u ((M_pc u) / 4).toNatClampNeg) (0) (7)) (M_code u ((M_pc u) / 4).toNatClampNeg) (Mp_im (S1_withSign (S1_bits (M_code u ((M_pc u) / 4).toNatClampNeg) (20) (12)) (12)) (Mp_s (S1_bits (M_code u ((M_pc u) / 4).toNatClampNeg) (25) (7)) (Mp_y (M_regs (Mp_x (M_regs (Mp_t (S1_bits (M_code u ((M_pc u) / 4).toNatClampNeg) (12) (3)) (Mp_d (S1_bits (M_code u ((M_pc u) / 4).toNatClampNeg) (7) (5)) u)) (S1_bits (M_code u ((M_pc u) / 4).toNatClampNeg) (15) (5)).toNatClampNeg) (Mp_t (S1_bits (M_code u ((M_pc u) / 4).toNatClampNeg) (12) (3)) (Mp_d (S1_bits (M_code u ((M_pc u) / 4).toNatClampNeg) (7) (5)) u))) (S1_bits (M_code u ((M_pc u) / 4).toNatClampNeg) (20) (5)).toNatClampNeg) (Mp_x (M_regs (Mp_t (S1_bits (M_code u ((M_pc u) / 4).toNatClampNeg) (12) (3)) (Mp_d (S1_bits (M_code u ((M_pc u) / 4).toNatClampNeg) (7) (5)) u)) (S1_bits (M_code u ((M_pc u) / 4).toNatClampNeg) (15) (5)).toNatClampNeg) (Mp_t (S1_bits (M_code u ((M_pc u) / 4).toNatClampNeg) (12) (3)) (Mp_d (S1_bits (M_code u ((M_pc u) / 4).toNatClampNeg) (7) (5)) u))))))).1) ≤ 0 then (0, Mp_st ((M_st ((S1_work (S1_bits (M_code u ((M_pc u) / 4).toNatClampNeg) (0) (7)) (M_code u ((M_pc u) / 4).toNatClampNeg) (Mp_im (S1_withSign (S1_bits (M_code u ((M_pc u) / 4).toNatClampNeg) (20) (12)) (12)) (Mp_s (S1_bits (M_code u ((M_pc u) / 4).toNatClampNeg) (25) (7)) (Mp_y (M_regs (Mp_x (M_regs (Mp_t (S1_bits (M_code u ((M_pc u) / 4).toNatClampNeg) (12) (3)) (Mp_d (S1_bits (M_code u ((M_pc u) / 4).toNatClampNeg) (7) (5)) u)) (S1_bits (M_code u ((M_pc u) / 4).toNatClampNeg) (15) (5)).toNatClampNeg) (Mp_t (S1_bits (M_code u ((M_pc u) / 4).toNatClampNeg) (12) (3)) (Mp_d (S1_bits (M_code u ((M_pc u) / 4).toNatClampNeg) (7) (5)) u))) (S1_bits (M_code u ((M_pc u) / 4).toNatClampNeg) (20) (5)).toNatClampNeg) (Mp_x (M_regs (Mp_t (S1_bits (M_code u ((M_pc u) / 4).toNatClampNeg) (12) (3)) (Mp_d (S1_bits (M_code u ((M_pc u) / 4).toNatClampNeg) (7) (5)) u)) (S1_bits (M_code u ((M_pc u) / 4).toNatClampNeg) (15) (5)).toNatClampNeg) (Mp_t (S1_bits (M_code u ((M_pc u) / 4).toNatClampNeg) (12) (3)) (Mp_d (S1_bits (M_code u ((M_pc u) / 4).toNatClampNeg) (7) (5)) u))))))).2)) + 1) ((S1_work (S1_bits (M_code u ((M_pc u) / 4).toNatClampNeg) (0) (7)) (M_code u ((M_pc u) / 4).toNatClampNeg) (Mp_im (S1_withSign (S1_bits (M_code u ((M_pc u) / 4).toNatClampNeg) (20) (12)) (12)) (Mp_s (S1_bits (M_code u ((M_pc u) / 4).toNatClampNeg) (25) (7)) (Mp_y (M_regs (Mp_x (M_regs (Mp_t (S1_bits (M_code u ((M_pc u) / 4).toNatClampNeg) (12) (3)) (Mp_d (S1_bits (M_code u ((M_pc u) / 4).toNatClampNeg) (7) (5)) u)) (S1_bits (M_code u ((M_pc u) / 4).toNatClampNeg) (15) (5)).toNatClampNeg) (Mp_t (S1_bits (M_code u ((M_pc u) / 4).toNatClampNeg) (12) (3)) (Mp_d (S1_bits (M_code u ((M_pc u) / 4).toNatClampNeg) (7) (5)) u))) (S1_bits (M_code u ((M_pc u) / 4).toNatClampNeg) (20) (5)).toNatClampNeg) (Mp_x (M_regs (Mp_t (S1_bits (M_code u ((M_pc u) / 4).toNatClampNeg) (12) (3)) (Mp_d (S1_bits (M_code u ((M_pc u) / 4).toNatClampNeg) (7) (5)) u)) (S1_bits (M_code u ((M_pc u) / 4).toNatClampNeg) (15) (5)).toNatClampNeg) (Mp_t (S1_bits (M_code u ((M_pc u) / 4).toNatClampNeg) (12) (3)) (Mp_d (S1_bits (M_code u ((M_pc u) / 4).toNatClampNeg) (7) (5)) u))))))).2)) else ((S1_work (S1_bits (M_code u ((M_pc u) / 4).toNatClampNeg) (0) (7)) (M_code u ((M_pc u) / 4).toNatClampNeg) (Mp_im (S1_withSign (S1_bits (M_code u ((M_pc u) / 4).toNatClampNeg) (20) (12)) (12)) (Mp_s (S1_bits (M_code u ((M_pc u) / 4).toNatClampNeg) (25) (7)) (Mp_y (M_regs (Mp_x (M_regs (Mp_t (S1_bits (M_code u ((M_pc u) / 4).toNatClampNeg) (12) (3)) (Mp_d (S1_bits (M_code u ((M_pc u) / 4).toNatClampNeg) (7) (5)) u)) (S1_bits (M_code u ((M_pc u) / 4).toNatClampNeg) (15) (5)).toNatClampNeg) (Mp_t (S1_bits (M_code u ((M_pc u) / 4).toNatClampNeg) (12) (3)) (Mp_d (S1_bits (M_code u ((M_pc u) / 4).toNatClampNeg) (7) (5)) u))) (S1_bits (M_code u ((M_pc u) / 4).toNatClampNeg) (20) (5)).toNatClampNeg) (Mp_x (M_regs (Mp_t (S1_bits (M_code u ((M_pc u) / 4).toNatClampNeg) (12) (3)) (Mp_d (S1_bits (M_code u ((M_pc u) / 4).toNatClampNeg) (7) (5)) u)) (S1_bits (M_code u ((M_pc u) / 4).toNatClampNeg) (15) (5)).toNatClampNeg) (Mp_t (S1_bits (M_code u ((M_pc u) / 4).toNatClampNeg) (12) (3)) (Mp_d (S1_bits (M_code u ((M_pc u) / 4).toNatClampNeg) (7) (5)) u))))))).1, (S1_work (S1_bits (M_code u ((M_pc u) / 4).toNatClampNeg) (0) (7)) (M_code u ((M_pc u) / 4).toNatClampNeg) (Mp_im (S1_withSign (S1_bits (M_code u ((M_pc u) / 4).toNatClampNeg) (20) (12)) (12)) (Mp_s (S1_bits (M_code u ((M_pc u) / 4).toNatClampNeg) (25) (7)) (Mp_y (M_regs (Mp_x (M_regs (Mp_t (S1_bits (M_code u ((M_pc u) / 4).toNatClampNeg) (12) (3)) (Mp_d (S1_bits (M_code u ((M_pc u) / 4).toNatClampNeg) (7) (5)) u)) (S1_bits (M_code u ((M_pc u) / 4).toNatClampNeg) (15) (5)).toNatClampNeg) (Mp_t (S1_bits (M_code u ((M_pc u) / 4).toNatClampNeg) (12) (3)) (Mp_d (S1_bits (M_code u ((M_pc u) / 4).toNatClampNeg) (7) (5)) u))) (S1_bits (M_code u ((M_pc u) / 4).toNatClampNeg) (20) (5)).toNatClampNeg) (Mp_x (M_regs (Mp_t (S1_bits (M_code u ((M_pc u) / 4).toNatClampNeg) (12) (3)) (Mp_d (S1_bits (M_code u ((M_pc u) / 4).toNatClampNeg) (7) (5)) u)) (S1_bits (M_code u ((M_pc u) / 4).toNatClampNeg) (15) (5)).toNatClampNeg) (Mp_t (S1_bits (M_code u ((M_pc u) / 4).toNatClampNeg) (12) (3)) (Mp_d (S1_bits (M_code u ((M_pc u) / 4).toNatClampNeg) (7) (5)) u))))))).2) else (2, u) else (2, u)
def S1_loop : Nat → MS → Int32 × MS
  | 0, u => (0, u)
  | n + 1, u => if (S1_step u).1 ≤ 0 then S1_loop n (S1_step u).2 else ((S1_step u).1, (S1_step u).2)
def S1_run (na : Int32) (u : MS) : Int32 × MS := if na < 0 then ((-1), u) else if na ≤ 1000 then S1_loop na.toNatClampNeg u else ((-1), u)
end
section
theorem ix_of {r : Int32} {n : Nat} (h1 : 0 ≤ r.toInt) (h2 : r.toInt < n) : vp_in r n := vp_in_iff.mpr ⟨h1, h2⟩
theorem ix_reg {r : Int32} (h1 : ¬ r ≤ 0) (h2 : ¬ (32 : Int32) ≤ r) : vp_in r 32 := by
  rw [Int32.le_iff_toInt_le] at h1 h2
  have e1 : (0 : Int32).toInt = 0 := rfl
  have e2 : (32 : Int32).toInt = 32 := rfl
  exact ix_of (by omega) (by omega)
theorem ix_give {r : Int32} (h1 : ¬ r ≤ 0) (h2 : r < 32) : vp_in r 32 := by
  rw [Int32.le_iff_toInt_le] at h1
  rw [Int32.lt_iff_toInt_lt] at h2
  have e1 : (0 : Int32).toInt = 0 := rfl
  have e2 : (32 : Int32).toInt = 32 := rfl
  exact ix_of (by omega) (by omega)
theorem ix_get {r : Int32} (h1 : ¬ r < 0) (h2 : ¬ (32 : Int32) ≤ r) : vp_in r 32 := by
  rw [Int32.lt_iff_toInt_lt] at h1
  rw [Int32.le_iff_toInt_le] at h2
  have e1 : (0 : Int32).toInt = 0 := rfl
  have e2 : (32 : Int32).toInt = 32 := rfl
  exact ix_of (by omega) (by omega)
theorem ix_poke {r : Int32} (h1 : ¬ r < 0) (h2 : r ≤ 4095) : vp_in r 4096 := by
  rw [Int32.lt_iff_toInt_lt] at h1
  rw [Int32.le_iff_toInt_le] at h2
  have e1 : (0 : Int32).toInt = 0 := rfl
  have e2 : (4095 : Int32).toInt = 4095 := rfl
  exact ix_of (by omega) (by omega)
theorem ix_peek {r : Int32} (h1 : ¬ r < 0) (h2 : ¬ (4096 : Int32) ≤ r) : vp_in r 4096 := by
  rw [Int32.lt_iff_toInt_lt] at h1
  rw [Int32.le_iff_toInt_le] at h2
  have e1 : (0 : Int32).toInt = 0 := rfl
  have e2 : (4096 : Int32).toInt = 4096 := rfl
  exact ix_of (by omega) (by omega)
theorem ix_word {n : Int32} (h : 0 ≤ n) (h2 : n < 1024) : vp_in n 1024 := by
  rw [Int32.le_iff_toInt_le] at h
  rw [Int32.lt_iff_toInt_lt] at h2
  have e1 : (0 : Int32).toInt = 0 := rfl
  have e2 : (1024 : Int32).toInt = 1024 := rfl
  exact ix_of (by omega) (by omega)
theorem ix_word1 {n : Int32} (h : 0 ≤ n) (h1 : n ≤ 1024) (c : ¬ n = 1024) : vp_in n 1024 := by
  have h3 : ¬ n.toInt = (1024 : Int32).toInt := fun e => c (Int32.toInt_inj.mp e)
  rw [Int32.le_iff_toInt_le] at h h1
  have e1 : (0 : Int32).toInt = 0 := rfl
  have e2 : (1024 : Int32).toInt = 1024 := rfl
  exact ix_of (by omega) (by omega)
theorem lt32 {r : Int32} (h : r ≤ 31) : r < 32 := by
  rw [Int32.le_iff_toInt_le] at h
  rw [Int32.lt_iff_toInt_lt]
  have e1 : (31 : Int32).toInt = 31 := rfl
  have e2 : (32 : Int32).toInt = 32 := rfl
  omega
theorem in_fieldX (w : Int32) : vp_in (S0_fieldX w) 32 := pk_andIn (m := 31) _ 5 (by decide) (by decide)
theorem in_fieldY (w : Int32) : vp_in (S0_fieldY w) 32 := pk_andIn (m := 31) _ 5 (by decide) (by decide)
theorem dv4 {a : Int32} (h : ¬ a < 0) : ∃ j : Nat, j < 2 ^ 31 ∧ a = nI j ∧ a / 4 = nI (j / 4) := by
  obtain ⟨j, hj, e⟩ := nI_of h
  exact ⟨j, hj, e, by rw [e]; exact pk_div hj (by decide) (by decide)⟩
theorem ix_div4 {a : Int32} (h : ¬ a < 0) (h2 : a.toInt ≤ 4095) : vp_in (a / 4) 1024 := by
  obtain ⟨j, hj, e, e4⟩ := dv4 h
  rw [e4]
  rw [e, nI_toInt hj] at h2
  exact vp_in_nI (by omega) (by decide)
theorem ix_code {a n : Int32} (h1 : ¬ a < 0) (h3 : a / 4 < n) (hw : n ≤ 1024) : vp_in (a / 4) 1024 := by
  obtain ⟨j, hj, e, e4⟩ := dv4 h1
  rw [e4] at h3 ⊢
  rw [Int32.lt_iff_toInt_lt, nI_toInt (by omega)] at h3
  rw [Int32.le_iff_toInt_le] at hw
  have e2 : (1024 : Int32).toInt = 1024 := rfl
  exact vp_in_nI (by omega) (by decide)
theorem ix_place {a : Int32} {u : WS} (h : ¬ S0_isPlaceOfWord a u = 0) (hw : W_wc u ≤ 1024) : vp_in (a / 4) 1024 := by
  unfold S0_isPlaceOfWord at h
  split at h
  · exact absurd rfl h
  · split at h
    · exact absurd rfl h
    · split at h
      · exact absurd rfl h
      · rename_i h1 _ h3
        refine ix_code h1 ?_ hw
        rw [Int32.le_iff_toInt_le] at h3
        rw [Int32.lt_iff_toInt_lt]
        omega
theorem ix_isreg {r : Int32} (h : ¬ S0_isRegister r = 0) : vp_in r 32 := by
  unfold S0_isRegister at h
  split at h
  · exact absurd rfl h
  · split at h
    · exact absurd rfl h
    · rename_i h1 h2
      exact ix_get h1 h2
theorem width_cases (t : Int32) : S0_widthOf t = 1 ∨ S0_widthOf t = 2 ∨ S0_widthOf t = 4 ∨ S0_widthOf t = 8 := by
  obtain ⟨j, hj, e⟩ := pk_andE t (m := 3) 2 (by decide)
  unfold S0_widthOf
  rw [e]
  match j, hj with
  | 0, _ => exact Or.inl (by decide)
  | 1, _ => exact Or.inr (Or.inl (by decide))
  | 2, _ => exact Or.inr (Or.inr (Or.inl (by decide)))
  | 3, _ => exact Or.inr (Or.inr (Or.inr (by decide)))
  | j + 4, h => exact absurd h (by omega)
theorem ix_addr {a b : Int32} (hb : b = 1 ∨ b = 2 ∨ b = 4 ∨ b = 8) (h : ¬ S0_isAddress a b = 0) : vp_in (a / 4) 1024 := by
  unfold S0_isAddress at h
  split at h
  · exact absurd rfl h
  · split at h
    · exact absurd rfl h
    · rename_i h1 h2
      refine ix_div4 h1 ?_
      rw [Int32.lt_iff_toInt_lt] at h2
      rcases hb with rfl | rfl | rfl | rfl
      · have e : ((4096 : Int32) - 1).toInt = 4095 := by decide
        omega
      · have e : ((4096 : Int32) - 2).toInt = 4094 := by decide
        omega
      · have e : ((4096 : Int32) - 4).toInt = 4092 := by decide
        omega
      · have e : ((4096 : Int32) - 8).toInt = 4088 := by decide
        omega
theorem ix_addrW {a t : Int32} (h : ¬ S0_isAddress a (S0_widthOf t) = 0) : vp_in (a / 4) 1024 := ix_addr (width_cases t) h
theorem ix_addr1 {a : Int32} (h : ¬ S0_isAddress a 1 = 0) : vp_in (a / 4) 1024 := ix_addr (Or.inl rfl) h
theorem cmp_ne {y : Int64} (h : ¬ lg_cmp y 0 = 0) : ¬ y = 0 := fun e => h ((lg_cmp_eq y 0).mpr e)
theorem bits5_eq (w f : Int32) : S1_bits w f 5 = ((l_shr (S1_plain w.toInt64) f).toInt32) &&& 31 := by
  unfold S1_bits
  rw [show ((1 : Int32) <<< ((5 : Int32) &&& 31)) - 1 = 31 from by decide]
theorem in_bits5 (w f : Int32) : vp_in (S1_bits w f 5) 32 := by
  rw [bits5_eq]
  exact pk_andIn (m := 31) _ 5 (by decide) (by decide)
theorem lt_bits5 (w f : Int32) : S1_bits w f 5 < 32 := by
  have h := (vp_in_iff.mp (in_bits5 w f)).2
  rw [Int32.lt_iff_toInt_lt]
  exact h
/-- loops: counter and bound -/
theorem rn_ge {n : Int32} {j : Nat} (h0 : ¬ n < 0) (h : j + 0 = n.toNatClampNeg) : n ≤ nI j := by
  obtain ⟨k, hk, rfl⟩ := nI_of h0
  rw [nI_clamp hk] at h
  exact nI_le (by omega) (by omega)
theorem rn_lt {n : Int32} {j : Nat} (h0 : ¬ n < 0) (h : j < n.toNatClampNeg) : ¬ n ≤ nI j := by
  obtain ⟨k, hk, rfl⟩ := nI_of h0
  rw [nI_clamp hk] at h
  exact nI_ge h hk
theorem lclamp {n : Int64} : (n.toNatClampNeg : Int) = if 0 ≤ n.toInt then n.toInt else 0 := by
  have e : n.toNatClampNeg = n.toInt.toNat := rfl
  rw [e]
  split <;> omega
theorem lclamp_lt (n : Int64) : n.toNatClampNeg < 2 ^ 63 := by
  have h := Int64.toInt_lt n
  have e := lclamp (n := n)
  split at e <;> omega
theorem pw_ge {n : Int64} {j : Nat} (h : j + 0 = n.toNatClampNeg) : 0 ≤ lg_cmp (lN j) n := by
  rw [lg_cmp_ge, Int64.le_iff_toInt_le, pk_lT (by have := lclamp_lt n; omega)]
  have e := lclamp (n := n)
  split at e <;> omega
theorem pw_lt {n : Int64} {j : Nat} (h : j < n.toNatClampNeg) : ¬ 0 ≤ lg_cmp (lN j) n := by
  rw [lg_cmp_ge, Int64.le_iff_toInt_le, pk_lT (by have := lclamp_lt n; omega)]
  have e := lclamp (n := n)
  split at e <;> omega
theorem pw_dbl (j : Nat) : lN (2 ^ j) * 2 = lN (2 ^ (j + 1)) := by
  have h := lN_mul (2 ^ j) 2
  rw [Nat.pow_succ, ← h]
  rfl
/-- the rest by 32, as a number -/
theorem tdv (a : Int) {d : Int} (hd : 0 < d) : a.tdiv d = if 0 ≤ a then a / d else -((-a) / d) := by
  split
  · rename_i h
    exact Int.tdiv_eq_ediv_of_nonneg h
  · rename_i h
    have e := Int.neg_tdiv (-a) d
    rw [Int.neg_neg] at e
    rw [e, Int.tdiv_eq_ediv_of_nonneg (by omega)]
theorem rem32 (b : Int64) : (b - b / 32 * 32).toNatClampNeg < 32 := by
  have h1 := Int64.le_toInt b
  have h2 := Int64.toInt_lt b
  have e0 : (32 : Int64).toInt = 32 := rfl
  have ht := tdv b.toInt (d := 32) (by decide)
  generalize hq : b.toInt.tdiv 32 = q at ht
  have hb1 : -(2 ^ 58) ≤ q ∧ q < 2 ^ 58 + 1 ∧ -32 < b.toInt - q * 32 ∧ b.toInt - q * 32 < 32 := by
    split at ht <;> omega
  have ed : (b / 32).toInt = q := by
    rw [Int64.toInt_div, e0, hq]
    apply Int.bmod_eq_of_le <;> omega
  have em : (b / 32 * 32).toInt = q * 32 := by
    rw [Int64.toInt_mul, ed, e0]
    apply Int.bmod_eq_of_le <;> omega
  have es : (b - b / 32 * 32).toInt = b.toInt - q * 32 := by
    rw [Int64.toInt_sub, em]
    apply Int.bmod_eq_of_le <;> omega
  have e := lclamp (n := b - b / 32 * 32)
  rw [es] at e
  split at e <;> omega
theorem pw_ne (b : Int64) : ¬ S1_power (b - b / 32 * 32) = 0 := by
  intro h
  have hl := rem32 b
  unfold S1_power at h
  have hp : 2 ^ (b - b / 32 * 32).toNatClampNeg ≤ 2 ^ 31 := Nat.pow_le_pow_right (by decide) (by omega)
  have h2 := congrArg Int64.toInt h
  rw [pk_lT (by omega)] at h2
  have h3 : 0 < 2 ^ (b - b / 32 * 32).toNatClampNeg := Nat.pow_pos (by decide)
  have e0 : (0 : Int64).toInt = 0 := rfl
  omega
theorem width_any (l : Int32) (u : MS) : S1_width l u = 0 ∨ S1_width l u = 1 ∨ S1_width l u = 2 ∨ S1_width l u = 4 := by
  unfold S1_width
  repeat' split
  all_goals simp
theorem width_pos (u : MS) : ¬ S1_width 1 u < 0 := by
  rcases width_any 1 u with h | h | h | h <;> rw [h] <;> decide
theorem width_pos0 (u : MS) : ¬ S1_width 0 u < 0 := by
  rcases width_any 0 u with h | h | h | h <;> rw [h] <;> decide
theorem width_le (u : MS) : ∃ N : Nat, N ≤ 4 ∧ S1_width 1 u = nI N := by
  rcases width_any 1 u with h | h | h | h
  · exact ⟨0, by decide, h⟩
  · exact ⟨1, by decide, h⟩
  · exact ⟨2, by decide, h⟩
  · exact ⟨4, by decide, h⟩
theorem width_le0 (u : MS) : ∃ N : Nat, N ≤ 4 ∧ S1_width 0 u = nI N := by
  rcases width_any 0 u with h | h | h | h
  · exact ⟨0, by decide, h⟩
  · exact ⟨1, by decide, h⟩
  · exact ⟨2, by decide, h⟩
  · exact ⟨4, by decide, h⟩
theorem width_ne {l : Int32} {u : MS} (h : ¬ S1_width l u = 0) : ¬ (S1_width l u).toInt64 = 0 := by
  rcases width_any l u with e | e | e | e
  · exact absurd e h
  · rw [e]; decide
  · rw [e]; decide
  · rw [e]; decide
/-- a plain number is one of 32 bits -/
theorem plain_lN (z : Int64) : ∃ k : Nat, k < 2 ^ 32 ∧ S1_plain z = lN k := by
  refine ⟨z.toBitVec.toNat % 2 ^ 32, Nat.mod_lt _ (by decide), ?_⟩
  apply Int64.toBitVec_inj.mp
  apply BitVec.eq_of_toNat_eq
  show (z.toBitVec &&& (4294967295 : Int64).toBitVec).toNat = (BitVec.ofNat 64 (z.toBitVec.toNat % 2 ^ 32)).toNat
  rw [BitVec.toNat_and, show (4294967295 : Int64).toBitVec.toNat = 2 ^ 32 - 1 from by decide, Nat.and_two_pow_sub_one_eq_mod, BitVec.toNat_ofNat, Nat.mod_eq_of_lt (a := z.toBitVec.toNat % 2 ^ 32)]
  exact Nat.lt_of_lt_of_le (Nat.mod_lt _ (by decide)) (by decide)
theorem ix_there {z : Int64} {n : Int32} {u : MS} {j : Nat} (h : ¬ S1_isThere (S1_plain z) n u = 0) (hn : ∃ N : Nat, N ≤ 4 ∧ n = nI N) (hj : j < n.toNatClampNeg) : vp_in ((S1_plain z).toInt32 + nI j) 4096 := by
  obtain ⟨N, hN, rfl⟩ := hn
  rw [nI_clamp (by omega)] at hj
  obtain ⟨k, hk, e⟩ := plain_lN z
  rw [e] at h ⊢
  unfold S1_isThere at h
  split at h
  · split at h
    · exact absurd rfl h
    · rename_i _ h2
      rw [lg_cmp_gt, nI_l (by omega), lN_add, show (4096 : Int64) = lN 4096 from rfl, pk_lLT (by decide) (by omega)] at h2
      rw [lN_i, nI_add]
      exact vp_in_nI (by omega) (by decide)
  · exact absurd rfl h
/-- what division by a signed register needs of the registers -/
def RP (z : Int64) : Prop := ¬ z = 0 → ¬ S1_signed z = 0
def RG (u : MS) : Prop := ∀ i : Nat, i < 32 → RP (M_regs u i)
theorem rg_at {u : MS} {i : Int32} (h : RG u) (hi : vp_in i 32) : ¬ M_regs u i.toNatClampNeg = 0 → ¬ S1_signed (M_regs u i.toNatClampNeg) = 0 := h _ (by
  have := Nat.not_le.mp (fun q => hi (Or.inr q))
  exact this)
theorem rp_plain (z : Int64) : RP (S1_plain z) := by
  obtain ⟨k, hk, e⟩ := plain_lN z
  rw [e]
  intro h0 h
  unfold S1_signed at h
  split at h
  · exact h0 h
  · have h2 := congrArg Int64.toInt h
    rw [Int64.toInt_sub, pk_lT (by omega), show (4294967296 : Int64).toInt = 4294967296 from rfl, show (0 : Int64).toInt = 0 from rfl, Int.bmod_eq_of_le (by omega) (by omega)] at h2
    omega
/-- WordMachine: a step keeps the number of words -/
theorem wc_reg (r v : Int32) (u : WS) : W_wc (S0_setRegister r v u) = W_wc u := by
  unfold S0_setRegister
  repeat' split
  all_goals rfl
theorem wc_tell (w v : Int32) (u : WS) : W_wc (S0_tell w v u).2 = W_wc u := wc_reg _ _ _
theorem wc_jump (w v : Int32) (u : WS) : W_wc (S0_jump w v u).2 = W_wc u := wc_reg _ _ _
theorem wc_load (w : Int32) (u : WS) : W_wc (S0_load w u).2 = W_wc u := by
  unfold S0_load
  repeat' split
  all_goals first | rfl | exact wc_tell _ _ _ | exact wc_jump _ _ _
theorem wc_calculateWithNumber (w : Int32) (u : WS) : W_wc (S0_calculateWithNumber w u).2 = W_wc u := by
  unfold S0_calculateWithNumber
  repeat' split
  all_goals first | rfl | exact wc_tell _ _ _ | exact wc_jump _ _ _
theorem wc_store (w : Int32) (u : WS) : W_wc (S0_store w u).2 = W_wc u := by
  unfold S0_store
  repeat' split
  all_goals first | rfl | exact wc_tell _ _ _ | exact wc_jump _ _ _
theorem wc_calculateWithRegister (w : Int32) (u : WS) : W_wc (S0_calculateWithRegister w u).2 = W_wc u := by
  unfold S0_calculateWithRegister
  repeat' split
  all_goals first | rfl | exact wc_tell _ _ _ | exact wc_jump _ _ _
theorem wc_branch (w : Int32) (u : WS) : W_wc (S0_branch w u).2 = W_wc u := by
  unfold S0_branch
  repeat' split
  all_goals first | rfl | exact wc_tell _ _ _ | exact wc_jump _ _ _
theorem wc_jumpToRegister (w : Int32) (u : WS) : W_wc (S0_jumpToRegister w u).2 = W_wc u := by
  unfold S0_jumpToRegister
  repeat' split
  all_goals first | rfl | exact wc_tell _ _ _ | exact wc_jump _ _ _
theorem wc_ask (w : Int32) (u : WS) : W_wc (S0_ask w u).2 = W_wc u := by
  unfold S0_ask
  repeat' split
  all_goals first | rfl | exact wc_tell _ _ _ | exact wc_jump _ _ _
theorem wc_perform (w : Int32) (u : WS) : W_wc (S0_perform w u).2 = W_wc u := by
  unfold S0_perform
  repeat' split
  all_goals first | rfl | exact wc_tell _ _ _ | exact wc_jump _ _ _ | exact wc_load _ _ | exact wc_calculateWithNumber _ _ | exact wc_store _ _ | exact wc_calculateWithRegister _ _ | exact wc_branch _ _ | exact wc_jumpToRegister _ _ | exact wc_ask _ _
theorem wc0_step (u : WS) : W_wc (S0_step u).2 = W_wc u := by
  unfold S0_step
  repeat' split
  all_goals first | rfl | exact wc_perform _ _
/-- the reference: a step keeps the number of words, and what is said of the registers -/
def K1 (a b : MS) : Prop := M_wc a = M_wc b ∧ (RG b → RG a)
theorem K1_rf (a : MS) : K1 a a := ⟨rfl, fun h => h⟩
theorem K1_tr {a b c : MS} (h : K1 a b) (g : K1 b c) : K1 a c := ⟨h.1.trans g.1, fun x => h.2 (g.2 x)⟩
theorem K1_give (r : Int32) (v : Int64) (u : MS) : K1 (S1_give r v u) u := by
  unfold S1_give
  split
  · exact K1_rf u
  · refine ⟨rfl, fun h i hi => ?_⟩
    show RP (vp_updL (M_regs u) r.toNatClampNeg (S1_plain v) i)
    unfold vp_updL
    split
    · exact rp_plain v
    · exact h i hi
theorem K1_sloop : ∀ (n : Nat) (a : Int64) (k : Int32) (y : Int64) (w : MS), K1 (S1_sloop n a k y w).2 w
  | 0, _, _, _, w => K1_rf w
  | n + 1, a, k, y, w => K1_tr (K1_sloop n a (k + 1) (y / 256) _) ⟨rfl, fun h => h⟩
theorem K1_lfin (v wo : Int64) (u : MS) : K1 (S1_lfin v wo u).2 u := by
  unfold S1_lfin
  repeat' split
  all_goals exact K1_give _ _ _
theorem K1_lloop : ∀ (n : Nat) (a : Int64) (k : Int32) (v wo : Int64) (u : MS), K1 (S1_lloop n a k v wo u).2 u
  | 0, _, _, v, wo, u => K1_lfin v wo u
  | n + 1, a, k, v, wo, u => K1_lloop n a (k + 1) _ _ u
theorem K1_load (u : MS) : K1 (S1_load u).2 u := by
  unfold S1_load
  repeat' split
  all_goals first | exact K1_rf u | exact K1_lloop _ _ _ _ _ u
theorem K1_store (u : MS) : K1 (S1_store u).2 u := by
  unfold S1_store
  repeat' split
  all_goals first | exact K1_rf u | exact K1_sloop _ _ _ _ u
theorem K1_number (o w : Int32) (u : MS) : K1 (S1_number o w u).2 u := by
  unfold S1_number
  repeat' split
  all_goals first | exact K1_rf u | exact K1_give _ _ _
theorem K1_branch_j (w h : Int32) (u : MS) : K1 (S1_branch_j w h u).2 u := by
  unfold S1_branch_j
  split
  all_goals exact ⟨rfl, fun h => h⟩
theorem K1_branch (w : Int32) (u : MS) : K1 (S1_branch w u).2 u := by
  unfold S1_branch
  repeat' split
  all_goals first | exact K1_rf u | exact K1_branch_j _ _ _
theorem K1_work (o w : Int32) (u : MS) : K1 (S1_work o w u).2 u := by
  unfold S1_work
  repeat' split
  all_goals first | exact K1_rf u | exact K1_branch _ _ | exact K1_load u | exact K1_store u | exact K1_number _ _ _ | exact K1_give _ _ _
theorem K1_step (u : MS) : K1 (S1_step u).2 u := by
  unfold S1_step
  repeat' split
  all_goals first | exact K1_rf u | exact K1_work _ _ _ | exact ⟨rfl, fun h => h⟩
theorem wc1_step (u : MS) : M_wc (S1_step u).2 = M_wc u := (K1_step u).1
theorem rg1_step {u : MS} (h : RG u) : RG (S1_step u).2 := (K1_step u).2 h
end
section
theorem hdX0_isRegister : yX0_isRegister.cls ≠ "java/lang/invoke/MethodHandle" ∧ yX0_isRegister.cls ≠ "java/lang/invoke/VarHandle" ∧ (parseMethodDescriptor yX0_isRegister.desc).map (fun d => d.parameters.length) = some 1 := by decide +kernel
set_option maxHeartbeats 4000000 in
set_option maxRecDepth 100000 in
theorem c0_isRegister (l : Launch) (ra : Int32)  : Pui l yX0_isRegister wsX0_isRegister 0 0 [.int ra] (S0_isRegister ra) := by
  refine Met.ofW (cc := cX0_isRegister) (maxL := 1) (ret := (some .boolean)) (by decide) rfl ?_
  intro p e s m args below meth c s₁ B hml hv
  obtain ⟨rfl, -⟩ := hv
  have hx := B.exec
  have hb := B.bytes
  have hr := B.returns
  have hts := atoms_spec (ws := wsX0_isRegister) B.pre
  have hown : s.vm.findClass RX0 = some m.cls := findClass_of_methodNamed B.named
  have hlocks := B.notSynchronized
  have hP : va_P ((fun _ => 0), (fun _ _ => 0)) [] [] s.heap := fun k q h => by simp at h
  have hS : va_S (fun _ => False) s.heap s.heap [] := va_S.rf
  have hl := lv_entry ([.int ra]) (n := 1) (Nat.le_of_ble_eq_true rfl)
  rw [lg_entry_eq]
  generalize (lg_sl ([.int ra]) ++ List.replicate (1 - (lg_sl ([.int ra])).length) Slot.unset).toArray = ls at hl ⊢
  have hl : lv_has ls 1 [(0, .int ra)] := hl
  refine lv_iload_n hx hb dX0_isRegister_0 rfl (lv_at hl 0 rfl) ?_
  refine lv_if_lt (tgt := 14) hx hb dX0_isRegister_1 (by decide) (fun (c1 : ra < 0) => ?_) (fun (c1 : ¬ ra < 0) => ?_)
  · refine lv_iconst (v := 0) hx hb dX0_isRegister_14 (by decide) ?_
    have e9 : S0_isRegister ra = (0 : Int32) := by rw [S0_isRegister, if_pos c1]
    exact W.zret (v := (0 : Int32)) hx hb hr rfl (fun t ht hW => ⟨⟨(0 : Int32), (), rfl, e9.symm, trivial⟩, hS.F ht⟩) hS.2.2 dX0_isRegister_15
  · refine lv_iload_n hx hb dX0_isRegister_4 rfl (lv_at hl 0 rfl) ?_
    refine lv_bipush (v := 32) hx hb dX0_isRegister_5 (by decide) ?_
    refine lv_icmp_ge (tgt := 14) hx hb dX0_isRegister_7 (by decide) (fun (c2 : 32 ≤ ra) => ?_) (fun (c2 : ¬ 32 ≤ ra) => ?_)
    · refine lv_iconst (v := 0) hx hb dX0_isRegister_14 (by decide) ?_
      have e9 : S0_isRegister ra = (0 : Int32) := by rw [S0_isRegister, if_neg c1, if_pos c2]
      exact W.zret (v := (0 : Int32)) hx hb hr rfl (fun t ht hW => ⟨⟨(0 : Int32), (), rfl, e9.symm, trivial⟩, hS.F ht⟩) hS.2.2 dX0_isRegister_15
    · refine lv_iconst (v := 1) hx hb dX0_isRegister_10 (by decide) ?_
      refine lv_goto (tgt := 15) hx hb dX0_isRegister_11 (by decide) ?_
      have e9 : S0_isRegister ra = (1 : Int32) := by rw [S0_isRegister, if_neg c1, if_neg c2]
      exact W.zret (v := (1 : Int32)) hx hb hr rfl (fun t ht hW => ⟨⟨(1 : Int32), (), rfl, e9.symm, trivial⟩, hS.F ht⟩) hS.2.2 dX0_isRegister_15
theorem hdX0_isMultiple : yX0_isMultiple.cls ≠ "java/lang/invoke/MethodHandle" ∧ yX0_isMultiple.cls ≠ "java/lang/invoke/VarHandle" ∧ (parseMethodDescriptor yX0_isMultiple.desc).map (fun d => d.parameters.length) = some 2 := by decide +kernel
set_option maxHeartbeats 4000000 in
set_option maxRecDepth 100000 in
theorem c0_isMultiple (l : Launch) (aa : Int32) (ba : Int32)  : Pui l yX0_isMultiple wsX0_isMultiple 0 0 [.int aa, .int ba] (S0_isMultiple aa ba) := by
  refine Met.ofW (cc := cX0_isMultiple) (maxL := 2) (ret := (some .boolean)) (by decide) rfl ?_
  intro p e s m args below meth c s₁ B hml hv
  obtain ⟨rfl, -⟩ := hv
  have hx := B.exec
  have hb := B.bytes
  have hr := B.returns
  have hts := atoms_spec (ws := wsX0_isMultiple) B.pre
  have hown : s.vm.findClass RX0 = some m.cls := findClass_of_methodNamed B.named
  have hlocks := B.notSynchronized
  have hP : va_P ((fun _ => 0), (fun _ _ => 0)) [] [] s.heap := fun k q h => by simp at h
  have hS : va_S (fun _ => False) s.heap s.heap [] := va_S.rf
  have hl := lv_entry ([.int aa, .int ba]) (n := 2) (Nat.le_of_ble_eq_true rfl)
  rw [lg_entry_eq]
  generalize (lg_sl ([.int aa, .int ba]) ++ List.replicate (2 - (lg_sl ([.int aa, .int ba])).length) Slot.unset).toArray = ls at hl ⊢
  have hl : lv_has ls 2 [(0, .int aa), (1, .int ba)] := hl
  refine lv_iload_n hx hb dX0_isMultiple_0 rfl (lv_at hl 0 rfl) ?_
  refine lv_iload_n hx hb dX0_isMultiple_1 rfl (lv_at hl 1 rfl) ?_
  refine lv_iconst (v := 1) hx hb dX0_isMultiple_2 (by decide) ?_
  refine lv_isub hx hb dX0_isMultiple_3 ?_
  refine lv_iand hx hb dX0_isMultiple_4 ?_
  refine lv_if_ne (tgt := 12) hx hb dX0_isMultiple_5 (by decide) (fun (c1 : ¬ (aa &&& (ba - 1)) = 0) => ?_) (fun (c1 : (aa &&& (ba - 1)) = 0) => ?_)
  · refine lv_iconst (v := 0) hx hb dX0_isMultiple_12 (by decide) ?_
    have e9 : S0_isMultiple aa ba = (0 : Int32) := by rw [S0_isMultiple, if_neg c1]
    exact W.zret (v := (0 : Int32)) hx hb hr rfl (fun t ht hW => ⟨⟨(0 : Int32), (), rfl, e9.symm, trivial⟩, hS.F ht⟩) hS.2.2 dX0_isMultiple_13
  · refine lv_iconst (v := 1) hx hb dX0_isMultiple_8 (by decide) ?_
    refine lv_goto (tgt := 13) hx hb dX0_isMultiple_9 (by decide) ?_
    have e9 : S0_isMultiple aa ba = (1 : Int32) := by rw [S0_isMultiple, if_pos c1]
    exact W.zret (v := (1 : Int32)) hx hb hr rfl (fun t ht hW => ⟨⟨(1 : Int32), (), rfl, e9.symm, trivial⟩, hS.F ht⟩) hS.2.2 dX0_isMultiple_13
theorem hdX0_isAddress : yX0_isAddress.cls ≠ "java/lang/invoke/MethodHandle" ∧ yX0_isAddress.cls ≠ "java/lang/invoke/VarHandle" ∧ (parseMethodDescriptor yX0_isAddress.desc).map (fun d => d.parameters.length) = some 2 := by decide +kernel
set_option maxHeartbeats 4000000 in
set_option maxRecDepth 100000 in
theorem c0_isAddress (l : Launch) (aa : Int32) (ba : Int32)  : Pui l yX0_isAddress wsX0_isAddress 1 21 [.int aa, .int ba] (S0_isAddress aa ba) := by
  refine Met.ofW (cc := cX0_isAddress) (maxL := 2) (ret := (some .boolean)) (by decide) rfl ?_
  intro p e s m args below meth c s₁ B hml hv
  obtain ⟨rfl, -⟩ := hv
  have hx := B.exec
  have hb := B.bytes
  have hr := B.returns
  have hts := atoms_spec (ws := wsX0_isAddress) B.pre
  have hown : s.vm.findClass RX0 = some m.cls := findClass_of_methodNamed B.named
  have hlocks := B.notSynchronized
  have hP : va_P ((fun _ => 0), (fun _ _ => 0)) [] [] s.heap := fun k q h => by simp at h
  have hS : va_S (fun _ => False) s.heap s.heap [] := va_S.rf
  have hl := lv_entry ([.int aa, .int ba]) (n := 2) (Nat.le_of_ble_eq_true rfl)
  rw [lg_entry_eq]
  generalize (lg_sl ([.int aa, .int ba]) ++ List.replicate (2 - (lg_sl ([.int aa, .int ba])).length) Slot.unset).toArray = ls at hl ⊢
  have hl : lv_has ls 2 [(0, .int aa), (1, .int ba)] := hl
  refine lv_iload_n hx hb dX0_isAddress_0 rfl (lv_at hl 0 rfl) ?_
  refine lv_if_lt (tgt := 25) hx hb dX0_isAddress_1 (by decide) (fun (c1 : aa < 0) => ?_) (fun (c1 : ¬ aa < 0) => ?_)
  · refine lv_iconst (v := 0) hx hb dX0_isAddress_25 (by decide) ?_
    have e9 : S0_isAddress aa ba = (0 : Int32) := by rw [S0_isAddress, if_pos c1]
    exact W.zret (v := (0 : Int32)) hx hb hr rfl (fun t ht hW => ⟨⟨(0 : Int32), (), rfl, e9.symm, trivial⟩, hS.F ht⟩) hS.2.2 dX0_isAddress_26
  · refine lv_iload_n hx hb dX0_isAddress_4 rfl (lv_at hl 0 rfl) ?_
    refine lv_sipush (v := 4096) hx hb dX0_isAddress_5 (by decide) ?_
    refine lv_iload_n hx hb dX0_isAddress_8 rfl (lv_at hl 1 rfl) ?_
    refine lv_isub hx hb dX0_isAddress_9 ?_
    refine lv_icmp_gt (tgt := 25) hx hb dX0_isAddress_10 (by decide) (fun (c2 : (4096 - ba) < aa) => ?_) (fun (c2 : ¬ (4096 - ba) < aa) => ?_)
    · refine lv_iconst (v := 0) hx hb dX0_isAddress_25 (by decide) ?_
      have e9 : S0_isAddress aa ba = (0 : Int32) := by rw [S0_isAddress, if_neg c1, if_pos c2]
      exact W.zret (v := (0 : Int32)) hx hb hr rfl (fun t ht hW => ⟨⟨(0 : Int32), (), rfl, e9.symm, trivial⟩, hS.F ht⟩) hS.2.2 dX0_isAddress_26
    · refine lv_iload_n hx hb dX0_isAddress_13 rfl (lv_at hl 0 rfl) ?_
      refine lv_iload_n hx hb dX0_isAddress_14 rfl (lv_at hl 1 rfl) ?_
      refine pu_i (v := S0_isMultiple aa ba) (As := [.int aa, .int ba]) (rest := []) ⟨hx, hb, hml, hown, hts⟩ (c0_isMultiple l aa ba ) gX0_isAddress_X0_isMultiple rfl hdX0_isMultiple ⟨Nat.le_of_ble_eq_true rfl, Nat.le_of_ble_eq_true rfl⟩ hl.1 rfl (Nat.le_of_ble_eq_true rfl) dX0_isAddress_15 ⟨Nat.zero_le _, Nat.zero_le _⟩ hP hS (fun H locs hP hS => ?_)
      refine lv_if_eq (tgt := 25) hx hb dX0_isAddress_18 (by decide) (fun (c3 : (S0_isMultiple aa ba) = 0) => ?_) (fun (c3 : ¬ (S0_isMultiple aa ba) = 0) => ?_)
      · refine lv_iconst (v := 0) hx hb dX0_isAddress_25 (by decide) ?_
        have e9 : S0_isAddress aa ba = (0 : Int32) := by rw [S0_isAddress, if_neg c1, if_neg c2, if_pos c3]
        exact W.zret (v := (0 : Int32)) hx hb hr rfl (fun t ht hW => ⟨⟨(0 : Int32), (), rfl, e9.symm, trivial⟩, hS.F ht⟩) hS.2.2 dX0_isAddress_26
      · refine lv_iconst (v := 1) hx hb dX0_isAddress_21 (by decide) ?_
        refine lv_goto (tgt := 26) hx hb dX0_isAddress_22 (by decide) ?_
        have e9 : S0_isAddress aa ba = (1 : Int32) := by rw [S0_isAddress, if_neg c1, if_neg c2, if_neg c3]
        exact W.zret (v := (1 : Int32)) hx hb hr rfl (fun t ht hW => ⟨⟨(1 : Int32), (), rfl, e9.symm, trivial⟩, hS.F ht⟩) hS.2.2 dX0_isAddress_26
theorem hdX0_bitOffset : yX0_bitOffset.cls ≠ "java/lang/invoke/MethodHandle" ∧ yX0_bitOffset.cls ≠ "java/lang/invoke/VarHandle" ∧ (parseMethodDescriptor yX0_bitOffset.desc).map (fun d => d.parameters.length) = some 1 := by decide +kernel
set_option maxHeartbeats 4000000 in
set_option maxRecDepth 100000 in
theorem c0_bitOffset (l : Launch) (aa : Int32)  : Pui l yX0_bitOffset wsX0_bitOffset 0 0 [.int aa] (S0_bitOffset aa) := by
  refine Met.ofW (cc := cX0_bitOffset) (maxL := 1) (ret := (some .int)) (by decide) rfl ?_
  intro p e s m args below meth c s₁ B hml hv
  obtain ⟨rfl, -⟩ := hv
  have hx := B.exec
  have hb := B.bytes
  have hr := B.returns
  have hts := atoms_spec (ws := wsX0_bitOffset) B.pre
  have hown : s.vm.findClass RX0 = some m.cls := findClass_of_methodNamed B.named
  have hlocks := B.notSynchronized
  have hP : va_P ((fun _ => 0), (fun _ _ => 0)) [] [] s.heap := fun k q h => by simp at h
  have hS : va_S (fun _ => False) s.heap s.heap [] := va_S.rf
  have hl := lv_entry ([.int aa]) (n := 1) (Nat.le_of_ble_eq_true rfl)
  rw [lg_entry_eq]
  generalize (lg_sl ([.int aa]) ++ List.replicate (1 - (lg_sl ([.int aa])).length) Slot.unset).toArray = ls at hl ⊢
  have hl : lv_has ls 1 [(0, .int aa)] := hl
  refine lv_iload_n hx hb dX0_bitOffset_0 rfl (lv_at hl 0 rfl) ?_
  refine lv_iconst (v := 4) hx hb dX0_bitOffset_1 (by decide) ?_
  refine lv_irem hx hb dX0_bitOffset_2 (by decide) ?_
  refine lv_bipush (v := 8) hx hb dX0_bitOffset_3 (by decide) ?_
  refine lv_imul hx hb dX0_bitOffset_5 ?_
  have e9 : S0_bitOffset aa = (aa - aa / 4 * 4) * 8 := by rw [S0_bitOffset]
  exact W.iret (v := (aa - aa / 4 * 4) * 8) hx hb hr (fun t ht hW => ⟨⟨(aa - aa / 4 * 4) * 8, (), rfl, e9.symm, trivial⟩, hS.F ht⟩) hS.2.2 dX0_bitOffset_6
theorem hdX0_widthOf : yX0_widthOf.cls ≠ "java/lang/invoke/MethodHandle" ∧ yX0_widthOf.cls ≠ "java/lang/invoke/VarHandle" ∧ (parseMethodDescriptor yX0_widthOf.desc).map (fun d => d.parameters.length) = some 1 := by decide +kernel
set_option maxHeartbeats 4000000 in
set_option maxRecDepth 100000 in
theorem c0_widthOf (l : Launch) (ta : Int32)  : Pui l yX0_widthOf wsX0_widthOf 0 0 [.int ta] (S0_widthOf ta) := by
  refine Met.ofW (cc := cX0_widthOf) (maxL := 1) (ret := (some .int)) (by decide) rfl ?_
  intro p e s m args below meth c s₁ B hml hv
  obtain ⟨rfl, -⟩ := hv
  have hx := B.exec
  have hb := B.bytes
  have hr := B.returns
  have hts := atoms_spec (ws := wsX0_widthOf) B.pre
  have hown : s.vm.findClass RX0 = some m.cls := findClass_of_methodNamed B.named
  have hlocks := B.notSynchronized
  have hP : va_P ((fun _ => 0), (fun _ _ => 0)) [] [] s.heap := fun k q h => by simp at h
  have hS : va_S (fun _ => False) s.heap s.heap [] := va_S.rf
  have hl := lv_entry ([.int ta]) (n := 1) (Nat.le_of_ble_eq_true rfl)
  rw [lg_entry_eq]
  generalize (lg_sl ([.int ta]) ++ List.replicate (1 - (lg_sl ([.int ta])).length) Slot.unset).toArray = ls at hl ⊢
  have hl : lv_has ls 1 [(0, .int ta)] := hl
  refine lv_iconst (v := 1) hx hb dX0_widthOf_0 (by decide) ?_
  refine lv_iload_n hx hb dX0_widthOf_1 rfl (lv_at hl 0 rfl) ?_
  refine lv_iconst (v := 3) hx hb dX0_widthOf_2 (by decide) ?_
  refine lv_iand hx hb dX0_widthOf_3 ?_
  refine lv_ishl hx hb dX0_widthOf_4 ?_
  have e9 : S0_widthOf ta = (1 : Int32) <<< ((ta &&& 3) &&& 31) := by rw [S0_widthOf]
  exact W.iret (v := (1 : Int32) <<< ((ta &&& 3) &&& 31)) hx hb hr (fun t ht hW => ⟨⟨(1 : Int32) <<< ((ta &&& 3) &&& 31), (), rfl, e9.symm, trivial⟩, hS.F ht⟩) hS.2.2 dX0_widthOf_5
theorem ctX0_loaded_168 : Cond.constant RX0 168 (65535) ∈ wsX0_loaded := by decide +kernel
theorem hdX0_loaded : yX0_loaded.cls ≠ "java/lang/invoke/MethodHandle" ∧ yX0_loaded.cls ≠ "java/lang/invoke/VarHandle" ∧ (parseMethodDescriptor yX0_loaded.desc).map (fun d => d.parameters.length) = some 2 := by decide +kernel
set_option maxHeartbeats 4000000 in
set_option maxRecDepth 100000 in
theorem c0_loaded (l : Launch) (ta : Int32) (ba : Int32)  : Pui l yX0_loaded wsX0_loaded 0 0 [.int ta, .int ba] (S0_loaded ta ba) := by
  refine Met.ofW (cc := cX0_loaded) (maxL := 2) (ret := (some .int)) (by decide) rfl ?_
  intro p e s m args below meth c s₁ B hml hv
  obtain ⟨rfl, -⟩ := hv
  have hx := B.exec
  have hb := B.bytes
  have hr := B.returns
  have hts := atoms_spec (ws := wsX0_loaded) B.pre
  have hown : s.vm.findClass RX0 = some m.cls := findClass_of_methodNamed B.named
  have hlocks := B.notSynchronized
  have hP : va_P ((fun _ => 0), (fun _ _ => 0)) [] [] s.heap := fun k q h => by simp at h
  have hS : va_S (fun _ => False) s.heap s.heap [] := va_S.rf
  have hl := lv_entry ([.int ta, .int ba]) (n := 2) (Nat.le_of_ble_eq_true rfl)
  rw [lg_entry_eq]
  generalize (lg_sl ([.int ta, .int ba]) ++ List.replicate (2 - (lg_sl ([.int ta, .int ba])).length) Slot.unset).toArray = ls at hl ⊢
  have hl : lv_has ls 2 [(0, .int ta), (1, .int ba)] := hl
  refine lv_iload_n hx hb dX0_loaded_0 rfl (lv_at hl 0 rfl) ?_
  by_cases c1 : ta = 0
  · refine lv_tableIn (tgt := 40) hx hb dX0_loaded_1 (by rw [c1]; decide) (by rw [c1]; decide) (by rw [c1]; rfl) (by decide) ?_
    refine lv_iload_n hx hb dX0_loaded_40 rfl (lv_at hl 1 rfl) ?_
    refine lv_i2b (v := ba.toInt8.toInt32) hx hb dX0_loaded_41 rfl ?_
    have e9 : S0_loaded ta ba = ba.toInt8.toInt32 := by rw [S0_loaded, if_pos c1]
    exact W.iret (v := ba.toInt8.toInt32) hx hb hr (fun t ht hW => ⟨⟨ba.toInt8.toInt32, (), rfl, e9.symm, trivial⟩, hS.F ht⟩) hS.2.2 dX0_loaded_42
  · skip
    by_cases c2 : ta = 1
    · refine lv_tableIn (tgt := 43) hx hb dX0_loaded_1 (by rw [c2]; decide) (by rw [c2]; decide) (by rw [c2]; rfl) (by decide) ?_
      refine lv_iload_n hx hb dX0_loaded_43 rfl (lv_at hl 1 rfl) ?_
      refine lv_i2s (v := ba.toInt16.toInt32) hx hb dX0_loaded_44 rfl ?_
      have e9 : S0_loaded ta ba = ba.toInt16.toInt32 := by rw [S0_loaded, if_neg c1, if_pos c2]
      exact W.iret (v := ba.toInt16.toInt32) hx hb hr (fun t ht hW => ⟨⟨ba.toInt16.toInt32, (), rfl, e9.symm, trivial⟩, hS.F ht⟩) hS.2.2 dX0_loaded_45
    · skip
      by_cases c3 : ta = 2
      · refine lv_tableIn (tgt := 57) hx hb dX0_loaded_1 (by rw [c3]; decide) (by rw [c3]; decide) (by rw [c3]; rfl) (by decide) ?_
        refine lv_iload_n hx hb dX0_loaded_57 rfl (lv_at hl 1 rfl) ?_
        have e9 : S0_loaded ta ba = ba := by rw [S0_loaded, if_neg c1, if_neg c2, if_pos c3]
        exact W.iret (v := ba) hx hb hr (fun t ht hW => ⟨⟨ba, (), rfl, e9.symm, trivial⟩, hS.F ht⟩) hS.2.2 dX0_loaded_58
      · skip
        by_cases c4 : ta = 3
        · refine lv_tableIn (tgt := 57) hx hb dX0_loaded_1 (by rw [c4]; decide) (by rw [c4]; decide) (by rw [c4]; rfl) (by decide) ?_
          refine lv_iload_n hx hb dX0_loaded_57 rfl (lv_at hl 1 rfl) ?_
          have e9 : S0_loaded ta ba = ba := by rw [S0_loaded, if_neg c1, if_neg c2, if_neg c3, if_pos c4]
          exact W.iret (v := ba) hx hb hr (fun t ht hW => ⟨⟨ba, (), rfl, e9.symm, trivial⟩, hS.F ht⟩) hS.2.2 dX0_loaded_58
        · skip
          by_cases c5 : ta = 4
          · refine lv_tableIn (tgt := 46) hx hb dX0_loaded_1 (by rw [c5]; decide) (by rw [c5]; decide) (by rw [c5]; rfl) (by decide) ?_
            refine lv_iload_n hx hb dX0_loaded_46 rfl (lv_at hl 1 rfl) ?_
            refine lv_sipush (v := 255) hx hb dX0_loaded_47 (by decide) ?_
            refine lv_iand hx hb dX0_loaded_50 ?_
            have e9 : S0_loaded ta ba = ba &&& 255 := by rw [S0_loaded, if_neg c1, if_neg c2, if_neg c3, if_neg c4, if_pos c5]
            exact W.iret (v := ba &&& 255) hx hb hr (fun t ht hW => ⟨⟨ba &&& 255, (), rfl, e9.symm, trivial⟩, hS.F ht⟩) hS.2.2 dX0_loaded_51
          · skip
            by_cases c6 : ta = 5
            · refine lv_tableIn (tgt := 52) hx hb dX0_loaded_1 (by rw [c6]; decide) (by rw [c6]; decide) (by rw [c6]; rfl) (by decide) ?_
              refine lv_iload_n hx hb dX0_loaded_52 rfl (lv_at hl 1 rfl) ?_
              refine lv_ldc hx hb hown (hts (.constant RX0 168 (65535)) ctX0_loaded_168) dX0_loaded_53 ?_
              refine lv_iand hx hb dX0_loaded_55 ?_
              have e9 : S0_loaded ta ba = ba &&& 65535 := by rw [S0_loaded, if_neg c1, if_neg c2, if_neg c3, if_neg c4, if_neg c5, if_pos c6]
              exact W.iret (v := ba &&& 65535) hx hb hr (fun t ht hW => ⟨⟨ba &&& 65535, (), rfl, e9.symm, trivial⟩, hS.F ht⟩) hS.2.2 dX0_loaded_56
            · skip
              refine lv_tableOut (tgt := 57) hx hb dX0_loaded_1 (by have nc1 := lv_neT c1 (show (0 : Int32).toInt = 0 from by decide); have nc2 := lv_neT c2 (show (1 : Int32).toInt = 1 from by decide); have nc3 := lv_neT c3 (show (2 : Int32).toInt = 2 from by decide); have nc4 := lv_neT c4 (show (3 : Int32).toInt = 3 from by decide); have nc5 := lv_neT c5 (show (4 : Int32).toInt = 4 from by decide); have nc6 := lv_neT c6 (show (5 : Int32).toInt = 5 from by decide); omega) (by decide) ?_
              refine lv_iload_n hx hb dX0_loaded_57 rfl (lv_at hl 1 rfl) ?_
              have e9 : S0_loaded ta ba = ba := by rw [S0_loaded, if_neg c1, if_neg c2, if_neg c3, if_neg c4, if_neg c5, if_neg c6]
              exact W.iret (v := ba) hx hb hr (fun t ht hW => ⟨⟨ba, (), rfl, e9.symm, trivial⟩, hS.F ht⟩) hS.2.2 dX0_loaded_58
theorem ctX0_storedBits_168 : Cond.constant RX0 168 (65535) ∈ wsX0_storedBits := by decide +kernel
theorem hdX0_storedBits : yX0_storedBits.cls ≠ "java/lang/invoke/MethodHandle" ∧ yX0_storedBits.cls ≠ "java/lang/invoke/VarHandle" ∧ (parseMethodDescriptor yX0_storedBits.desc).map (fun d => d.parameters.length) = some 1 := by decide +kernel
set_option maxHeartbeats 4000000 in
set_option maxRecDepth 100000 in
theorem c0_storedBits (l : Launch) (ta : Int32)  : Pui l yX0_storedBits wsX0_storedBits 0 0 [.int ta] (S0_storedBits ta) := by
  refine Met.ofW (cc := cX0_storedBits) (maxL := 1) (ret := (some .int)) (by decide) rfl ?_
  intro p e s m args below meth c s₁ B hml hv
  obtain ⟨rfl, -⟩ := hv
  have hx := B.exec
  have hb := B.bytes
  have hr := B.returns
  have hts := atoms_spec (ws := wsX0_storedBits) B.pre
  have hown : s.vm.findClass RX0 = some m.cls := findClass_of_methodNamed B.named
  have hlocks := B.notSynchronized
  have hP : va_P ((fun _ => 0), (fun _ _ => 0)) [] [] s.heap := fun k q h => by simp at h
  have hS : va_S (fun _ => False) s.heap s.heap [] := va_S.rf
  have hl := lv_entry ([.int ta]) (n := 1) (Nat.le_of_ble_eq_true rfl)
  rw [lg_entry_eq]
  generalize (lg_sl ([.int ta]) ++ List.replicate (1 - (lg_sl ([.int ta])).length) Slot.unset).toArray = ls at hl ⊢
  have hl : lv_has ls 1 [(0, .int ta)] := hl
  refine lv_iload_n hx hb dX0_storedBits_0 rfl (lv_at hl 0 rfl) ?_
  by_cases c1 : ta = 0
  · refine lv_lookup (off := 27) (tgt := 28) hx hb dX0_storedBits_1 (by decide) (by rw [c1] <;> rfl) (by decide) ?_
    refine lv_sipush (v := 255) hx hb dX0_storedBits_28 (by decide) ?_
    have e9 : S0_storedBits ta = (255 : Int32) := by rw [S0_storedBits, if_pos c1]
    exact W.iret (v := (255 : Int32)) hx hb hr (fun t ht hW => ⟨⟨(255 : Int32), (), rfl, e9.symm, trivial⟩, hS.F ht⟩) hS.2.2 dX0_storedBits_31
  · skip
    by_cases c2 : ta = 1
    · refine lv_lookup (off := 31) (tgt := 32) hx hb dX0_storedBits_1 (by decide) (by rw [c2] <;> rfl) (by decide) ?_
      refine lv_ldc hx hb hown (hts (.constant RX0 168 (65535)) ctX0_storedBits_168) dX0_storedBits_32 ?_
      have e9 : S0_storedBits ta = (65535 : Int32) := by rw [S0_storedBits, if_neg c1, if_pos c2]
      exact W.iret (v := (65535 : Int32)) hx hb hr (fun t ht hW => ⟨⟨(65535 : Int32), (), rfl, e9.symm, trivial⟩, hS.F ht⟩) hS.2.2 dX0_storedBits_34
    · skip
      refine lv_lookup (off := 34) (tgt := 35) hx hb dX0_storedBits_1 (by decide) (by rw [lv_osw c1 (show (0 : Int32).toInt = 0 from by decide), lv_osw c2 (show (1 : Int32).toInt = 1 from by decide)] <;> rfl) (by decide) ?_
      refine lv_iconst (v := (-1)) hx hb dX0_storedBits_35 (by decide) ?_
      have e9 : S0_storedBits ta = ((-1) : Int32) := by rw [S0_storedBits, if_neg c1, if_neg c2]
      exact W.iret (v := ((-1) : Int32)) hx hb hr (fun t ht hW => ⟨⟨((-1) : Int32), (), rfl, e9.symm, trivial⟩, hS.F ht⟩) hS.2.2 dX0_storedBits_36
theorem hdX0_fieldOp : yX0_fieldOp.cls ≠ "java/lang/invoke/MethodHandle" ∧ yX0_fieldOp.cls ≠ "java/lang/invoke/VarHandle" ∧ (parseMethodDescriptor yX0_fieldOp.desc).map (fun d => d.parameters.length) = some 1 := by decide +kernel
set_option maxHeartbeats 4000000 in
set_option maxRecDepth 100000 in
theorem c0_fieldOp (l : Launch) (wa : Int32)  : Pui l yX0_fieldOp wsX0_fieldOp 0 0 [.int wa] (S0_fieldOp wa) := by
  refine Met.ofW (cc := cX0_fieldOp) (maxL := 1) (ret := (some .int)) (by decide) rfl ?_
  intro p e s m args below meth c s₁ B hml hv
  obtain ⟨rfl, -⟩ := hv
  have hx := B.exec
  have hb := B.bytes
  have hr := B.returns
  have hts := atoms_spec (ws := wsX0_fieldOp) B.pre
  have hown : s.vm.findClass RX0 = some m.cls := findClass_of_methodNamed B.named
  have hlocks := B.notSynchronized
  have hP : va_P ((fun _ => 0), (fun _ _ => 0)) [] [] s.heap := fun k q h => by simp at h
  have hS : va_S (fun _ => False) s.heap s.heap [] := va_S.rf
  have hl := lv_entry ([.int wa]) (n := 1) (Nat.le_of_ble_eq_true rfl)
  rw [lg_entry_eq]
  generalize (lg_sl ([.int wa]) ++ List.replicate (1 - (lg_sl ([.int wa])).length) Slot.unset).toArray = ls at hl ⊢
  have hl : lv_has ls 1 [(0, .int wa)] := hl
  refine lv_iload_n hx hb dX0_fieldOp_0 rfl (lv_at hl 0 rfl) ?_
  refine lv_bipush (v := 127) hx hb dX0_fieldOp_1 (by decide) ?_
  refine lv_iand hx hb dX0_fieldOp_3 ?_
  have e9 : S0_fieldOp wa = wa &&& 127 := by rw [S0_fieldOp]
  exact W.iret (v := wa &&& 127) hx hb hr (fun t ht hW => ⟨⟨wa &&& 127, (), rfl, e9.symm, trivial⟩, hS.F ht⟩) hS.2.2 dX0_fieldOp_4
theorem hdX0_fieldD : yX0_fieldD.cls ≠ "java/lang/invoke/MethodHandle" ∧ yX0_fieldD.cls ≠ "java/lang/invoke/VarHandle" ∧ (parseMethodDescriptor yX0_fieldD.desc).map (fun d => d.parameters.length) = some 1 := by decide +kernel
set_option maxHeartbeats 4000000 in
set_option maxRecDepth 100000 in
theorem c0_fieldD (l : Launch) (wa : Int32)  : Pui l yX0_fieldD wsX0_fieldD 0 0 [.int wa] (S0_fieldD wa) := by
  refine Met.ofW (cc := cX0_fieldD) (maxL := 1) (ret := (some .int)) (by decide) rfl ?_
  intro p e s m args below meth c s₁ B hml hv
  obtain ⟨rfl, -⟩ := hv
  have hx := B.exec
  have hb := B.bytes
  have hr := B.returns
  have hts := atoms_spec (ws := wsX0_fieldD) B.pre
  have hown : s.vm.findClass RX0 = some m.cls := findClass_of_methodNamed B.named
  have hlocks := B.notSynchronized
  have hP : va_P ((fun _ => 0), (fun _ _ => 0)) [] [] s.heap := fun k q h => by simp at h
  have hS : va_S (fun _ => False) s.heap s.heap [] := va_S.rf
  have hl := lv_entry ([.int wa]) (n := 1) (Nat.le_of_ble_eq_true rfl)
  rw [lg_entry_eq]
  generalize (lg_sl ([.int wa]) ++ List.replicate (1 - (lg_sl ([.int wa])).length) Slot.unset).toArray = ls at hl ⊢
  have hl : lv_has ls 1 [(0, .int wa)] := hl
  refine lv_iload_n hx hb dX0_fieldD_0 rfl (lv_at hl 0 rfl) ?_
  refine lv_bipush (v := 7) hx hb dX0_fieldD_1 (by decide) ?_
  refine lv_iushr (v := i_ushr wa 7) hx hb dX0_fieldD_3 rfl ?_
  refine lv_bipush (v := 31) hx hb dX0_fieldD_4 (by decide) ?_
  refine lv_iand hx hb dX0_fieldD_6 ?_
  have e9 : S0_fieldD wa = (i_ushr wa 7) &&& 31 := by rw [S0_fieldD]
  exact W.iret (v := (i_ushr wa 7) &&& 31) hx hb hr (fun t ht hW => ⟨⟨(i_ushr wa 7) &&& 31, (), rfl, e9.symm, trivial⟩, hS.F ht⟩) hS.2.2 dX0_fieldD_7
theorem hdX0_fieldT : yX0_fieldT.cls ≠ "java/lang/invoke/MethodHandle" ∧ yX0_fieldT.cls ≠ "java/lang/invoke/VarHandle" ∧ (parseMethodDescriptor yX0_fieldT.desc).map (fun d => d.parameters.length) = some 1 := by decide +kernel
set_option maxHeartbeats 4000000 in
set_option maxRecDepth 100000 in
theorem c0_fieldT (l : Launch) (wa : Int32)  : Pui l yX0_fieldT wsX0_fieldT 0 0 [.int wa] (S0_fieldT wa) := by
  refine Met.ofW (cc := cX0_fieldT) (maxL := 1) (ret := (some .int)) (by decide) rfl ?_
  intro p e s m args below meth c s₁ B hml hv
  obtain ⟨rfl, -⟩ := hv
  have hx := B.exec
  have hb := B.bytes
  have hr := B.returns
  have hts := atoms_spec (ws := wsX0_fieldT) B.pre
  have hown : s.vm.findClass RX0 = some m.cls := findClass_of_methodNamed B.named
  have hlocks := B.notSynchronized
  have hP : va_P ((fun _ => 0), (fun _ _ => 0)) [] [] s.heap := fun k q h => by simp at h
  have hS : va_S (fun _ => False) s.heap s.heap [] := va_S.rf
  have hl := lv_entry ([.int wa]) (n := 1) (Nat.le_of_ble_eq_true rfl)
  rw [lg_entry_eq]
  generalize (lg_sl ([.int wa]) ++ List.replicate (1 - (lg_sl ([.int wa])).length) Slot.unset).toArray = ls at hl ⊢
  have hl : lv_has ls 1 [(0, .int wa)] := hl
  refine lv_iload_n hx hb dX0_fieldT_0 rfl (lv_at hl 0 rfl) ?_
  refine lv_bipush (v := 12) hx hb dX0_fieldT_1 (by decide) ?_
  refine lv_iushr (v := i_ushr wa 12) hx hb dX0_fieldT_3 rfl ?_
  refine lv_bipush (v := 7) hx hb dX0_fieldT_4 (by decide) ?_
  refine lv_iand hx hb dX0_fieldT_6 ?_
  have e9 : S0_fieldT wa = (i_ushr wa 12) &&& 7 := by rw [S0_fieldT]
  exact W.iret (v := (i_ushr wa 12) &&& 7) hx hb hr (fun t ht hW => ⟨⟨(i_ushr wa 12) &&& 7, (), rfl, e9.symm, trivial⟩, hS.F ht⟩) hS.2.2 dX0_fieldT_7
theorem hdX0_fieldX : yX0_fieldX.cls ≠ "java/lang/invoke/MethodHandle" ∧ yX0_fieldX.cls ≠ "java/lang/invoke/VarHandle" ∧ (parseMethodDescriptor yX0_fieldX.desc).map (fun d => d.parameters.length) = some 1 := by decide +kernel
set_option maxHeartbeats 4000000 in
set_option maxRecDepth 100000 in
theorem c0_fieldX (l : Launch) (wa : Int32)  : Pui l yX0_fieldX wsX0_fieldX 0 0 [.int wa] (S0_fieldX wa) := by
  refine Met.ofW (cc := cX0_fieldX) (maxL := 1) (ret := (some .int)) (by decide) rfl ?_
  intro p e s m args below meth c s₁ B hml hv
  obtain ⟨rfl, -⟩ := hv
  have hx := B.exec
  have hb := B.bytes
  have hr := B.returns
  have hts := atoms_spec (ws := wsX0_fieldX) B.pre
  have hown : s.vm.findClass RX0 = some m.cls := findClass_of_methodNamed B.named
  have hlocks := B.notSynchronized
  have hP : va_P ((fun _ => 0), (fun _ _ => 0)) [] [] s.heap := fun k q h => by simp at h
  have hS : va_S (fun _ => False) s.heap s.heap [] := va_S.rf
  have hl := lv_entry ([.int wa]) (n := 1) (Nat.le_of_ble_eq_true rfl)
  rw [lg_entry_eq]
  generalize (lg_sl ([.int wa]) ++ List.replicate (1 - (lg_sl ([.int wa])).length) Slot.unset).toArray = ls at hl ⊢
  have hl : lv_has ls 1 [(0, .int wa)] := hl
  refine lv_iload_n hx hb dX0_fieldX_0 rfl (lv_at hl 0 rfl) ?_
  refine lv_bipush (v := 15) hx hb dX0_fieldX_1 (by decide) ?_
  refine lv_iushr (v := i_ushr wa 15) hx hb dX0_fieldX_3 rfl ?_
  refine lv_bipush (v := 31) hx hb dX0_fieldX_4 (by decide) ?_
  refine lv_iand hx hb dX0_fieldX_6 ?_
  have e9 : S0_fieldX wa = (i_ushr wa 15) &&& 31 := by rw [S0_fieldX]
  exact W.iret (v := (i_ushr wa 15) &&& 31) hx hb hr (fun t ht hW => ⟨⟨(i_ushr wa 15) &&& 31, (), rfl, e9.symm, trivial⟩, hS.F ht⟩) hS.2.2 dX0_fieldX_7
theorem hdX0_fieldY : yX0_fieldY.cls ≠ "java/lang/invoke/MethodHandle" ∧ yX0_fieldY.cls ≠ "java/lang/invoke/VarHandle" ∧ (parseMethodDescriptor yX0_fieldY.desc).map (fun d => d.parameters.length) = some 1 := by decide +kernel
set_option maxHeartbeats 4000000 in
set_option maxRecDepth 100000 in
theorem c0_fieldY (l : Launch) (wa : Int32)  : Pui l yX0_fieldY wsX0_fieldY 0 0 [.int wa] (S0_fieldY wa) := by
  refine Met.ofW (cc := cX0_fieldY) (maxL := 1) (ret := (some .int)) (by decide) rfl ?_
  intro p e s m args below meth c s₁ B hml hv
  obtain ⟨rfl, -⟩ := hv
  have hx := B.exec
  have hb := B.bytes
  have hr := B.returns
  have hts := atoms_spec (ws := wsX0_fieldY) B.pre
  have hown : s.vm.findClass RX0 = some m.cls := findClass_of_methodNamed B.named
  have hlocks := B.notSynchronized
  have hP : va_P ((fun _ => 0), (fun _ _ => 0)) [] [] s.heap := fun k q h => by simp at h
  have hS : va_S (fun _ => False) s.heap s.heap [] := va_S.rf
  have hl := lv_entry ([.int wa]) (n := 1) (Nat.le_of_ble_eq_true rfl)
  rw [lg_entry_eq]
  generalize (lg_sl ([.int wa]) ++ List.replicate (1 - (lg_sl ([.int wa])).length) Slot.unset).toArray = ls at hl ⊢
  have hl : lv_has ls 1 [(0, .int wa)] := hl
  refine lv_iload_n hx hb dX0_fieldY_0 rfl (lv_at hl 0 rfl) ?_
  refine lv_bipush (v := 20) hx hb dX0_fieldY_1 (by decide) ?_
  refine lv_iushr (v := i_ushr wa 20) hx hb dX0_fieldY_3 rfl ?_
  refine lv_bipush (v := 31) hx hb dX0_fieldY_4 (by decide) ?_
  refine lv_iand hx hb dX0_fieldY_6 ?_
  have e9 : S0_fieldY wa = (i_ushr wa 20) &&& 31 := by rw [S0_fieldY]
  exact W.iret (v := (i_ushr wa 20) &&& 31) hx hb hr (fun t ht hW => ⟨⟨(i_ushr wa 20) &&& 31, (), rfl, e9.symm, trivial⟩, hS.F ht⟩) hS.2.2 dX0_fieldY_7
theorem hdX0_fieldS : yX0_fieldS.cls ≠ "java/lang/invoke/MethodHandle" ∧ yX0_fieldS.cls ≠ "java/lang/invoke/VarHandle" ∧ (parseMethodDescriptor yX0_fieldS.desc).map (fun d => d.parameters.length) = some 1 := by decide +kernel
set_option maxHeartbeats 4000000 in
set_option maxRecDepth 100000 in
theorem c0_fieldS (l : Launch) (wa : Int32)  : Pui l yX0_fieldS wsX0_fieldS 0 0 [.int wa] (S0_fieldS wa) := by
  refine Met.ofW (cc := cX0_fieldS) (maxL := 1) (ret := (some .int)) (by decide) rfl ?_
  intro p e s m args below meth c s₁ B hml hv
  obtain ⟨rfl, -⟩ := hv
  have hx := B.exec
  have hb := B.bytes
  have hr := B.returns
  have hts := atoms_spec (ws := wsX0_fieldS) B.pre
  have hown : s.vm.findClass RX0 = some m.cls := findClass_of_methodNamed B.named
  have hlocks := B.notSynchronized
  have hP : va_P ((fun _ => 0), (fun _ _ => 0)) [] [] s.heap := fun k q h => by simp at h
  have hS : va_S (fun _ => False) s.heap s.heap [] := va_S.rf
  have hl := lv_entry ([.int wa]) (n := 1) (Nat.le_of_ble_eq_true rfl)
  rw [lg_entry_eq]
  generalize (lg_sl ([.int wa]) ++ List.replicate (1 - (lg_sl ([.int wa])).length) Slot.unset).toArray = ls at hl ⊢
  have hl : lv_has ls 1 [(0, .int wa)] := hl
  refine lv_iload_n hx hb dX0_fieldS_0 rfl (lv_at hl 0 rfl) ?_
  refine lv_bipush (v := 25) hx hb dX0_fieldS_1 (by decide) ?_
  refine lv_iushr (v := i_ushr wa 25) hx hb dX0_fieldS_3 rfl ?_
  have e9 : S0_fieldS wa = i_ushr wa 25 := by rw [S0_fieldS]
  exact W.iret (v := i_ushr wa 25) hx hb hr (fun t ht hW => ⟨⟨i_ushr wa 25, (), rfl, e9.symm, trivial⟩, hS.F ht⟩) hS.2.2 dX0_fieldS_4
theorem hdX0_numberI : yX0_numberI.cls ≠ "java/lang/invoke/MethodHandle" ∧ yX0_numberI.cls ≠ "java/lang/invoke/VarHandle" ∧ (parseMethodDescriptor yX0_numberI.desc).map (fun d => d.parameters.length) = some 1 := by decide +kernel
set_option maxHeartbeats 4000000 in
set_option maxRecDepth 100000 in
theorem c0_numberI (l : Launch) (wa : Int32)  : Pui l yX0_numberI wsX0_numberI 0 0 [.int wa] (S0_numberI wa) := by
  refine Met.ofW (cc := cX0_numberI) (maxL := 1) (ret := (some .int)) (by decide) rfl ?_
  intro p e s m args below meth c s₁ B hml hv
  obtain ⟨rfl, -⟩ := hv
  have hx := B.exec
  have hb := B.bytes
  have hr := B.returns
  have hts := atoms_spec (ws := wsX0_numberI) B.pre
  have hown : s.vm.findClass RX0 = some m.cls := findClass_of_methodNamed B.named
  have hlocks := B.notSynchronized
  have hP : va_P ((fun _ => 0), (fun _ _ => 0)) [] [] s.heap := fun k q h => by simp at h
  have hS : va_S (fun _ => False) s.heap s.heap [] := va_S.rf
  have hl := lv_entry ([.int wa]) (n := 1) (Nat.le_of_ble_eq_true rfl)
  rw [lg_entry_eq]
  generalize (lg_sl ([.int wa]) ++ List.replicate (1 - (lg_sl ([.int wa])).length) Slot.unset).toArray = ls at hl ⊢
  have hl : lv_has ls 1 [(0, .int wa)] := hl
  refine lv_iload_n hx hb dX0_numberI_0 rfl (lv_at hl 0 rfl) ?_
  refine lv_bipush (v := 20) hx hb dX0_numberI_1 (by decide) ?_
  refine lv_ishr hx hb dX0_numberI_3 ?_
  have e9 : S0_numberI wa = wa >>> ((20 : Int32) &&& 31) := by rw [S0_numberI]
  exact W.iret (v := wa >>> ((20 : Int32) &&& 31)) hx hb hr (fun t ht hW => ⟨⟨wa >>> ((20 : Int32) &&& 31), (), rfl, e9.symm, trivial⟩, hS.F ht⟩) hS.2.2 dX0_numberI_4
theorem hdX0_storeDistance : yX0_storeDistance.cls ≠ "java/lang/invoke/MethodHandle" ∧ yX0_storeDistance.cls ≠ "java/lang/invoke/VarHandle" ∧ (parseMethodDescriptor yX0_storeDistance.desc).map (fun d => d.parameters.length) = some 1 := by decide +kernel
set_option maxHeartbeats 4000000 in
set_option maxRecDepth 100000 in
theorem c0_storeDistance (l : Launch) (wa : Int32)  : Pui l yX0_storeDistance wsX0_storeDistance 1 20 [.int wa] (S0_storeDistance wa) := by
  refine Met.ofW (cc := cX0_storeDistance) (maxL := 1) (ret := (some .int)) (by decide) rfl ?_
  intro p e s m args below meth c s₁ B hml hv
  obtain ⟨rfl, -⟩ := hv
  have hx := B.exec
  have hb := B.bytes
  have hr := B.returns
  have hts := atoms_spec (ws := wsX0_storeDistance) B.pre
  have hown : s.vm.findClass RX0 = some m.cls := findClass_of_methodNamed B.named
  have hlocks := B.notSynchronized
  have hP : va_P ((fun _ => 0), (fun _ _ => 0)) [] [] s.heap := fun k q h => by simp at h
  have hS : va_S (fun _ => False) s.heap s.heap [] := va_S.rf
  have hl := lv_entry ([.int wa]) (n := 1) (Nat.le_of_ble_eq_true rfl)
  rw [lg_entry_eq]
  generalize (lg_sl ([.int wa]) ++ List.replicate (1 - (lg_sl ([.int wa])).length) Slot.unset).toArray = ls at hl ⊢
  have hl : lv_has ls 1 [(0, .int wa)] := hl
  refine lv_iload_n hx hb dX0_storeDistance_0 rfl (lv_at hl 0 rfl) ?_
  refine lv_bipush (v := 25) hx hb dX0_storeDistance_1 (by decide) ?_
  refine lv_ishr hx hb dX0_storeDistance_3 ?_
  refine lv_iconst (v := 5) hx hb dX0_storeDistance_4 (by decide) ?_
  refine lv_ishl hx hb dX0_storeDistance_5 ?_
  refine lv_iload_n hx hb dX0_storeDistance_6 rfl (lv_at hl 0 rfl) ?_
  refine pu_i (v := S0_fieldD wa) (As := [.int wa]) (rest := [.int ((wa >>> ((25 : Int32) &&& 31)) <<< ((5 : Int32) &&& 31))]) ⟨hx, hb, hml, hown, hts⟩ (c0_fieldD l wa ) gX0_storeDistance_X0_fieldD rfl hdX0_fieldD ⟨Nat.le_of_ble_eq_true rfl, Nat.le_of_ble_eq_true rfl⟩ hl.1 rfl (Nat.le_of_ble_eq_true rfl) dX0_storeDistance_7 ⟨Nat.zero_le _, Nat.zero_le _⟩ hP hS (fun H locs hP hS => ?_)
  refine lv_ior hx hb dX0_storeDistance_10 ?_
  have e9 : S0_storeDistance wa = ((wa >>> ((25 : Int32) &&& 31)) <<< ((5 : Int32) &&& 31)) ||| (S0_fieldD wa) := by rw [S0_storeDistance]
  exact W.iret (v := ((wa >>> ((25 : Int32) &&& 31)) <<< ((5 : Int32) &&& 31)) ||| (S0_fieldD wa)) hx hb hr (fun t ht hW => ⟨⟨((wa >>> ((25 : Int32) &&& 31)) <<< ((5 : Int32) &&& 31)) ||| (S0_fieldD wa), (), rfl, e9.symm, trivial⟩, hS.F ht⟩) hS.2.2 dX0_storeDistance_11
theorem hdX0_branchDistance : yX0_branchDistance.cls ≠ "java/lang/invoke/MethodHandle" ∧ yX0_branchDistance.cls ≠ "java/lang/invoke/VarHandle" ∧ (parseMethodDescriptor yX0_branchDistance.desc).map (fun d => d.parameters.length) = some 1 := by decide +kernel
set_option maxHeartbeats 4000000 in
set_option maxRecDepth 100000 in
theorem c0_branchDistance (l : Launch) (wa : Int32)  : Pui l yX0_branchDistance wsX0_branchDistance 0 0 [.int wa] (S0_branchDistance wa) := by
  refine Met.ofW (cc := cX0_branchDistance) (maxL := 1) (ret := (some .int)) (by decide) rfl ?_
  intro p e s m args below meth c s₁ B hml hv
  obtain ⟨rfl, -⟩ := hv
  have hx := B.exec
  have hb := B.bytes
  have hr := B.returns
  have hts := atoms_spec (ws := wsX0_branchDistance) B.pre
  have hown : s.vm.findClass RX0 = some m.cls := findClass_of_methodNamed B.named
  have hlocks := B.notSynchronized
  have hP : va_P ((fun _ => 0), (fun _ _ => 0)) [] [] s.heap := fun k q h => by simp at h
  have hS : va_S (fun _ => False) s.heap s.heap [] := va_S.rf
  have hl := lv_entry ([.int wa]) (n := 1) (Nat.le_of_ble_eq_true rfl)
  rw [lg_entry_eq]
  generalize (lg_sl ([.int wa]) ++ List.replicate (1 - (lg_sl ([.int wa])).length) Slot.unset).toArray = ls at hl ⊢
  have hl : lv_has ls 1 [(0, .int wa)] := hl
  refine lv_iload_n hx hb dX0_branchDistance_0 rfl (lv_at hl 0 rfl) ?_
  refine lv_bipush (v := 31) hx hb dX0_branchDistance_1 (by decide) ?_
  refine lv_ishr hx hb dX0_branchDistance_3 ?_
  refine lv_bipush (v := 12) hx hb dX0_branchDistance_4 (by decide) ?_
  refine lv_ishl hx hb dX0_branchDistance_6 ?_
  refine lv_iload_n hx hb dX0_branchDistance_7 rfl (lv_at hl 0 rfl) ?_
  refine lv_bipush (v := 7) hx hb dX0_branchDistance_8 (by decide) ?_
  refine lv_iushr (v := i_ushr wa 7) hx hb dX0_branchDistance_10 rfl ?_
  refine lv_iconst (v := 1) hx hb dX0_branchDistance_11 (by decide) ?_
  refine lv_iand hx hb dX0_branchDistance_12 ?_
  refine lv_bipush (v := 11) hx hb dX0_branchDistance_13 (by decide) ?_
  refine lv_ishl hx hb dX0_branchDistance_15 ?_
  refine lv_ior hx hb dX0_branchDistance_16 ?_
  refine lv_iload_n hx hb dX0_branchDistance_17 rfl (lv_at hl 0 rfl) ?_
  refine lv_bipush (v := 25) hx hb dX0_branchDistance_18 (by decide) ?_
  refine lv_iushr (v := i_ushr wa 25) hx hb dX0_branchDistance_20 rfl ?_
  refine lv_bipush (v := 63) hx hb dX0_branchDistance_21 (by decide) ?_
  refine lv_iand hx hb dX0_branchDistance_23 ?_
  refine lv_iconst (v := 5) hx hb dX0_branchDistance_24 (by decide) ?_
  refine lv_ishl hx hb dX0_branchDistance_25 ?_
  refine lv_ior hx hb dX0_branchDistance_26 ?_
  refine lv_iload_n hx hb dX0_branchDistance_27 rfl (lv_at hl 0 rfl) ?_
  refine lv_bipush (v := 8) hx hb dX0_branchDistance_28 (by decide) ?_
  refine lv_iushr (v := i_ushr wa 8) hx hb dX0_branchDistance_30 rfl ?_
  refine lv_bipush (v := 15) hx hb dX0_branchDistance_31 (by decide) ?_
  refine lv_iand hx hb dX0_branchDistance_33 ?_
  refine lv_iconst (v := 1) hx hb dX0_branchDistance_34 (by decide) ?_
  refine lv_ishl hx hb dX0_branchDistance_35 ?_
  refine lv_ior hx hb dX0_branchDistance_36 ?_
  have e9 : S0_branchDistance wa = ((((wa >>> ((31 : Int32) &&& 31)) <<< ((12 : Int32) &&& 31)) ||| (((i_ushr wa 7) &&& 1) <<< ((11 : Int32) &&& 31))) ||| (((i_ushr wa 25) &&& 63) <<< ((5 : Int32) &&& 31))) ||| (((i_ushr wa 8) &&& 15) <<< ((1 : Int32) &&& 31)) := by rw [S0_branchDistance]
  exact W.iret (v := ((((wa >>> ((31 : Int32) &&& 31)) <<< ((12 : Int32) &&& 31)) ||| (((i_ushr wa 7) &&& 1) <<< ((11 : Int32) &&& 31))) ||| (((i_ushr wa 25) &&& 63) <<< ((5 : Int32) &&& 31))) ||| (((i_ushr wa 8) &&& 15) <<< ((1 : Int32) &&& 31))) hx hb hr (fun t ht hW => ⟨⟨((((wa >>> ((31 : Int32) &&& 31)) <<< ((12 : Int32) &&& 31)) ||| (((i_ushr wa 7) &&& 1) <<< ((11 : Int32) &&& 31))) ||| (((i_ushr wa 25) &&& 63) <<< ((5 : Int32) &&& 31))) ||| (((i_ushr wa 8) &&& 15) <<< ((1 : Int32) &&& 31)), (), rfl, e9.symm, trivial⟩, hS.F ht⟩) hS.2.2 dX0_branchDistance_37
theorem ctX0_jumpDistance_169 : Cond.constant RX0 169 (1044480) ∈ wsX0_jumpDistance := by decide +kernel
theorem hdX0_jumpDistance : yX0_jumpDistance.cls ≠ "java/lang/invoke/MethodHandle" ∧ yX0_jumpDistance.cls ≠ "java/lang/invoke/VarHandle" ∧ (parseMethodDescriptor yX0_jumpDistance.desc).map (fun d => d.parameters.length) = some 1 := by decide +kernel
set_option maxHeartbeats 4000000 in
set_option maxRecDepth 100000 in
theorem c0_jumpDistance (l : Launch) (wa : Int32)  : Pui l yX0_jumpDistance wsX0_jumpDistance 0 0 [.int wa] (S0_jumpDistance wa) := by
  refine Met.ofW (cc := cX0_jumpDistance) (maxL := 1) (ret := (some .int)) (by decide) rfl ?_
  intro p e s m args below meth c s₁ B hml hv
  obtain ⟨rfl, -⟩ := hv
  have hx := B.exec
  have hb := B.bytes
  have hr := B.returns
  have hts := atoms_spec (ws := wsX0_jumpDistance) B.pre
  have hown : s.vm.findClass RX0 = some m.cls := findClass_of_methodNamed B.named
  have hlocks := B.notSynchronized
  have hP : va_P ((fun _ => 0), (fun _ _ => 0)) [] [] s.heap := fun k q h => by simp at h
  have hS : va_S (fun _ => False) s.heap s.heap [] := va_S.rf
  have hl := lv_entry ([.int wa]) (n := 1) (Nat.le_of_ble_eq_true rfl)
  rw [lg_entry_eq]
  generalize (lg_sl ([.int wa]) ++ List.replicate (1 - (lg_sl ([.int wa])).length) Slot.unset).toArray = ls at hl ⊢
  have hl : lv_has ls 1 [(0, .int wa)] := hl
  refine lv_iload_n hx hb dX0_jumpDistance_0 rfl (lv_at hl 0 rfl) ?_
  refine lv_bipush (v := 31) hx hb dX0_jumpDistance_1 (by decide) ?_
  refine lv_ishr hx hb dX0_jumpDistance_3 ?_
  refine lv_bipush (v := 20) hx hb dX0_jumpDistance_4 (by decide) ?_
  refine lv_ishl hx hb dX0_jumpDistance_6 ?_
  refine lv_iload_n hx hb dX0_jumpDistance_7 rfl (lv_at hl 0 rfl) ?_
  refine lv_ldc hx hb hown (hts (.constant RX0 169 (1044480)) ctX0_jumpDistance_169) dX0_jumpDistance_8 ?_
  refine lv_iand hx hb dX0_jumpDistance_10 ?_
  refine lv_ior hx hb dX0_jumpDistance_11 ?_
  refine lv_iload_n hx hb dX0_jumpDistance_12 rfl (lv_at hl 0 rfl) ?_
  refine lv_bipush (v := 20) hx hb dX0_jumpDistance_13 (by decide) ?_
  refine lv_iushr (v := i_ushr wa 20) hx hb dX0_jumpDistance_15 rfl ?_
  refine lv_iconst (v := 1) hx hb dX0_jumpDistance_16 (by decide) ?_
  refine lv_iand hx hb dX0_jumpDistance_17 ?_
  refine lv_bipush (v := 11) hx hb dX0_jumpDistance_18 (by decide) ?_
  refine lv_ishl hx hb dX0_jumpDistance_20 ?_
  refine lv_ior hx hb dX0_jumpDistance_21 ?_
  refine lv_iload_n hx hb dX0_jumpDistance_22 rfl (lv_at hl 0 rfl) ?_
  refine lv_bipush (v := 21) hx hb dX0_jumpDistance_23 (by decide) ?_
  refine lv_iushr (v := i_ushr wa 21) hx hb dX0_jumpDistance_25 rfl ?_
  refine lv_sipush (v := 1023) hx hb dX0_jumpDistance_26 (by decide) ?_
  refine lv_iand hx hb dX0_jumpDistance_29 ?_
  refine lv_iconst (v := 1) hx hb dX0_jumpDistance_30 (by decide) ?_
  refine lv_ishl hx hb dX0_jumpDistance_31 ?_
  refine lv_ior hx hb dX0_jumpDistance_32 ?_
  have e9 : S0_jumpDistance wa = ((((wa >>> ((31 : Int32) &&& 31)) <<< ((20 : Int32) &&& 31)) ||| (wa &&& 1044480)) ||| (((i_ushr wa 20) &&& 1) <<< ((11 : Int32) &&& 31))) ||| (((i_ushr wa 21) &&& 1023) <<< ((1 : Int32) &&& 31)) := by rw [S0_jumpDistance]
  exact W.iret (v := ((((wa >>> ((31 : Int32) &&& 31)) <<< ((20 : Int32) &&& 31)) ||| (wa &&& 1044480)) ||| (((i_ushr wa 20) &&& 1) <<< ((11 : Int32) &&& 31))) ||| (((i_ushr wa 21) &&& 1023) <<< ((1 : Int32) &&& 31))) hx hb hr (fun t ht hW => ⟨⟨((((wa >>> ((31 : Int32) &&& 31)) <<< ((20 : Int32) &&& 31)) ||| (wa &&& 1044480)) ||| (((i_ushr wa 20) &&& 1) <<< ((11 : Int32) &&& 31))) ||| (((i_ushr wa 21) &&& 1023) <<< ((1 : Int32) &&& 31)), (), rfl, e9.symm, trivial⟩, hS.F ht⟩) hS.2.2 dX0_jumpDistance_33
theorem ctX0_unsigned_160 : Cond.constantLong RX0 160 (4294967295) ∈ wsX0_unsigned := by decide +kernel
theorem hdX0_unsigned : yX0_unsigned.cls ≠ "java/lang/invoke/MethodHandle" ∧ yX0_unsigned.cls ≠ "java/lang/invoke/VarHandle" ∧ (parseMethodDescriptor yX0_unsigned.desc).map (fun d => d.parameters.length) = some 1 := by decide +kernel
set_option maxHeartbeats 4000000 in
set_option maxRecDepth 100000 in
theorem c0_unsigned (l : Launch) (va : Int32)  : Pul l yX0_unsigned wsX0_unsigned 0 0 [.int va] (S0_unsigned va) := by
  refine Met.ofW (cc := cX0_unsigned) (maxL := 1) (ret := (some .long)) (by decide) rfl ?_
  intro p e s m args below meth c s₁ B hml hv
  obtain ⟨rfl, -⟩ := hv
  have hx := B.exec
  have hb := B.bytes
  have hr := B.returns
  have hts := atoms_spec (ws := wsX0_unsigned) B.pre
  have hown : s.vm.findClass RX0 = some m.cls := findClass_of_methodNamed B.named
  have hlocks := B.notSynchronized
  have hP : va_P ((fun _ => 0), (fun _ _ => 0)) [] [] s.heap := fun k q h => by simp at h
  have hS : va_S (fun _ => False) s.heap s.heap [] := va_S.rf
  have hl := lv_entry ([.int va]) (n := 1) (Nat.le_of_ble_eq_true rfl)
  rw [lg_entry_eq]
  generalize (lg_sl ([.int va]) ++ List.replicate (1 - (lg_sl ([.int va])).length) Slot.unset).toArray = ls at hl ⊢
  have hl : lv_has ls 1 [(0, .int va)] := hl
  refine lv_iload_n hx hb dX0_unsigned_0 rfl (lv_at hl 0 rfl) ?_
  refine lv_i2l (v := va.toInt64) hx hb dX0_unsigned_1 rfl ?_
  refine lv_ldc2 hx hb hown (hts (.constantLong RX0 160 (4294967295)) ctX0_unsigned_160) dX0_unsigned_2 ?_
  refine lv_land hx hb dX0_unsigned_5 ?_
  have e9 : S0_unsigned va = va.toInt64 &&& 4294967295 := by rw [S0_unsigned]
  exact W.lret (v := va.toInt64 &&& 4294967295) hx hb hr (fun t ht hW => ⟨⟨va.toInt64 &&& 4294967295, (), rfl, e9.symm, trivial⟩, hS.F ht⟩) hS.2.2 dX0_unsigned_6
theorem hdX0_plain : yX0_plain.cls ≠ "java/lang/invoke/MethodHandle" ∧ yX0_plain.cls ≠ "java/lang/invoke/VarHandle" ∧ (parseMethodDescriptor yX0_plain.desc).map (fun d => d.parameters.length) = some 3 := by decide +kernel
set_option maxHeartbeats 4000000 in
set_option maxRecDepth 100000 in
theorem c0_plain (l : Launch) (ta : Int32) (xa : Int32) (ya : Int32)  : Pui l yX0_plain wsX0_plain 1 20 [.int ta, .int xa, .int ya] (S0_plain ta xa ya) := by
  refine Met.ofW (cc := cX0_plain) (maxL := 3) (ret := (some .int)) (by decide) rfl ?_
  intro p e s m args below meth c s₁ B hml hv
  obtain ⟨rfl, -⟩ := hv
  have hx := B.exec
  have hb := B.bytes
  have hr := B.returns
  have hts := atoms_spec (ws := wsX0_plain) B.pre
  have hown : s.vm.findClass RX0 = some m.cls := findClass_of_methodNamed B.named
  have hlocks := B.notSynchronized
  have hP : va_P ((fun _ => 0), (fun _ _ => 0)) [] [] s.heap := fun k q h => by simp at h
  have hS : va_S (fun _ => False) s.heap s.heap [] := va_S.rf
  have hl := lv_entry ([.int ta, .int xa, .int ya]) (n := 3) (Nat.le_of_ble_eq_true rfl)
  rw [lg_entry_eq]
  generalize (lg_sl ([.int ta, .int xa, .int ya]) ++ List.replicate (3 - (lg_sl ([.int ta, .int xa, .int ya])).length) Slot.unset).toArray = ls at hl ⊢
  have hl : lv_has ls 3 [(0, .int ta), (1, .int xa), (2, .int ya)] := hl
  refine lv_iload_n hx hb dX0_plain_0 rfl (lv_at hl 0 rfl) ?_
  by_cases c1 : ta = 0
  · refine lv_tableIn (tgt := 44) hx hb dX0_plain_1 (by rw [c1]; decide) (by rw [c1]; decide) (by rw [c1]; rfl) (by decide) ?_
    refine lv_iload_n hx hb dX0_plain_44 rfl (lv_at hl 1 rfl) ?_
    refine lv_iload_n hx hb dX0_plain_45 rfl (lv_at hl 2 rfl) ?_
    refine lv_iadd hx hb dX0_plain_46 ?_
    have e9 : S0_plain ta xa ya = xa + ya := by rw [S0_plain, if_pos c1]
    exact W.iret (v := xa + ya) hx hb hr (fun t ht hW => ⟨⟨xa + ya, (), rfl, e9.symm, trivial⟩, hS.F ht⟩) hS.2.2 dX0_plain_47
  · skip
    by_cases c2 : ta = 1
    · refine lv_tableIn (tgt := 48) hx hb dX0_plain_1 (by rw [c2]; decide) (by rw [c2]; decide) (by rw [c2]; rfl) (by decide) ?_
      refine lv_iload_n hx hb dX0_plain_48 rfl (lv_at hl 1 rfl) ?_
      refine lv_iload_n hx hb dX0_plain_49 rfl (lv_at hl 2 rfl) ?_
      refine lv_bipush (v := 31) hx hb dX0_plain_50 (by decide) ?_
      refine lv_iand hx hb dX0_plain_52 ?_
      refine lv_ishl hx hb dX0_plain_53 ?_
      have e9 : S0_plain ta xa ya = xa <<< ((ya &&& 31) &&& 31) := by rw [S0_plain, if_neg c1, if_pos c2]
      exact W.iret (v := xa <<< ((ya &&& 31) &&& 31)) hx hb hr (fun t ht hW => ⟨⟨xa <<< ((ya &&& 31) &&& 31), (), rfl, e9.symm, trivial⟩, hS.F ht⟩) hS.2.2 dX0_plain_54
    · skip
      by_cases c3 : ta = 2
      · refine lv_tableIn (tgt := 55) hx hb dX0_plain_1 (by rw [c3]; decide) (by rw [c3]; decide) (by rw [c3]; rfl) (by decide) ?_
        refine lv_iload_n hx hb dX0_plain_55 rfl (lv_at hl 1 rfl) ?_
        refine lv_iload_n hx hb dX0_plain_56 rfl (lv_at hl 2 rfl) ?_
        refine lv_icmp_ge (tgt := 64) hx hb dX0_plain_57 (by decide) (fun (c4 : ya ≤ xa) => ?_) (fun (c4 : ¬ ya ≤ xa) => ?_)
        · refine lv_iconst (v := 0) hx hb dX0_plain_64 (by decide) ?_
          have e9 : S0_plain ta xa ya = (0 : Int32) := by rw [S0_plain, if_neg c1, if_neg c2, if_pos c3, if_pos c4]
          exact W.iret (v := (0 : Int32)) hx hb hr (fun t ht hW => ⟨⟨(0 : Int32), (), rfl, e9.symm, trivial⟩, hS.F ht⟩) hS.2.2 dX0_plain_65
        · refine lv_iconst (v := 1) hx hb dX0_plain_60 (by decide) ?_
          refine lv_goto (tgt := 65) hx hb dX0_plain_61 (by decide) ?_
          have e9 : S0_plain ta xa ya = (1 : Int32) := by rw [S0_plain, if_neg c1, if_neg c2, if_pos c3, if_neg c4]
          exact W.iret (v := (1 : Int32)) hx hb hr (fun t ht hW => ⟨⟨(1 : Int32), (), rfl, e9.symm, trivial⟩, hS.F ht⟩) hS.2.2 dX0_plain_65
      · skip
        by_cases c5 : ta = 3
        · refine lv_tableIn (tgt := 66) hx hb dX0_plain_1 (by rw [c5]; decide) (by rw [c5]; decide) (by rw [c5]; rfl) (by decide) ?_
          refine lv_iload_n hx hb dX0_plain_66 rfl (lv_at hl 1 rfl) ?_
          refine pu_l (v := S0_unsigned xa) (As := [.int xa]) (rest := []) ⟨hx, hb, hml, hown, hts⟩ (c0_unsigned l xa ) gX0_plain_X0_unsigned rfl hdX0_unsigned ⟨Nat.le_of_ble_eq_true rfl, Nat.le_of_ble_eq_true rfl⟩ hl.1 rfl (Nat.le_of_ble_eq_true rfl) dX0_plain_67 ⟨Nat.zero_le _, Nat.zero_le _⟩ hP hS (fun H locs hP hS => ?_)
          refine lv_iload_n hx hb dX0_plain_70 rfl (lv_at hl 2 rfl) ?_
          refine pu_l (v := S0_unsigned ya) (As := [.int ya]) (rest := [.long (S0_unsigned xa)]) ⟨hx, hb, hml, hown, hts⟩ (c0_unsigned l ya ) gX0_plain_X0_unsigned rfl hdX0_unsigned ⟨Nat.le_of_ble_eq_true rfl, Nat.le_of_ble_eq_true rfl⟩ hl.1 rfl (Nat.le_of_ble_eq_true rfl) dX0_plain_71 ⟨Nat.zero_le _, Nat.zero_le _⟩ hP hS (fun H locs hP hS => ?_)
          refine W.lcmp hx hb dX0_plain_74 ?_
          refine lv_if_ge (tgt := 82) hx hb dX0_plain_75 (by decide) (fun (c6 : 0 ≤ (lg_cmp (S0_unsigned xa) (S0_unsigned ya))) => ?_) (fun (c6 : ¬ 0 ≤ (lg_cmp (S0_unsigned xa) (S0_unsigned ya))) => ?_)
          · refine lv_iconst (v := 0) hx hb dX0_plain_82 (by decide) ?_
            have e9 : S0_plain ta xa ya = (0 : Int32) := by rw [S0_plain, if_neg c1, if_neg c2, if_neg c3, if_pos c5, if_pos c6]
            exact W.iret (v := (0 : Int32)) hx hb hr (fun t ht hW => ⟨⟨(0 : Int32), (), rfl, e9.symm, trivial⟩, hS.F ht⟩) hS.2.2 dX0_plain_83
          · refine lv_iconst (v := 1) hx hb dX0_plain_78 (by decide) ?_
            refine lv_goto (tgt := 83) hx hb dX0_plain_79 (by decide) ?_
            have e9 : S0_plain ta xa ya = (1 : Int32) := by rw [S0_plain, if_neg c1, if_neg c2, if_neg c3, if_pos c5, if_neg c6]
            exact W.iret (v := (1 : Int32)) hx hb hr (fun t ht hW => ⟨⟨(1 : Int32), (), rfl, e9.symm, trivial⟩, hS.F ht⟩) hS.2.2 dX0_plain_83
        · skip
          by_cases c7 : ta = 4
          · refine lv_tableIn (tgt := 84) hx hb dX0_plain_1 (by rw [c7]; decide) (by rw [c7]; decide) (by rw [c7]; rfl) (by decide) ?_
            refine lv_iload_n hx hb dX0_plain_84 rfl (lv_at hl 1 rfl) ?_
            refine lv_iload_n hx hb dX0_plain_85 rfl (lv_at hl 2 rfl) ?_
            refine lv_ixor hx hb dX0_plain_86 ?_
            have e9 : S0_plain ta xa ya = xa ^^^ ya := by rw [S0_plain, if_neg c1, if_neg c2, if_neg c3, if_neg c5, if_pos c7]
            exact W.iret (v := xa ^^^ ya) hx hb hr (fun t ht hW => ⟨⟨xa ^^^ ya, (), rfl, e9.symm, trivial⟩, hS.F ht⟩) hS.2.2 dX0_plain_87
          · skip
            by_cases c8 : ta = 5
            · refine lv_tableIn (tgt := 88) hx hb dX0_plain_1 (by rw [c8]; decide) (by rw [c8]; decide) (by rw [c8]; rfl) (by decide) ?_
              refine lv_iload_n hx hb dX0_plain_88 rfl (lv_at hl 1 rfl) ?_
              refine lv_iload_n hx hb dX0_plain_89 rfl (lv_at hl 2 rfl) ?_
              refine lv_bipush (v := 31) hx hb dX0_plain_90 (by decide) ?_
              refine lv_iand hx hb dX0_plain_92 ?_
              refine lv_iushr (v := i_ushr xa (ya &&& 31)) hx hb dX0_plain_93 rfl ?_
              have e9 : S0_plain ta xa ya = i_ushr xa (ya &&& 31) := by rw [S0_plain, if_neg c1, if_neg c2, if_neg c3, if_neg c5, if_neg c7, if_pos c8]
              exact W.iret (v := i_ushr xa (ya &&& 31)) hx hb hr (fun t ht hW => ⟨⟨i_ushr xa (ya &&& 31), (), rfl, e9.symm, trivial⟩, hS.F ht⟩) hS.2.2 dX0_plain_94
            · skip
              by_cases c9 : ta = 6
              · refine lv_tableIn (tgt := 95) hx hb dX0_plain_1 (by rw [c9]; decide) (by rw [c9]; decide) (by rw [c9]; rfl) (by decide) ?_
                refine lv_iload_n hx hb dX0_plain_95 rfl (lv_at hl 1 rfl) ?_
                refine lv_iload_n hx hb dX0_plain_96 rfl (lv_at hl 2 rfl) ?_
                refine lv_ior hx hb dX0_plain_97 ?_
                have e9 : S0_plain ta xa ya = xa ||| ya := by rw [S0_plain, if_neg c1, if_neg c2, if_neg c3, if_neg c5, if_neg c7, if_neg c8, if_pos c9]
                exact W.iret (v := xa ||| ya) hx hb hr (fun t ht hW => ⟨⟨xa ||| ya, (), rfl, e9.symm, trivial⟩, hS.F ht⟩) hS.2.2 dX0_plain_98
              · skip
                refine lv_tableOut (tgt := 99) hx hb dX0_plain_1 (by have nc1 := lv_neT c1 (show (0 : Int32).toInt = 0 from by decide); have nc2 := lv_neT c2 (show (1 : Int32).toInt = 1 from by decide); have nc3 := lv_neT c3 (show (2 : Int32).toInt = 2 from by decide); have nc5 := lv_neT c5 (show (3 : Int32).toInt = 3 from by decide); have nc7 := lv_neT c7 (show (4 : Int32).toInt = 4 from by decide); have nc8 := lv_neT c8 (show (5 : Int32).toInt = 5 from by decide); have nc9 := lv_neT c9 (show (6 : Int32).toInt = 6 from by decide); omega) (by decide) ?_
                refine lv_iload_n hx hb dX0_plain_99 rfl (lv_at hl 1 rfl) ?_
                refine lv_iload_n hx hb dX0_plain_100 rfl (lv_at hl 2 rfl) ?_
                refine lv_iand hx hb dX0_plain_101 ?_
                have e9 : S0_plain ta xa ya = xa &&& ya := by rw [S0_plain, if_neg c1, if_neg c2, if_neg c3, if_neg c5, if_neg c7, if_neg c8, if_neg c9]
                exact W.iret (v := xa &&& ya) hx hb hr (fun t ht hW => ⟨⟨xa &&& ya, (), rfl, e9.symm, trivial⟩, hS.F ht⟩) hS.2.2 dX0_plain_102
theorem hdX0_movedRightWithSign : yX0_movedRightWithSign.cls ≠ "java/lang/invoke/MethodHandle" ∧ yX0_movedRightWithSign.cls ≠ "java/lang/invoke/VarHandle" ∧ (parseMethodDescriptor yX0_movedRightWithSign.desc).map (fun d => d.parameters.length) = some 2 := by decide +kernel
set_option maxHeartbeats 4000000 in
set_option maxRecDepth 100000 in
theorem c0_movedRightWithSign (l : Launch) (xa : Int32) (ya : Int32)  : Pui l yX0_movedRightWithSign wsX0_movedRightWithSign 0 0 [.int xa, .int ya] (S0_movedRightWithSign xa ya) := by
  refine Met.ofW (cc := cX0_movedRightWithSign) (maxL := 2) (ret := (some .int)) (by decide) rfl ?_
  intro p e s m args below meth c s₁ B hml hv
  obtain ⟨rfl, -⟩ := hv
  have hx := B.exec
  have hb := B.bytes
  have hr := B.returns
  have hts := atoms_spec (ws := wsX0_movedRightWithSign) B.pre
  have hown : s.vm.findClass RX0 = some m.cls := findClass_of_methodNamed B.named
  have hlocks := B.notSynchronized
  have hP : va_P ((fun _ => 0), (fun _ _ => 0)) [] [] s.heap := fun k q h => by simp at h
  have hS : va_S (fun _ => False) s.heap s.heap [] := va_S.rf
  have hl := lv_entry ([.int xa, .int ya]) (n := 2) (Nat.le_of_ble_eq_true rfl)
  rw [lg_entry_eq]
  generalize (lg_sl ([.int xa, .int ya]) ++ List.replicate (2 - (lg_sl ([.int xa, .int ya])).length) Slot.unset).toArray = ls at hl ⊢
  have hl : lv_has ls 2 [(0, .int xa), (1, .int ya)] := hl
  refine lv_iload_n hx hb dX0_movedRightWithSign_0 rfl (lv_at hl 0 rfl) ?_
  refine lv_iload_n hx hb dX0_movedRightWithSign_1 rfl (lv_at hl 1 rfl) ?_
  refine lv_bipush (v := 31) hx hb dX0_movedRightWithSign_2 (by decide) ?_
  refine lv_iand hx hb dX0_movedRightWithSign_4 ?_
  refine lv_ishr hx hb dX0_movedRightWithSign_5 ?_
  have e9 : S0_movedRightWithSign xa ya = xa >>> ((ya &&& 31) &&& 31) := by rw [S0_movedRightWithSign]
  exact W.iret (v := xa >>> ((ya &&& 31) &&& 31)) hx hb hr (fun t ht hW => ⟨⟨xa >>> ((ya &&& 31) &&& 31), (), rfl, e9.symm, trivial⟩, hS.F ht⟩) hS.2.2 dX0_movedRightWithSign_6
theorem hdX0_upperOfProduct : yX0_upperOfProduct.cls ≠ "java/lang/invoke/MethodHandle" ∧ yX0_upperOfProduct.cls ≠ "java/lang/invoke/VarHandle" ∧ (parseMethodDescriptor yX0_upperOfProduct.desc).map (fun d => d.parameters.length) = some 2 := by decide +kernel
set_option maxHeartbeats 4000000 in
set_option maxRecDepth 100000 in
theorem c0_upperOfProduct (l : Launch) (xa : Int64) (ya : Int64)  : Pui l yX0_upperOfProduct wsX0_upperOfProduct 0 0 [.long xa, .long ya] (S0_upperOfProduct xa ya) := by
  refine Met.ofW (cc := cX0_upperOfProduct) (maxL := 4) (ret := (some .int)) (by decide) rfl ?_
  intro p e s m args below meth c s₁ B hml hv
  obtain ⟨rfl, -⟩ := hv
  have hx := B.exec
  have hb := B.bytes
  have hr := B.returns
  have hts := atoms_spec (ws := wsX0_upperOfProduct) B.pre
  have hown : s.vm.findClass RX0 = some m.cls := findClass_of_methodNamed B.named
  have hlocks := B.notSynchronized
  have hP : va_P ((fun _ => 0), (fun _ _ => 0)) [] [] s.heap := fun k q h => by simp at h
  have hS : va_S (fun _ => False) s.heap s.heap [] := va_S.rf
  have hl := lv_entry ([.long xa, .long ya]) (n := 4) (Nat.le_of_ble_eq_true rfl)
  rw [lg_entry_eq]
  generalize (lg_sl ([.long xa, .long ya]) ++ List.replicate (4 - (lg_sl ([.long xa, .long ya])).length) Slot.unset).toArray = ls at hl ⊢
  have hl : lv_has ls 4 [(0, .long xa), (2, .long ya)] := hl
  refine lv_lload_n hx hb dX0_upperOfProduct_0 rfl (lv_at hl 0 rfl) ?_
  refine lv_lload_n hx hb dX0_upperOfProduct_1 rfl (lv_at hl 1 rfl) ?_
  refine lv_lmul hx hb dX0_upperOfProduct_2 ?_
  refine lv_bipush (v := 32) hx hb dX0_upperOfProduct_3 (by decide) ?_
  refine lv_lushr (v := l_ushr (xa * ya) 32) hx hb dX0_upperOfProduct_5 rfl ?_
  refine lv_l2i (v := (l_ushr (xa * ya) 32).toInt32) hx hb dX0_upperOfProduct_6 rfl ?_
  have e9 : S0_upperOfProduct xa ya = (l_ushr (xa * ya) 32).toInt32 := by rw [S0_upperOfProduct]
  exact W.iret (v := (l_ushr (xa * ya) 32).toInt32) hx hb hr (fun t ht hW => ⟨⟨(l_ushr (xa * ya) 32).toInt32, (), rfl, e9.symm, trivial⟩, hS.F ht⟩) hS.2.2 dX0_upperOfProduct_7
theorem hdX0_quotient : yX0_quotient.cls ≠ "java/lang/invoke/MethodHandle" ∧ yX0_quotient.cls ≠ "java/lang/invoke/VarHandle" ∧ (parseMethodDescriptor yX0_quotient.desc).map (fun d => d.parameters.length) = some 2 := by decide +kernel
set_option maxHeartbeats 4000000 in
set_option maxRecDepth 100000 in
theorem c0_quotient (l : Launch) (xa : Int64) (ya : Int64)  : Pui l yX0_quotient wsX0_quotient 0 0 [.long xa, .long ya] (S0_quotient xa ya) := by
  refine Met.ofW (cc := cX0_quotient) (maxL := 4) (ret := (some .int)) (by decide) rfl ?_
  intro p e s m args below meth c s₁ B hml hv
  obtain ⟨rfl, -⟩ := hv
  have hx := B.exec
  have hb := B.bytes
  have hr := B.returns
  have hts := atoms_spec (ws := wsX0_quotient) B.pre
  have hown : s.vm.findClass RX0 = some m.cls := findClass_of_methodNamed B.named
  have hlocks := B.notSynchronized
  have hP : va_P ((fun _ => 0), (fun _ _ => 0)) [] [] s.heap := fun k q h => by simp at h
  have hS : va_S (fun _ => False) s.heap s.heap [] := va_S.rf
  have hl := lv_entry ([.long xa, .long ya]) (n := 4) (Nat.le_of_ble_eq_true rfl)
  rw [lg_entry_eq]
  generalize (lg_sl ([.long xa, .long ya]) ++ List.replicate (4 - (lg_sl ([.long xa, .long ya])).length) Slot.unset).toArray = ls at hl ⊢
  have hl : lv_has ls 4 [(0, .long xa), (2, .long ya)] := hl
  refine lv_lload_n hx hb dX0_quotient_0 rfl (lv_at hl 1 rfl) ?_
  refine lv_lconst (v := 0) hx hb dX0_quotient_1 (by decide) ?_
  refine W.lcmp hx hb dX0_quotient_2 ?_
  refine lv_if_ne (tgt := 10) hx hb dX0_quotient_3 (by decide) (fun (c1 : ¬ (lg_cmp ya 0) = 0) => ?_) (fun (c1 : (lg_cmp ya 0) = 0) => ?_)
  · refine lv_lload_n hx hb dX0_quotient_10 rfl (lv_at hl 0 rfl) ?_
    refine lv_lload_n hx hb dX0_quotient_11 rfl (lv_at hl 1 rfl) ?_
    refine lv_ldiv hx hb dX0_quotient_12 (cmp_ne c1) ?_
    refine lv_l2i (v := (xa / ya).toInt32) hx hb dX0_quotient_13 rfl ?_
    have e9 : S0_quotient xa ya = (xa / ya).toInt32 := by rw [S0_quotient, if_neg c1]
    exact W.iret (v := (xa / ya).toInt32) hx hb hr (fun t ht hW => ⟨⟨(xa / ya).toInt32, (), rfl, e9.symm, trivial⟩, hS.F ht⟩) hS.2.2 dX0_quotient_14
  · refine lv_iconst (v := (-1)) hx hb dX0_quotient_6 (by decide) ?_
    refine lv_goto (tgt := 14) hx hb dX0_quotient_7 (by decide) ?_
    have e9 : S0_quotient xa ya = ((-1) : Int32) := by rw [S0_quotient, if_pos c1]
    exact W.iret (v := ((-1) : Int32)) hx hb hr (fun t ht hW => ⟨⟨((-1) : Int32), (), rfl, e9.symm, trivial⟩, hS.F ht⟩) hS.2.2 dX0_quotient_14
theorem hdX0_rest : yX0_rest.cls ≠ "java/lang/invoke/MethodHandle" ∧ yX0_rest.cls ≠ "java/lang/invoke/VarHandle" ∧ (parseMethodDescriptor yX0_rest.desc).map (fun d => d.parameters.length) = some 2 := by decide +kernel
set_option maxHeartbeats 4000000 in
set_option maxRecDepth 100000 in
theorem c0_rest (l : Launch) (xa : Int64) (ya : Int64)  : Pui l yX0_rest wsX0_rest 0 0 [.long xa, .long ya] (S0_rest xa ya) := by
  refine Met.ofW (cc := cX0_rest) (maxL := 4) (ret := (some .int)) (by decide) rfl ?_
  intro p e s m args below meth c s₁ B hml hv
  obtain ⟨rfl, -⟩ := hv
  have hx := B.exec
  have hb := B.bytes
  have hr := B.returns
  have hts := atoms_spec (ws := wsX0_rest) B.pre
  have hown : s.vm.findClass RX0 = some m.cls := findClass_of_methodNamed B.named
  have hlocks := B.notSynchronized
  have hP : va_P ((fun _ => 0), (fun _ _ => 0)) [] [] s.heap := fun k q h => by simp at h
  have hS : va_S (fun _ => False) s.heap s.heap [] := va_S.rf
  have hl := lv_entry ([.long xa, .long ya]) (n := 4) (Nat.le_of_ble_eq_true rfl)
  rw [lg_entry_eq]
  generalize (lg_sl ([.long xa, .long ya]) ++ List.replicate (4 - (lg_sl ([.long xa, .long ya])).length) Slot.unset).toArray = ls at hl ⊢
  have hl : lv_has ls 4 [(0, .long xa), (2, .long ya)] := hl
  refine lv_lload_n hx hb dX0_rest_0 rfl (lv_at hl 1 rfl) ?_
  refine lv_lconst (v := 0) hx hb dX0_rest_1 (by decide) ?_
  refine W.lcmp hx hb dX0_rest_2 ?_
  refine lv_if_ne (tgt := 11) hx hb dX0_rest_3 (by decide) (fun (c1 : ¬ (lg_cmp ya 0) = 0) => ?_) (fun (c1 : (lg_cmp ya 0) = 0) => ?_)
  · refine lv_lload_n hx hb dX0_rest_11 rfl (lv_at hl 0 rfl) ?_
    refine lv_lload_n hx hb dX0_rest_12 rfl (lv_at hl 1 rfl) ?_
    refine lv_lrem hx hb dX0_rest_13 (cmp_ne c1) ?_
    refine lv_l2i (v := (xa - xa / ya * ya).toInt32) hx hb dX0_rest_14 rfl ?_
    have e9 : S0_rest xa ya = (xa - xa / ya * ya).toInt32 := by rw [S0_rest, if_neg c1]
    exact W.iret (v := (xa - xa / ya * ya).toInt32) hx hb hr (fun t ht hW => ⟨⟨(xa - xa / ya * ya).toInt32, (), rfl, e9.symm, trivial⟩, hS.F ht⟩) hS.2.2 dX0_rest_15
  · refine lv_lload_n hx hb dX0_rest_6 rfl (lv_at hl 0 rfl) ?_
    refine lv_l2i (v := xa.toInt32) hx hb dX0_rest_7 rfl ?_
    refine lv_goto (tgt := 15) hx hb dX0_rest_8 (by decide) ?_
    have e9 : S0_rest xa ya = xa.toInt32 := by rw [S0_rest, if_pos c1]
    exact W.iret (v := xa.toInt32) hx hb hr (fun t ht hW => ⟨⟨xa.toInt32, (), rfl, e9.symm, trivial⟩, hS.F ht⟩) hS.2.2 dX0_rest_15
theorem hdX0_productOrQuotient : yX0_productOrQuotient.cls ≠ "java/lang/invoke/MethodHandle" ∧ yX0_productOrQuotient.cls ≠ "java/lang/invoke/VarHandle" ∧ (parseMethodDescriptor yX0_productOrQuotient.desc).map (fun d => d.parameters.length) = some 3 := by decide +kernel
set_option maxHeartbeats 4000000 in
set_option maxRecDepth 100000 in
theorem c0_productOrQuotient (l : Launch) (ta : Int32) (xa : Int32) (ya : Int32)  : Pui l yX0_productOrQuotient wsX0_productOrQuotient 1 23 [.int ta, .int xa, .int ya] (S0_productOrQuotient ta xa ya) := by
  refine Met.ofW (cc := cX0_productOrQuotient) (maxL := 3) (ret := (some .int)) (by decide) rfl ?_
  intro p e s m args below meth c s₁ B hml hv
  obtain ⟨rfl, -⟩ := hv
  have hx := B.exec
  have hb := B.bytes
  have hr := B.returns
  have hts := atoms_spec (ws := wsX0_productOrQuotient) B.pre
  have hown : s.vm.findClass RX0 = some m.cls := findClass_of_methodNamed B.named
  have hlocks := B.notSynchronized
  have hP : va_P ((fun _ => 0), (fun _ _ => 0)) [] [] s.heap := fun k q h => by simp at h
  have hS : va_S (fun _ => False) s.heap s.heap [] := va_S.rf
  have hl := lv_entry ([.int ta, .int xa, .int ya]) (n := 3) (Nat.le_of_ble_eq_true rfl)
  rw [lg_entry_eq]
  generalize (lg_sl ([.int ta, .int xa, .int ya]) ++ List.replicate (3 - (lg_sl ([.int ta, .int xa, .int ya])).length) Slot.unset).toArray = ls at hl ⊢
  have hl : lv_has ls 3 [(0, .int ta), (1, .int xa), (2, .int ya)] := hl
  refine lv_iload_n hx hb dX0_productOrQuotient_0 rfl (lv_at hl 0 rfl) ?_
  by_cases c1 : ta = 0
  · refine lv_tableIn (tgt := 44) hx hb dX0_productOrQuotient_1 (by rw [c1]; decide) (by rw [c1]; decide) (by rw [c1]; rfl) (by decide) ?_
    refine lv_iload_n hx hb dX0_productOrQuotient_44 rfl (lv_at hl 1 rfl) ?_
    refine lv_iload_n hx hb dX0_productOrQuotient_45 rfl (lv_at hl 2 rfl) ?_
    refine lv_imul hx hb dX0_productOrQuotient_46 ?_
    have e9 : S0_productOrQuotient ta xa ya = xa * ya := by rw [S0_productOrQuotient, if_pos c1]
    exact W.iret (v := xa * ya) hx hb hr (fun t ht hW => ⟨⟨xa * ya, (), rfl, e9.symm, trivial⟩, hS.F ht⟩) hS.2.2 dX0_productOrQuotient_47
  · skip
    by_cases c2 : ta = 1
    · refine lv_tableIn (tgt := 48) hx hb dX0_productOrQuotient_1 (by rw [c2]; decide) (by rw [c2]; decide) (by rw [c2]; rfl) (by decide) ?_
      refine lv_iload_n hx hb dX0_productOrQuotient_48 rfl (lv_at hl 1 rfl) ?_
      refine lv_i2l (v := xa.toInt64) hx hb dX0_productOrQuotient_49 rfl ?_
      refine lv_iload_n hx hb dX0_productOrQuotient_50 rfl (lv_at hl 2 rfl) ?_
      refine lv_i2l (v := ya.toInt64) hx hb dX0_productOrQuotient_51 rfl ?_
      refine pu_i (v := S0_upperOfProduct xa.toInt64 ya.toInt64) (As := [.long xa.toInt64, .long ya.toInt64]) (rest := []) ⟨hx, hb, hml, hown, hts⟩ (c0_upperOfProduct l xa.toInt64 ya.toInt64 ) gX0_productOrQuotient_X0_upperOfProduct rfl hdX0_upperOfProduct ⟨Nat.le_of_ble_eq_true rfl, Nat.le_of_ble_eq_true rfl⟩ hl.1 rfl (Nat.le_of_ble_eq_true rfl) dX0_productOrQuotient_52 ⟨Nat.zero_le _, Nat.zero_le _⟩ hP hS (fun H locs hP hS => ?_)
      have e9 : S0_productOrQuotient ta xa ya = S0_upperOfProduct xa.toInt64 ya.toInt64 := by rw [S0_productOrQuotient, if_neg c1, if_pos c2]
      exact W.iret (v := S0_upperOfProduct xa.toInt64 ya.toInt64) hx hb hr (fun t ht hW => ⟨⟨S0_upperOfProduct xa.toInt64 ya.toInt64, (), rfl, e9.symm, trivial⟩, hS.F ht⟩) hS.2.2 dX0_productOrQuotient_55
    · skip
      by_cases c3 : ta = 2
      · refine lv_tableIn (tgt := 56) hx hb dX0_productOrQuotient_1 (by rw [c3]; decide) (by rw [c3]; decide) (by rw [c3]; rfl) (by decide) ?_
        refine lv_iload_n hx hb dX0_productOrQuotient_56 rfl (lv_at hl 1 rfl) ?_
        refine lv_i2l (v := xa.toInt64) hx hb dX0_productOrQuotient_57 rfl ?_
        refine lv_iload_n hx hb dX0_productOrQuotient_58 rfl (lv_at hl 2 rfl) ?_
        refine pu_l (v := S0_unsigned ya) (As := [.int ya]) (rest := [.long xa.toInt64]) ⟨hx, hb, hml, hown, hts⟩ (c0_unsigned l ya ) gX0_productOrQuotient_X0_unsigned rfl hdX0_unsigned ⟨Nat.le_of_ble_eq_true rfl, Nat.le_of_ble_eq_true rfl⟩ hl.1 rfl (Nat.le_of_ble_eq_true rfl) dX0_productOrQuotient_59 ⟨Nat.zero_le _, Nat.zero_le _⟩ hP hS (fun H locs hP hS => ?_)
        refine pu_i (v := S0_upperOfProduct xa.toInt64 (S0_unsigned ya)) (As := [.long xa.toInt64, .long (S0_unsigned ya)]) (rest := []) ⟨hx, hb, hml, hown, hts⟩ (c0_upperOfProduct l xa.toInt64 (S0_unsigned ya) ) gX0_productOrQuotient_X0_upperOfProduct rfl hdX0_upperOfProduct ⟨Nat.le_of_ble_eq_true rfl, Nat.le_of_ble_eq_true rfl⟩ hl.1 rfl (Nat.le_of_ble_eq_true rfl) dX0_productOrQuotient_62 ⟨Nat.zero_le _, Nat.zero_le _⟩ hP hS (fun H locs hP hS => ?_)
        have e9 : S0_productOrQuotient ta xa ya = S0_upperOfProduct xa.toInt64 (S0_unsigned ya) := by rw [S0_productOrQuotient, if_neg c1, if_neg c2, if_pos c3]
        exact W.iret (v := S0_upperOfProduct xa.toInt64 (S0_unsigned ya)) hx hb hr (fun t ht hW => ⟨⟨S0_upperOfProduct xa.toInt64 (S0_unsigned ya), (), rfl, e9.symm, trivial⟩, hS.F ht⟩) hS.2.2 dX0_productOrQuotient_65
      · skip
        by_cases c4 : ta = 3
        · refine lv_tableIn (tgt := 66) hx hb dX0_productOrQuotient_1 (by rw [c4]; decide) (by rw [c4]; decide) (by rw [c4]; rfl) (by decide) ?_
          refine lv_iload_n hx hb dX0_productOrQuotient_66 rfl (lv_at hl 1 rfl) ?_
          refine pu_l (v := S0_unsigned xa) (As := [.int xa]) (rest := []) ⟨hx, hb, hml, hown, hts⟩ (c0_unsigned l xa ) gX0_productOrQuotient_X0_unsigned rfl hdX0_unsigned ⟨Nat.le_of_ble_eq_true rfl, Nat.le_of_ble_eq_true rfl⟩ hl.1 rfl (Nat.le_of_ble_eq_true rfl) dX0_productOrQuotient_67 ⟨Nat.zero_le _, Nat.zero_le _⟩ hP hS (fun H locs hP hS => ?_)
          refine lv_iload_n hx hb dX0_productOrQuotient_70 rfl (lv_at hl 2 rfl) ?_
          refine pu_l (v := S0_unsigned ya) (As := [.int ya]) (rest := [.long (S0_unsigned xa)]) ⟨hx, hb, hml, hown, hts⟩ (c0_unsigned l ya ) gX0_productOrQuotient_X0_unsigned rfl hdX0_unsigned ⟨Nat.le_of_ble_eq_true rfl, Nat.le_of_ble_eq_true rfl⟩ hl.1 rfl (Nat.le_of_ble_eq_true rfl) dX0_productOrQuotient_71 ⟨Nat.zero_le _, Nat.zero_le _⟩ hP hS (fun H locs hP hS => ?_)
          refine pu_i (v := S0_upperOfProduct (S0_unsigned xa) (S0_unsigned ya)) (As := [.long (S0_unsigned xa), .long (S0_unsigned ya)]) (rest := []) ⟨hx, hb, hml, hown, hts⟩ (c0_upperOfProduct l (S0_unsigned xa) (S0_unsigned ya) ) gX0_productOrQuotient_X0_upperOfProduct rfl hdX0_upperOfProduct ⟨Nat.le_of_ble_eq_true rfl, Nat.le_of_ble_eq_true rfl⟩ hl.1 rfl (Nat.le_of_ble_eq_true rfl) dX0_productOrQuotient_74 ⟨Nat.zero_le _, Nat.zero_le _⟩ hP hS (fun H locs hP hS => ?_)
          have e9 : S0_productOrQuotient ta xa ya = S0_upperOfProduct (S0_unsigned xa) (S0_unsigned ya) := by rw [S0_productOrQuotient, if_neg c1, if_neg c2, if_neg c3, if_pos c4]
          exact W.iret (v := S0_upperOfProduct (S0_unsigned xa) (S0_unsigned ya)) hx hb hr (fun t ht hW => ⟨⟨S0_upperOfProduct (S0_unsigned xa) (S0_unsigned ya), (), rfl, e9.symm, trivial⟩, hS.F ht⟩) hS.2.2 dX0_productOrQuotient_77
        · skip
          by_cases c5 : ta = 4
          · refine lv_tableIn (tgt := 78) hx hb dX0_productOrQuotient_1 (by rw [c5]; decide) (by rw [c5]; decide) (by rw [c5]; rfl) (by decide) ?_
            refine lv_iload_n hx hb dX0_productOrQuotient_78 rfl (lv_at hl 1 rfl) ?_
            refine lv_i2l (v := xa.toInt64) hx hb dX0_productOrQuotient_79 rfl ?_
            refine lv_iload_n hx hb dX0_productOrQuotient_80 rfl (lv_at hl 2 rfl) ?_
            refine lv_i2l (v := ya.toInt64) hx hb dX0_productOrQuotient_81 rfl ?_
            refine pu_i (v := S0_quotient xa.toInt64 ya.toInt64) (As := [.long xa.toInt64, .long ya.toInt64]) (rest := []) ⟨hx, hb, hml, hown, hts⟩ (c0_quotient l xa.toInt64 ya.toInt64 ) gX0_productOrQuotient_X0_quotient rfl hdX0_quotient ⟨Nat.le_of_ble_eq_true rfl, Nat.le_of_ble_eq_true rfl⟩ hl.1 rfl (Nat.le_of_ble_eq_true rfl) dX0_productOrQuotient_82 ⟨Nat.zero_le _, Nat.zero_le _⟩ hP hS (fun H locs hP hS => ?_)
            have e9 : S0_productOrQuotient ta xa ya = S0_quotient xa.toInt64 ya.toInt64 := by rw [S0_productOrQuotient, if_neg c1, if_neg c2, if_neg c3, if_neg c4, if_pos c5]
            exact W.iret (v := S0_quotient xa.toInt64 ya.toInt64) hx hb hr (fun t ht hW => ⟨⟨S0_quotient xa.toInt64 ya.toInt64, (), rfl, e9.symm, trivial⟩, hS.F ht⟩) hS.2.2 dX0_productOrQuotient_85
          · skip
            by_cases c6 : ta = 5
            · refine lv_tableIn (tgt := 86) hx hb dX0_productOrQuotient_1 (by rw [c6]; decide) (by rw [c6]; decide) (by rw [c6]; rfl) (by decide) ?_
              refine lv_iload_n hx hb dX0_productOrQuotient_86 rfl (lv_at hl 1 rfl) ?_
              refine pu_l (v := S0_unsigned xa) (As := [.int xa]) (rest := []) ⟨hx, hb, hml, hown, hts⟩ (c0_unsigned l xa ) gX0_productOrQuotient_X0_unsigned rfl hdX0_unsigned ⟨Nat.le_of_ble_eq_true rfl, Nat.le_of_ble_eq_true rfl⟩ hl.1 rfl (Nat.le_of_ble_eq_true rfl) dX0_productOrQuotient_87 ⟨Nat.zero_le _, Nat.zero_le _⟩ hP hS (fun H locs hP hS => ?_)
              refine lv_iload_n hx hb dX0_productOrQuotient_90 rfl (lv_at hl 2 rfl) ?_
              refine pu_l (v := S0_unsigned ya) (As := [.int ya]) (rest := [.long (S0_unsigned xa)]) ⟨hx, hb, hml, hown, hts⟩ (c0_unsigned l ya ) gX0_productOrQuotient_X0_unsigned rfl hdX0_unsigned ⟨Nat.le_of_ble_eq_true rfl, Nat.le_of_ble_eq_true rfl⟩ hl.1 rfl (Nat.le_of_ble_eq_true rfl) dX0_productOrQuotient_91 ⟨Nat.zero_le _, Nat.zero_le _⟩ hP hS (fun H locs hP hS => ?_)
              refine pu_i (v := S0_quotient (S0_unsigned xa) (S0_unsigned ya)) (As := [.long (S0_unsigned xa), .long (S0_unsigned ya)]) (rest := []) ⟨hx, hb, hml, hown, hts⟩ (c0_quotient l (S0_unsigned xa) (S0_unsigned ya) ) gX0_productOrQuotient_X0_quotient rfl hdX0_quotient ⟨Nat.le_of_ble_eq_true rfl, Nat.le_of_ble_eq_true rfl⟩ hl.1 rfl (Nat.le_of_ble_eq_true rfl) dX0_productOrQuotient_94 ⟨Nat.zero_le _, Nat.zero_le _⟩ hP hS (fun H locs hP hS => ?_)
              have e9 : S0_productOrQuotient ta xa ya = S0_quotient (S0_unsigned xa) (S0_unsigned ya) := by rw [S0_productOrQuotient, if_neg c1, if_neg c2, if_neg c3, if_neg c4, if_neg c5, if_pos c6]
              exact W.iret (v := S0_quotient (S0_unsigned xa) (S0_unsigned ya)) hx hb hr (fun t ht hW => ⟨⟨S0_quotient (S0_unsigned xa) (S0_unsigned ya), (), rfl, e9.symm, trivial⟩, hS.F ht⟩) hS.2.2 dX0_productOrQuotient_97
            · skip
              by_cases c7 : ta = 6
              · refine lv_tableIn (tgt := 98) hx hb dX0_productOrQuotient_1 (by rw [c7]; decide) (by rw [c7]; decide) (by rw [c7]; rfl) (by decide) ?_
                refine lv_iload_n hx hb dX0_productOrQuotient_98 rfl (lv_at hl 1 rfl) ?_
                refine lv_i2l (v := xa.toInt64) hx hb dX0_productOrQuotient_99 rfl ?_
                refine lv_iload_n hx hb dX0_productOrQuotient_100 rfl (lv_at hl 2 rfl) ?_
                refine lv_i2l (v := ya.toInt64) hx hb dX0_productOrQuotient_101 rfl ?_
                refine pu_i (v := S0_rest xa.toInt64 ya.toInt64) (As := [.long xa.toInt64, .long ya.toInt64]) (rest := []) ⟨hx, hb, hml, hown, hts⟩ (c0_rest l xa.toInt64 ya.toInt64 ) gX0_productOrQuotient_X0_rest rfl hdX0_rest ⟨Nat.le_of_ble_eq_true rfl, Nat.le_of_ble_eq_true rfl⟩ hl.1 rfl (Nat.le_of_ble_eq_true rfl) dX0_productOrQuotient_102 ⟨Nat.zero_le _, Nat.zero_le _⟩ hP hS (fun H locs hP hS => ?_)
                have e9 : S0_productOrQuotient ta xa ya = S0_rest xa.toInt64 ya.toInt64 := by rw [S0_productOrQuotient, if_neg c1, if_neg c2, if_neg c3, if_neg c4, if_neg c5, if_neg c6, if_pos c7]
                exact W.iret (v := S0_rest xa.toInt64 ya.toInt64) hx hb hr (fun t ht hW => ⟨⟨S0_rest xa.toInt64 ya.toInt64, (), rfl, e9.symm, trivial⟩, hS.F ht⟩) hS.2.2 dX0_productOrQuotient_105
              · skip
                refine lv_tableOut (tgt := 106) hx hb dX0_productOrQuotient_1 (by have nc1 := lv_neT c1 (show (0 : Int32).toInt = 0 from by decide); have nc2 := lv_neT c2 (show (1 : Int32).toInt = 1 from by decide); have nc3 := lv_neT c3 (show (2 : Int32).toInt = 2 from by decide); have nc4 := lv_neT c4 (show (3 : Int32).toInt = 3 from by decide); have nc5 := lv_neT c5 (show (4 : Int32).toInt = 4 from by decide); have nc6 := lv_neT c6 (show (5 : Int32).toInt = 5 from by decide); have nc7 := lv_neT c7 (show (6 : Int32).toInt = 6 from by decide); omega) (by decide) ?_
                refine lv_iload_n hx hb dX0_productOrQuotient_106 rfl (lv_at hl 1 rfl) ?_
                refine pu_l (v := S0_unsigned xa) (As := [.int xa]) (rest := []) ⟨hx, hb, hml, hown, hts⟩ (c0_unsigned l xa ) gX0_productOrQuotient_X0_unsigned rfl hdX0_unsigned ⟨Nat.le_of_ble_eq_true rfl, Nat.le_of_ble_eq_true rfl⟩ hl.1 rfl (Nat.le_of_ble_eq_true rfl) dX0_productOrQuotient_107 ⟨Nat.zero_le _, Nat.zero_le _⟩ hP hS (fun H locs hP hS => ?_)
                refine lv_iload_n hx hb dX0_productOrQuotient_110 rfl (lv_at hl 2 rfl) ?_
                refine pu_l (v := S0_unsigned ya) (As := [.int ya]) (rest := [.long (S0_unsigned xa)]) ⟨hx, hb, hml, hown, hts⟩ (c0_unsigned l ya ) gX0_productOrQuotient_X0_unsigned rfl hdX0_unsigned ⟨Nat.le_of_ble_eq_true rfl, Nat.le_of_ble_eq_true rfl⟩ hl.1 rfl (Nat.le_of_ble_eq_true rfl) dX0_productOrQuotient_111 ⟨Nat.zero_le _, Nat.zero_le _⟩ hP hS (fun H locs hP hS => ?_)
                refine pu_i (v := S0_rest (S0_unsigned xa) (S0_unsigned ya)) (As := [.long (S0_unsigned xa), .long (S0_unsigned ya)]) (rest := []) ⟨hx, hb, hml, hown, hts⟩ (c0_rest l (S0_unsigned xa) (S0_unsigned ya) ) gX0_productOrQuotient_X0_rest rfl hdX0_rest ⟨Nat.le_of_ble_eq_true rfl, Nat.le_of_ble_eq_true rfl⟩ hl.1 rfl (Nat.le_of_ble_eq_true rfl) dX0_productOrQuotient_114 ⟨Nat.zero_le _, Nat.zero_le _⟩ hP hS (fun H locs hP hS => ?_)
                have e9 : S0_productOrQuotient ta xa ya = S0_rest (S0_unsigned xa) (S0_unsigned ya) := by rw [S0_productOrQuotient, if_neg c1, if_neg c2, if_neg c3, if_neg c4, if_neg c5, if_neg c6, if_neg c7]
                exact W.iret (v := S0_rest (S0_unsigned xa) (S0_unsigned ya)) hx hb hr (fun t ht hW => ⟨⟨S0_rest (S0_unsigned xa) (S0_unsigned ya), (), rfl, e9.symm, trivial⟩, hS.F ht⟩) hS.2.2 dX0_productOrQuotient_117
theorem hdX0_holds : yX0_holds.cls ≠ "java/lang/invoke/MethodHandle" ∧ yX0_holds.cls ≠ "java/lang/invoke/VarHandle" ∧ (parseMethodDescriptor yX0_holds.desc).map (fun d => d.parameters.length) = some 3 := by decide +kernel
set_option maxHeartbeats 4000000 in
set_option maxRecDepth 100000 in
theorem c0_holds (l : Launch) (ta : Int32) (xa : Int32) (ya : Int32)  : Pui l yX0_holds wsX0_holds 1 20 [.int ta, .int xa, .int ya] (S0_holds ta xa ya) := by
  refine Met.ofW (cc := cX0_holds) (maxL := 3) (ret := (some .boolean)) (by decide) rfl ?_
  intro p e s m args below meth c s₁ B hml hv
  obtain ⟨rfl, -⟩ := hv
  have hx := B.exec
  have hb := B.bytes
  have hr := B.returns
  have hts := atoms_spec (ws := wsX0_holds) B.pre
  have hown : s.vm.findClass RX0 = some m.cls := findClass_of_methodNamed B.named
  have hlocks := B.notSynchronized
  have hP : va_P ((fun _ => 0), (fun _ _ => 0)) [] [] s.heap := fun k q h => by simp at h
  have hS : va_S (fun _ => False) s.heap s.heap [] := va_S.rf
  have hl := lv_entry ([.int ta, .int xa, .int ya]) (n := 3) (Nat.le_of_ble_eq_true rfl)
  rw [lg_entry_eq]
  generalize (lg_sl ([.int ta, .int xa, .int ya]) ++ List.replicate (3 - (lg_sl ([.int ta, .int xa, .int ya])).length) Slot.unset).toArray = ls at hl ⊢
  have hl : lv_has ls 3 [(0, .int ta), (1, .int xa), (2, .int ya)] := hl
  refine lv_iload_n hx hb dX0_holds_0 rfl (lv_at hl 0 rfl) ?_
  by_cases c1 : ta = 0
  · refine lv_tableIn (tgt := 44) hx hb dX0_holds_1 (by rw [c1]; decide) (by rw [c1]; decide) (by rw [c1]; rfl) (by decide) ?_
    refine lv_iload_n hx hb dX0_holds_44 rfl (lv_at hl 1 rfl) ?_
    refine lv_iload_n hx hb dX0_holds_45 rfl (lv_at hl 2 rfl) ?_
    refine lv_icmp_ne (tgt := 53) hx hb dX0_holds_46 (by decide) (fun (c2 : ¬ xa = ya) => ?_) (fun (c2 : xa = ya) => ?_)
    · refine lv_iconst (v := 0) hx hb dX0_holds_53 (by decide) ?_
      have e9 : S0_holds ta xa ya = (0 : Int32) := by rw [S0_holds, if_pos c1, if_neg c2]
      exact W.zret (v := (0 : Int32)) hx hb hr rfl (fun t ht hW => ⟨⟨(0 : Int32), (), rfl, e9.symm, trivial⟩, hS.F ht⟩) hS.2.2 dX0_holds_54
    · refine lv_iconst (v := 1) hx hb dX0_holds_49 (by decide) ?_
      refine lv_goto (tgt := 54) hx hb dX0_holds_50 (by decide) ?_
      have e9 : S0_holds ta xa ya = (1 : Int32) := by rw [S0_holds, if_pos c1, if_pos c2]
      exact W.zret (v := (1 : Int32)) hx hb hr rfl (fun t ht hW => ⟨⟨(1 : Int32), (), rfl, e9.symm, trivial⟩, hS.F ht⟩) hS.2.2 dX0_holds_54
  · skip
    by_cases c3 : ta = 1
    · refine lv_tableIn (tgt := 55) hx hb dX0_holds_1 (by rw [c3]; decide) (by rw [c3]; decide) (by rw [c3]; rfl) (by decide) ?_
      refine lv_iload_n hx hb dX0_holds_55 rfl (lv_at hl 1 rfl) ?_
      refine lv_iload_n hx hb dX0_holds_56 rfl (lv_at hl 2 rfl) ?_
      refine lv_icmp_eq (tgt := 64) hx hb dX0_holds_57 (by decide) (fun (c4 : xa = ya) => ?_) (fun (c4 : ¬ xa = ya) => ?_)
      · refine lv_iconst (v := 0) hx hb dX0_holds_64 (by decide) ?_
        have e9 : S0_holds ta xa ya = (0 : Int32) := by rw [S0_holds, if_neg c1, if_pos c3, if_pos c4]
        exact W.zret (v := (0 : Int32)) hx hb hr rfl (fun t ht hW => ⟨⟨(0 : Int32), (), rfl, e9.symm, trivial⟩, hS.F ht⟩) hS.2.2 dX0_holds_65
      · refine lv_iconst (v := 1) hx hb dX0_holds_60 (by decide) ?_
        refine lv_goto (tgt := 65) hx hb dX0_holds_61 (by decide) ?_
        have e9 : S0_holds ta xa ya = (1 : Int32) := by rw [S0_holds, if_neg c1, if_pos c3, if_neg c4]
        exact W.zret (v := (1 : Int32)) hx hb hr rfl (fun t ht hW => ⟨⟨(1 : Int32), (), rfl, e9.symm, trivial⟩, hS.F ht⟩) hS.2.2 dX0_holds_65
    · skip
      by_cases c5 : ta = 2
      · refine lv_tableIn (tgt := 106) hx hb dX0_holds_1 (by rw [c5]; decide) (by rw [c5]; decide) (by rw [c5]; rfl) (by decide) ?_
        refine lv_iload_n hx hb dX0_holds_106 rfl (lv_at hl 1 rfl) ?_
        refine pu_l (v := S0_unsigned xa) (As := [.int xa]) (rest := []) ⟨hx, hb, hml, hown, hts⟩ (c0_unsigned l xa ) gX0_holds_X0_unsigned rfl hdX0_unsigned ⟨Nat.le_of_ble_eq_true rfl, Nat.le_of_ble_eq_true rfl⟩ hl.1 rfl (Nat.le_of_ble_eq_true rfl) dX0_holds_107 ⟨Nat.zero_le _, Nat.zero_le _⟩ hP hS (fun H locs hP hS => ?_)
        refine lv_iload_n hx hb dX0_holds_110 rfl (lv_at hl 2 rfl) ?_
        refine pu_l (v := S0_unsigned ya) (As := [.int ya]) (rest := [.long (S0_unsigned xa)]) ⟨hx, hb, hml, hown, hts⟩ (c0_unsigned l ya ) gX0_holds_X0_unsigned rfl hdX0_unsigned ⟨Nat.le_of_ble_eq_true rfl, Nat.le_of_ble_eq_true rfl⟩ hl.1 rfl (Nat.le_of_ble_eq_true rfl) dX0_holds_111 ⟨Nat.zero_le _, Nat.zero_le _⟩ hP hS (fun H locs hP hS => ?_)
        refine W.lcmp hx hb dX0_holds_114 ?_
        refine lv_if_lt (tgt := 122) hx hb dX0_holds_115 (by decide) (fun (c6 : (lg_cmp (S0_unsigned xa) (S0_unsigned ya)) < 0) => ?_) (fun (c6 : ¬ (lg_cmp (S0_unsigned xa) (S0_unsigned ya)) < 0) => ?_)
        · refine lv_iconst (v := 0) hx hb dX0_holds_122 (by decide) ?_
          have e9 : S0_holds ta xa ya = (0 : Int32) := by rw [S0_holds, if_neg c1, if_neg c3, if_pos c5, if_pos c6]
          exact W.zret (v := (0 : Int32)) hx hb hr rfl (fun t ht hW => ⟨⟨(0 : Int32), (), rfl, e9.symm, trivial⟩, hS.F ht⟩) hS.2.2 dX0_holds_123
        · refine lv_iconst (v := 1) hx hb dX0_holds_118 (by decide) ?_
          refine lv_goto (tgt := 123) hx hb dX0_holds_119 (by decide) ?_
          have e9 : S0_holds ta xa ya = (1 : Int32) := by rw [S0_holds, if_neg c1, if_neg c3, if_pos c5, if_neg c6]
          exact W.zret (v := (1 : Int32)) hx hb hr rfl (fun t ht hW => ⟨⟨(1 : Int32), (), rfl, e9.symm, trivial⟩, hS.F ht⟩) hS.2.2 dX0_holds_123
      · skip
        by_cases c7 : ta = 3
        · refine lv_tableIn (tgt := 106) hx hb dX0_holds_1 (by rw [c7]; decide) (by rw [c7]; decide) (by rw [c7]; rfl) (by decide) ?_
          refine lv_iload_n hx hb dX0_holds_106 rfl (lv_at hl 1 rfl) ?_
          refine pu_l (v := S0_unsigned xa) (As := [.int xa]) (rest := []) ⟨hx, hb, hml, hown, hts⟩ (c0_unsigned l xa ) gX0_holds_X0_unsigned rfl hdX0_unsigned ⟨Nat.le_of_ble_eq_true rfl, Nat.le_of_ble_eq_true rfl⟩ hl.1 rfl (Nat.le_of_ble_eq_true rfl) dX0_holds_107 ⟨Nat.zero_le _, Nat.zero_le _⟩ hP hS (fun H locs hP hS => ?_)
          refine lv_iload_n hx hb dX0_holds_110 rfl (lv_at hl 2 rfl) ?_
          refine pu_l (v := S0_unsigned ya) (As := [.int ya]) (rest := [.long (S0_unsigned xa)]) ⟨hx, hb, hml, hown, hts⟩ (c0_unsigned l ya ) gX0_holds_X0_unsigned rfl hdX0_unsigned ⟨Nat.le_of_ble_eq_true rfl, Nat.le_of_ble_eq_true rfl⟩ hl.1 rfl (Nat.le_of_ble_eq_true rfl) dX0_holds_111 ⟨Nat.zero_le _, Nat.zero_le _⟩ hP hS (fun H locs hP hS => ?_)
          refine W.lcmp hx hb dX0_holds_114 ?_
          refine lv_if_lt (tgt := 122) hx hb dX0_holds_115 (by decide) (fun (c8 : (lg_cmp (S0_unsigned xa) (S0_unsigned ya)) < 0) => ?_) (fun (c8 : ¬ (lg_cmp (S0_unsigned xa) (S0_unsigned ya)) < 0) => ?_)
          · refine lv_iconst (v := 0) hx hb dX0_holds_122 (by decide) ?_
            have e9 : S0_holds ta xa ya = (0 : Int32) := by rw [S0_holds, if_neg c1, if_neg c3, if_neg c5, if_pos c7, if_pos c8]
            exact W.zret (v := (0 : Int32)) hx hb hr rfl (fun t ht hW => ⟨⟨(0 : Int32), (), rfl, e9.symm, trivial⟩, hS.F ht⟩) hS.2.2 dX0_holds_123
          · refine lv_iconst (v := 1) hx hb dX0_holds_118 (by decide) ?_
            refine lv_goto (tgt := 123) hx hb dX0_holds_119 (by decide) ?_
            have e9 : S0_holds ta xa ya = (1 : Int32) := by rw [S0_holds, if_neg c1, if_neg c3, if_neg c5, if_pos c7, if_neg c8]
            exact W.zret (v := (1 : Int32)) hx hb hr rfl (fun t ht hW => ⟨⟨(1 : Int32), (), rfl, e9.symm, trivial⟩, hS.F ht⟩) hS.2.2 dX0_holds_123
        · skip
          by_cases c9 : ta = 4
          · refine lv_tableIn (tgt := 66) hx hb dX0_holds_1 (by rw [c9]; decide) (by rw [c9]; decide) (by rw [c9]; rfl) (by decide) ?_
            refine lv_iload_n hx hb dX0_holds_66 rfl (lv_at hl 1 rfl) ?_
            refine lv_iload_n hx hb dX0_holds_67 rfl (lv_at hl 2 rfl) ?_
            refine lv_icmp_ge (tgt := 75) hx hb dX0_holds_68 (by decide) (fun (c10 : ya ≤ xa) => ?_) (fun (c10 : ¬ ya ≤ xa) => ?_)
            · refine lv_iconst (v := 0) hx hb dX0_holds_75 (by decide) ?_
              have e9 : S0_holds ta xa ya = (0 : Int32) := by rw [S0_holds, if_neg c1, if_neg c3, if_neg c5, if_neg c7, if_pos c9, if_pos c10]
              exact W.zret (v := (0 : Int32)) hx hb hr rfl (fun t ht hW => ⟨⟨(0 : Int32), (), rfl, e9.symm, trivial⟩, hS.F ht⟩) hS.2.2 dX0_holds_76
            · refine lv_iconst (v := 1) hx hb dX0_holds_71 (by decide) ?_
              refine lv_goto (tgt := 76) hx hb dX0_holds_72 (by decide) ?_
              have e9 : S0_holds ta xa ya = (1 : Int32) := by rw [S0_holds, if_neg c1, if_neg c3, if_neg c5, if_neg c7, if_pos c9, if_neg c10]
              exact W.zret (v := (1 : Int32)) hx hb hr rfl (fun t ht hW => ⟨⟨(1 : Int32), (), rfl, e9.symm, trivial⟩, hS.F ht⟩) hS.2.2 dX0_holds_76
          · skip
            by_cases c11 : ta = 5
            · refine lv_tableIn (tgt := 77) hx hb dX0_holds_1 (by rw [c11]; decide) (by rw [c11]; decide) (by rw [c11]; rfl) (by decide) ?_
              refine lv_iload_n hx hb dX0_holds_77 rfl (lv_at hl 1 rfl) ?_
              refine lv_iload_n hx hb dX0_holds_78 rfl (lv_at hl 2 rfl) ?_
              refine lv_icmp_lt (tgt := 86) hx hb dX0_holds_79 (by decide) (fun (c12 : xa < ya) => ?_) (fun (c12 : ¬ xa < ya) => ?_)
              · refine lv_iconst (v := 0) hx hb dX0_holds_86 (by decide) ?_
                have e9 : S0_holds ta xa ya = (0 : Int32) := by rw [S0_holds, if_neg c1, if_neg c3, if_neg c5, if_neg c7, if_neg c9, if_pos c11, if_pos c12]
                exact W.zret (v := (0 : Int32)) hx hb hr rfl (fun t ht hW => ⟨⟨(0 : Int32), (), rfl, e9.symm, trivial⟩, hS.F ht⟩) hS.2.2 dX0_holds_87
              · refine lv_iconst (v := 1) hx hb dX0_holds_82 (by decide) ?_
                refine lv_goto (tgt := 87) hx hb dX0_holds_83 (by decide) ?_
                have e9 : S0_holds ta xa ya = (1 : Int32) := by rw [S0_holds, if_neg c1, if_neg c3, if_neg c5, if_neg c7, if_neg c9, if_pos c11, if_neg c12]
                exact W.zret (v := (1 : Int32)) hx hb hr rfl (fun t ht hW => ⟨⟨(1 : Int32), (), rfl, e9.symm, trivial⟩, hS.F ht⟩) hS.2.2 dX0_holds_87
            · skip
              by_cases c13 : ta = 6
              · refine lv_tableIn (tgt := 88) hx hb dX0_holds_1 (by rw [c13]; decide) (by rw [c13]; decide) (by rw [c13]; rfl) (by decide) ?_
                refine lv_iload_n hx hb dX0_holds_88 rfl (lv_at hl 1 rfl) ?_
                refine pu_l (v := S0_unsigned xa) (As := [.int xa]) (rest := []) ⟨hx, hb, hml, hown, hts⟩ (c0_unsigned l xa ) gX0_holds_X0_unsigned rfl hdX0_unsigned ⟨Nat.le_of_ble_eq_true rfl, Nat.le_of_ble_eq_true rfl⟩ hl.1 rfl (Nat.le_of_ble_eq_true rfl) dX0_holds_89 ⟨Nat.zero_le _, Nat.zero_le _⟩ hP hS (fun H locs hP hS => ?_)
                refine lv_iload_n hx hb dX0_holds_92 rfl (lv_at hl 2 rfl) ?_
                refine pu_l (v := S0_unsigned ya) (As := [.int ya]) (rest := [.long (S0_unsigned xa)]) ⟨hx, hb, hml, hown, hts⟩ (c0_unsigned l ya ) gX0_holds_X0_unsigned rfl hdX0_unsigned ⟨Nat.le_of_ble_eq_true rfl, Nat.le_of_ble_eq_true rfl⟩ hl.1 rfl (Nat.le_of_ble_eq_true rfl) dX0_holds_93 ⟨Nat.zero_le _, Nat.zero_le _⟩ hP hS (fun H locs hP hS => ?_)
                refine W.lcmp hx hb dX0_holds_96 ?_
                refine lv_if_ge (tgt := 104) hx hb dX0_holds_97 (by decide) (fun (c14 : 0 ≤ (lg_cmp (S0_unsigned xa) (S0_unsigned ya))) => ?_) (fun (c14 : ¬ 0 ≤ (lg_cmp (S0_unsigned xa) (S0_unsigned ya))) => ?_)
                · refine lv_iconst (v := 0) hx hb dX0_holds_104 (by decide) ?_
                  have e9 : S0_holds ta xa ya = (0 : Int32) := by rw [S0_holds, if_neg c1, if_neg c3, if_neg c5, if_neg c7, if_neg c9, if_neg c11, if_pos c13, if_pos c14]
                  exact W.zret (v := (0 : Int32)) hx hb hr rfl (fun t ht hW => ⟨⟨(0 : Int32), (), rfl, e9.symm, trivial⟩, hS.F ht⟩) hS.2.2 dX0_holds_105
                · refine lv_iconst (v := 1) hx hb dX0_holds_100 (by decide) ?_
                  refine lv_goto (tgt := 105) hx hb dX0_holds_101 (by decide) ?_
                  have e9 : S0_holds ta xa ya = (1 : Int32) := by rw [S0_holds, if_neg c1, if_neg c3, if_neg c5, if_neg c7, if_neg c9, if_neg c11, if_pos c13, if_neg c14]
                  exact W.zret (v := (1 : Int32)) hx hb hr rfl (fun t ht hW => ⟨⟨(1 : Int32), (), rfl, e9.symm, trivial⟩, hS.F ht⟩) hS.2.2 dX0_holds_105
              · skip
                refine lv_tableOut (tgt := 106) hx hb dX0_holds_1 (by have nc1 := lv_neT c1 (show (0 : Int32).toInt = 0 from by decide); have nc3 := lv_neT c3 (show (1 : Int32).toInt = 1 from by decide); have nc5 := lv_neT c5 (show (2 : Int32).toInt = 2 from by decide); have nc7 := lv_neT c7 (show (3 : Int32).toInt = 3 from by decide); have nc9 := lv_neT c9 (show (4 : Int32).toInt = 4 from by decide); have nc11 := lv_neT c11 (show (5 : Int32).toInt = 5 from by decide); have nc13 := lv_neT c13 (show (6 : Int32).toInt = 6 from by decide); omega) (by decide) ?_
                refine lv_iload_n hx hb dX0_holds_106 rfl (lv_at hl 1 rfl) ?_
                refine pu_l (v := S0_unsigned xa) (As := [.int xa]) (rest := []) ⟨hx, hb, hml, hown, hts⟩ (c0_unsigned l xa ) gX0_holds_X0_unsigned rfl hdX0_unsigned ⟨Nat.le_of_ble_eq_true rfl, Nat.le_of_ble_eq_true rfl⟩ hl.1 rfl (Nat.le_of_ble_eq_true rfl) dX0_holds_107 ⟨Nat.zero_le _, Nat.zero_le _⟩ hP hS (fun H locs hP hS => ?_)
                refine lv_iload_n hx hb dX0_holds_110 rfl (lv_at hl 2 rfl) ?_
                refine pu_l (v := S0_unsigned ya) (As := [.int ya]) (rest := [.long (S0_unsigned xa)]) ⟨hx, hb, hml, hown, hts⟩ (c0_unsigned l ya ) gX0_holds_X0_unsigned rfl hdX0_unsigned ⟨Nat.le_of_ble_eq_true rfl, Nat.le_of_ble_eq_true rfl⟩ hl.1 rfl (Nat.le_of_ble_eq_true rfl) dX0_holds_111 ⟨Nat.zero_le _, Nat.zero_le _⟩ hP hS (fun H locs hP hS => ?_)
                refine W.lcmp hx hb dX0_holds_114 ?_
                refine lv_if_lt (tgt := 122) hx hb dX0_holds_115 (by decide) (fun (c15 : (lg_cmp (S0_unsigned xa) (S0_unsigned ya)) < 0) => ?_) (fun (c15 : ¬ (lg_cmp (S0_unsigned xa) (S0_unsigned ya)) < 0) => ?_)
                · refine lv_iconst (v := 0) hx hb dX0_holds_122 (by decide) ?_
                  have e9 : S0_holds ta xa ya = (0 : Int32) := by rw [S0_holds, if_neg c1, if_neg c3, if_neg c5, if_neg c7, if_neg c9, if_neg c11, if_neg c13, if_pos c15]
                  exact W.zret (v := (0 : Int32)) hx hb hr rfl (fun t ht hW => ⟨⟨(0 : Int32), (), rfl, e9.symm, trivial⟩, hS.F ht⟩) hS.2.2 dX0_holds_123
                · refine lv_iconst (v := 1) hx hb dX0_holds_118 (by decide) ?_
                  refine lv_goto (tgt := 123) hx hb dX0_holds_119 (by decide) ?_
                  have e9 : S0_holds ta xa ya = (1 : Int32) := by rw [S0_holds, if_neg c1, if_neg c3, if_neg c5, if_neg c7, if_neg c9, if_neg c11, if_neg c13, if_neg c15]
                  exact W.zret (v := (1 : Int32)) hx hb hr rfl (fun t ht hW => ⟨⟨(1 : Int32), (), rfl, e9.symm, trivial⟩, hS.F ht⟩) hS.2.2 dX0_holds_123
end
section
theorem iwX0_setRegister : ∀ w ∈ wsX00, w ∈ wsX0_setRegister := by decide +kernel
theorem flX0_setRegister_13 : Cond.fieldLink RX0 13 "WordMachine" "registers" "[I" ∈ wsX0_setRegister := by decide +kernel
theorem hdX0_setRegister : yX0_setRegister.cls = RX0 ∧ yX0_setRegister.cls ≠ "java/lang/invoke/MethodHandle" ∧ yX0_setRegister.cls ≠ "java/lang/invoke/VarHandle" ∧ (parseMethodDescriptor yX0_setRegister.desc).map (fun d => d.parameters.length) = some 2 := by decide +kernel
set_option maxHeartbeats 4000000 in
set_option maxRecDepth 100000 in
theorem c0_setRegister (l : Launch) {D : va_G} {cI : ClassId} {h q1 q2 q3 : Nat} (hap : ap4 h q1 q2 q3) (ra : Int32) (va : Int32) (u : WS)  : Inv l yX0_setRegister wsX0_setRegister 0 0 D (ty0 cI) (wa0 h q1 q2 q3) [.ref h, .int ra, .int va] (ww0 cI h q1 q2 q3 u) (ww0 cI h q1 q2 q3 (S0_setRegister ra va u))  := by
  refine Met.ofW (cc := cX0_setRegister) (maxL := 3) (ret := none) (by decide) rfl ?_
  intro p e s m args below meth c s₁ B hml hv
  obtain ⟨rfl, hP, hK⟩ := hv
  have hx := B.exec
  have hb := B.bytes
  have hr := B.returns
  have hts := atoms_spec (ws := wsX0_setRegister) B.pre
  have hown : s.vm.findClass RX0 = some m.cls := findClass_of_methodNamed B.named
  have hlocks := B.notSynchronized
  have hS : va_S (wa0 h q1 q2 q3) s.heap s.heap [] := va_S.rf
  have hl := lv_entry ([.ref h, .int ra, .int va]) (n := 3) (Nat.le_of_ble_eq_true rfl)
  rw [lg_entry_eq]
  generalize (lg_sl ([.ref h, .int ra, .int va]) ++ List.replicate (3 - (lg_sl ([.ref h, .int ra, .int va])).length) Slot.unset).toArray = ls at hl ⊢
  have hl : lv_has ls 3 [(0, .ref h), (1, .int ra), (2, .int va)] := hl
  refine lv_iload_n hx hb dX0_setRegister_0 rfl (lv_at hl 1 rfl) ?_
  refine lv_if_le (tgt := 17) hx hb dX0_setRegister_1 (by decide) (fun (c1 : ra ≤ 0) => ?_) (fun (c1 : ¬ ra ≤ 0) => ?_)
  · have e9 : S0_setRegister ra va u = u := by rw [S0_setRegister, if_pos c1]
    exact W.vret hx hb hr (fun t ht hW => ⟨⟨(), rfl, trivial, by show va_P _ _ _ t.heap; rw [e9, ht]; exact hP⟩, hS.F ht⟩) hS.2.2 dX0_setRegister_17
  · refine lv_iload_n hx hb dX0_setRegister_4 rfl (lv_at hl 1 rfl) ?_
    refine lv_bipush (v := 32) hx hb dX0_setRegister_5 (by decide) ?_
    refine lv_icmp_ge (tgt := 17) hx hb dX0_setRegister_7 (by decide) (fun (c2 : 32 ≤ ra) => ?_) (fun (c2 : ¬ 32 ≤ ra) => ?_)
    · have e9 : S0_setRegister ra va u = u := by rw [S0_setRegister, if_neg c1, if_pos c2]
      exact W.vret hx hb hr (fun t ht hW => ⟨⟨(), rfl, trivial, by show va_P _ _ _ t.heap; rw [e9, ht]; exact hP⟩, hS.F ht⟩) hS.2.2 dX0_setRegister_17
    · refine lv_aload_n hx hb dX0_setRegister_10 rfl (lv_at hl 0 rfl) ?_
      refine va_get (D := D) (ci := 0) (v := .ref q2) (C := RX0) (T := TX0) (N := 6) hx hb hts iwX0_setRegister hown hK hP 0 rfl rfl 1 (by decide) (hts (.fieldLink RX0 13 "WordMachine" "registers" "[I") flX0_setRegister_13) (fun _ h9 => h9) rfl dX0_setRegister_11 ?_
      refine lv_iload_n hx hb dX0_setRegister_14 rfl (lv_at hl 1 rfl) ?_
      refine lv_iload_n hx hb dX0_setRegister_15 rfl (lv_at hl 2 rfl) ?_
      refine va_iast hx hb hK hP (ap4_D hap) hS 2 0 rfl rfl (ix_reg c1 c2) dX0_setRegister_16 (fun H locs hP _ hS => ?_)
      have hP : va_P D vwCl (ww0 cI h q1 q2 q3 (Wp_regs (upd (W_regs u) ra.toNatClampNeg va) u)) H := hP
      have e9 : S0_setRegister ra va u = Wp_regs (upd (W_regs u) ra.toNatClampNeg va) u := by rw [S0_setRegister, if_neg c1, if_neg c2]
      exact W.vret hx hb hr (fun t ht hW => ⟨⟨(), rfl, trivial, by show va_P _ _ _ t.heap; rw [e9, ht]; exact hP⟩, hS.F ht⟩) hS.2.2 dX0_setRegister_17
theorem iwX0_valueX : ∀ w ∈ wsX00, w ∈ wsX0_valueX := by decide +kernel
theorem flX0_valueX_13 : Cond.fieldLink RX0 13 "WordMachine" "registers" "[I" ∈ wsX0_valueX := by decide +kernel
theorem hdX0_valueX : yX0_valueX.cls = RX0 ∧ yX0_valueX.cls ≠ "java/lang/invoke/MethodHandle" ∧ yX0_valueX.cls ≠ "java/lang/invoke/VarHandle" ∧ (parseMethodDescriptor yX0_valueX.desc).map (fun d => d.parameters.length) = some 1 := by decide +kernel
set_option maxHeartbeats 4000000 in
set_option maxRecDepth 100000 in
theorem c0_valueX (l : Launch) {D : va_G} {cI : ClassId} {h q1 q2 q3 : Nat} (hap : ap4 h q1 q2 q3) (wa : Int32) (u : WS)  : Ini l yX0_valueX wsX0_valueX 1 20 D (ty0 cI) (wa0 h q1 q2 q3) [.ref h, .int wa] (ww0 cI h q1 q2 q3 u) (ww0 cI h q1 q2 q3 u) (S0_valueX wa u) := by
  refine Met.ofW (cc := cX0_valueX) (maxL := 2) (ret := (some .int)) (by decide) rfl ?_
  intro p e s m args below meth c s₁ B hml hv
  obtain ⟨rfl, hP, hK⟩ := hv
  have hx := B.exec
  have hb := B.bytes
  have hr := B.returns
  have hts := atoms_spec (ws := wsX0_valueX) B.pre
  have hown : s.vm.findClass RX0 = some m.cls := findClass_of_methodNamed B.named
  have hlocks := B.notSynchronized
  have hS : va_S (wa0 h q1 q2 q3) s.heap s.heap [] := va_S.rf
  have hl := lv_entry ([.ref h, .int wa]) (n := 2) (Nat.le_of_ble_eq_true rfl)
  rw [lg_entry_eq]
  generalize (lg_sl ([.ref h, .int wa]) ++ List.replicate (2 - (lg_sl ([.ref h, .int wa])).length) Slot.unset).toArray = ls at hl ⊢
  have hl : lv_has ls 2 [(0, .ref h), (1, .int wa)] := hl
  refine lv_aload_n hx hb dX0_valueX_0 rfl (lv_at hl 0 rfl) ?_
  refine va_get (D := D) (ci := 0) (v := .ref q2) (C := RX0) (T := TX0) (N := 6) hx hb hts iwX0_valueX hown hK hP 0 rfl rfl 1 (by decide) (hts (.fieldLink RX0 13 "WordMachine" "registers" "[I") flX0_valueX_13) (fun _ h9 => h9) rfl dX0_valueX_1 ?_
  refine lv_iload_n hx hb dX0_valueX_4 rfl (lv_at hl 1 rfl) ?_
  refine pu_i (v := S0_fieldX wa) (As := [.int wa]) (rest := [.ref q2]) ⟨hx, hb, hml, hown, hts⟩ (c0_fieldX l wa ) gX0_valueX_X0_fieldX rfl hdX0_fieldX ⟨Nat.le_of_ble_eq_true rfl, Nat.le_of_ble_eq_true rfl⟩ hl.1 rfl (Nat.le_of_ble_eq_true rfl) dX0_valueX_5 ⟨Nat.zero_le _, Nat.zero_le _⟩ hP hS (fun H locs hP hS => ?_)
  refine va_iald hx hb hK hP 2 0 rfl rfl (in_fieldX wa) dX0_valueX_8 ?_
  have e9 : S0_valueX wa u = W_regs u (S0_fieldX wa).toNatClampNeg := by rw [S0_valueX]
  exact W.iret (v := W_regs u (S0_fieldX wa).toNatClampNeg) hx hb hr (fun t ht hW => ⟨⟨W_regs u (S0_fieldX wa).toNatClampNeg, (), rfl, e9.symm, (by show va_P _ _ _ t.heap; rw [ht]; exact hP)⟩, hS.F ht⟩) hS.2.2 dX0_valueX_9
theorem iwX0_valueY : ∀ w ∈ wsX00, w ∈ wsX0_valueY := by decide +kernel
theorem flX0_valueY_13 : Cond.fieldLink RX0 13 "WordMachine" "registers" "[I" ∈ wsX0_valueY := by decide +kernel
theorem hdX0_valueY : yX0_valueY.cls = RX0 ∧ yX0_valueY.cls ≠ "java/lang/invoke/MethodHandle" ∧ yX0_valueY.cls ≠ "java/lang/invoke/VarHandle" ∧ (parseMethodDescriptor yX0_valueY.desc).map (fun d => d.parameters.length) = some 1 := by decide +kernel
set_option maxHeartbeats 4000000 in
set_option maxRecDepth 100000 in
theorem c0_valueY (l : Launch) {D : va_G} {cI : ClassId} {h q1 q2 q3 : Nat} (hap : ap4 h q1 q2 q3) (wa : Int32) (u : WS)  : Ini l yX0_valueY wsX0_valueY 1 20 D (ty0 cI) (wa0 h q1 q2 q3) [.ref h, .int wa] (ww0 cI h q1 q2 q3 u) (ww0 cI h q1 q2 q3 u) (S0_valueY wa u) := by
  refine Met.ofW (cc := cX0_valueY) (maxL := 2) (ret := (some .int)) (by decide) rfl ?_
  intro p e s m args below meth c s₁ B hml hv
  obtain ⟨rfl, hP, hK⟩ := hv
  have hx := B.exec
  have hb := B.bytes
  have hr := B.returns
  have hts := atoms_spec (ws := wsX0_valueY) B.pre
  have hown : s.vm.findClass RX0 = some m.cls := findClass_of_methodNamed B.named
  have hlocks := B.notSynchronized
  have hS : va_S (wa0 h q1 q2 q3) s.heap s.heap [] := va_S.rf
  have hl := lv_entry ([.ref h, .int wa]) (n := 2) (Nat.le_of_ble_eq_true rfl)
  rw [lg_entry_eq]
  generalize (lg_sl ([.ref h, .int wa]) ++ List.replicate (2 - (lg_sl ([.ref h, .int wa])).length) Slot.unset).toArray = ls at hl ⊢
  have hl : lv_has ls 2 [(0, .ref h), (1, .int wa)] := hl
  refine lv_aload_n hx hb dX0_valueY_0 rfl (lv_at hl 0 rfl) ?_
  refine va_get (D := D) (ci := 0) (v := .ref q2) (C := RX0) (T := TX0) (N := 6) hx hb hts iwX0_valueY hown hK hP 0 rfl rfl 1 (by decide) (hts (.fieldLink RX0 13 "WordMachine" "registers" "[I") flX0_valueY_13) (fun _ h9 => h9) rfl dX0_valueY_1 ?_
  refine lv_iload_n hx hb dX0_valueY_4 rfl (lv_at hl 1 rfl) ?_
  refine pu_i (v := S0_fieldY wa) (As := [.int wa]) (rest := [.ref q2]) ⟨hx, hb, hml, hown, hts⟩ (c0_fieldY l wa ) gX0_valueY_X0_fieldY rfl hdX0_fieldY ⟨Nat.le_of_ble_eq_true rfl, Nat.le_of_ble_eq_true rfl⟩ hl.1 rfl (Nat.le_of_ble_eq_true rfl) dX0_valueY_5 ⟨Nat.zero_le _, Nat.zero_le _⟩ hP hS (fun H locs hP hS => ?_)
  refine va_iald hx hb hK hP 2 0 rfl rfl (in_fieldY wa) dX0_valueY_8 ?_
  have e9 : S0_valueY wa u = W_regs u (S0_fieldY wa).toNatClampNeg := by rw [S0_valueY]
  exact W.iret (v := W_regs u (S0_fieldY wa).toNatClampNeg) hx hb hr (fun t ht hW => ⟨⟨W_regs u (S0_fieldY wa).toNatClampNeg, (), rfl, e9.symm, (by show va_P _ _ _ t.heap; rw [ht]; exact hP)⟩, hS.F ht⟩) hS.2.2 dX0_valueY_9
theorem iwX0_isPlaceOfWord : ∀ w ∈ wsX00, w ∈ wsX0_isPlaceOfWord := by decide +kernel
theorem flX0_isPlaceOfWord_19 : Cond.fieldLink RX0 19 "WordMachine" "wordCount" "I" ∈ wsX0_isPlaceOfWord := by decide +kernel
theorem hdX0_isPlaceOfWord : yX0_isPlaceOfWord.cls = RX0 ∧ yX0_isPlaceOfWord.cls ≠ "java/lang/invoke/MethodHandle" ∧ yX0_isPlaceOfWord.cls ≠ "java/lang/invoke/VarHandle" ∧ (parseMethodDescriptor yX0_isPlaceOfWord.desc).map (fun d => d.parameters.length) = some 1 := by decide +kernel
set_option maxHeartbeats 4000000 in
set_option maxRecDepth 100000 in
theorem c0_isPlaceOfWord (l : Launch) {D : va_G} {cI : ClassId} {h q1 q2 q3 : Nat} (hap : ap4 h q1 q2 q3) (aa : Int32) (u : WS)  : Ini l yX0_isPlaceOfWord wsX0_isPlaceOfWord 1 21 D (ty0 cI) (wa0 h q1 q2 q3) [.ref h, .int aa] (ww0 cI h q1 q2 q3 u) (ww0 cI h q1 q2 q3 u) (S0_isPlaceOfWord aa u) := by
  refine Met.ofW (cc := cX0_isPlaceOfWord) (maxL := 2) (ret := (some .boolean)) (by decide) rfl ?_
  intro p e s m args below meth c s₁ B hml hv
  obtain ⟨rfl, hP, hK⟩ := hv
  have hx := B.exec
  have hb := B.bytes
  have hr := B.returns
  have hts := atoms_spec (ws := wsX0_isPlaceOfWord) B.pre
  have hown : s.vm.findClass RX0 = some m.cls := findClass_of_methodNamed B.named
  have hlocks := B.notSynchronized
  have hS : va_S (wa0 h q1 q2 q3) s.heap s.heap [] := va_S.rf
  have hl := lv_entry ([.ref h, .int aa]) (n := 2) (Nat.le_of_ble_eq_true rfl)
  rw [lg_entry_eq]
  generalize (lg_sl ([.ref h, .int aa]) ++ List.replicate (2 - (lg_sl ([.ref h, .int aa])).length) Slot.unset).toArray = ls at hl ⊢
  have hl : lv_has ls 2 [(0, .ref h), (1, .int aa)] := hl
  refine lv_iload_n hx hb dX0_isPlaceOfWord_0 rfl (lv_at hl 1 rfl) ?_
  refine lv_if_lt (tgt := 26) hx hb dX0_isPlaceOfWord_1 (by decide) (fun (c1 : aa < 0) => ?_) (fun (c1 : ¬ aa < 0) => ?_)
  · refine lv_iconst (v := 0) hx hb dX0_isPlaceOfWord_26 (by decide) ?_
    have e9 : S0_isPlaceOfWord aa u = (0 : Int32) := by rw [S0_isPlaceOfWord, if_pos c1]
    exact W.zret (v := (0 : Int32)) hx hb hr rfl (fun t ht hW => ⟨⟨(0 : Int32), (), rfl, e9.symm, (by show va_P _ _ _ t.heap; rw [ht]; exact hP)⟩, hS.F ht⟩) hS.2.2 dX0_isPlaceOfWord_27
  · refine lv_iload_n hx hb dX0_isPlaceOfWord_4 rfl (lv_at hl 1 rfl) ?_
    refine lv_iconst (v := 4) hx hb dX0_isPlaceOfWord_5 (by decide) ?_
    refine pu_i (v := S0_isMultiple aa (4)) (As := [.int aa, .int 4]) (rest := []) ⟨hx, hb, hml, hown, hts⟩ (c0_isMultiple l aa (4) ) gX0_isPlaceOfWord_X0_isMultiple rfl hdX0_isMultiple ⟨Nat.le_of_ble_eq_true rfl, Nat.le_of_ble_eq_true rfl⟩ hl.1 rfl (Nat.le_of_ble_eq_true rfl) dX0_isPlaceOfWord_6 ⟨Nat.zero_le _, Nat.zero_le _⟩ hP hS (fun H locs hP hS => ?_)
    refine lv_if_eq (tgt := 26) hx hb dX0_isPlaceOfWord_9 (by decide) (fun (c2 : (S0_isMultiple aa (4)) = 0) => ?_) (fun (c2 : ¬ (S0_isMultiple aa (4)) = 0) => ?_)
    · refine lv_iconst (v := 0) hx hb dX0_isPlaceOfWord_26 (by decide) ?_
      have e9 : S0_isPlaceOfWord aa u = (0 : Int32) := by rw [S0_isPlaceOfWord, if_neg c1, if_pos c2]
      exact W.zret (v := (0 : Int32)) hx hb hr rfl (fun t ht hW => ⟨⟨(0 : Int32), (), rfl, e9.symm, (by show va_P _ _ _ t.heap; rw [ht]; exact hP)⟩, hS.F ht⟩) hS.2.2 dX0_isPlaceOfWord_27
    · refine lv_iload_n hx hb dX0_isPlaceOfWord_12 rfl (lv_at hl 1 rfl) ?_
      refine lv_iconst (v := 4) hx hb dX0_isPlaceOfWord_13 (by decide) ?_
      refine lv_idiv hx hb dX0_isPlaceOfWord_14 (by decide) ?_
      refine lv_aload_n hx hb dX0_isPlaceOfWord_15 rfl (lv_at hl 0 rfl) ?_
      refine va_get (D := D) (ci := 0) (v := .int (W_wc u)) (C := RX0) (T := TX0) (N := 6) hx hb hts iwX0_isPlaceOfWord hown hK hP 0 rfl rfl 3 (by decide) (hts (.fieldLink RX0 19 "WordMachine" "wordCount" "I") flX0_isPlaceOfWord_19) (fun _ h9 => h9) rfl dX0_isPlaceOfWord_16 ?_
      refine lv_icmp_ge (tgt := 26) hx hb dX0_isPlaceOfWord_19 (by decide) (fun (c3 : (W_wc u) ≤ (aa / 4)) => ?_) (fun (c3 : ¬ (W_wc u) ≤ (aa / 4)) => ?_)
      · refine lv_iconst (v := 0) hx hb dX0_isPlaceOfWord_26 (by decide) ?_
        have e9 : S0_isPlaceOfWord aa u = (0 : Int32) := by rw [S0_isPlaceOfWord, if_neg c1, if_neg c2, if_pos c3]
        exact W.zret (v := (0 : Int32)) hx hb hr rfl (fun t ht hW => ⟨⟨(0 : Int32), (), rfl, e9.symm, (by show va_P _ _ _ t.heap; rw [ht]; exact hP)⟩, hS.F ht⟩) hS.2.2 dX0_isPlaceOfWord_27
      · refine lv_iconst (v := 1) hx hb dX0_isPlaceOfWord_22 (by decide) ?_
        refine lv_goto (tgt := 27) hx hb dX0_isPlaceOfWord_23 (by decide) ?_
        have e9 : S0_isPlaceOfWord aa u = (1 : Int32) := by rw [S0_isPlaceOfWord, if_neg c1, if_neg c2, if_neg c3]
        exact W.zret (v := (1 : Int32)) hx hb hr rfl (fun t ht hW => ⟨⟨(1 : Int32), (), rfl, e9.symm, (by show va_P _ _ _ t.heap; rw [ht]; exact hP)⟩, hS.F ht⟩) hS.2.2 dX0_isPlaceOfWord_27
theorem iwX0_bitsFrom : ∀ w ∈ wsX00, w ∈ wsX0_bitsFrom := by decide +kernel
theorem flX0_bitsFrom_16 : Cond.fieldLink RX0 16 "WordMachine" "memory" "[I" ∈ wsX0_bitsFrom := by decide +kernel
theorem hdX0_bitsFrom : yX0_bitsFrom.cls = RX0 ∧ yX0_bitsFrom.cls ≠ "java/lang/invoke/MethodHandle" ∧ yX0_bitsFrom.cls ≠ "java/lang/invoke/VarHandle" ∧ (parseMethodDescriptor yX0_bitsFrom.desc).map (fun d => d.parameters.length) = some 1 := by decide +kernel
set_option maxHeartbeats 4000000 in
set_option maxRecDepth 100000 in
theorem c0_bitsFrom (l : Launch) {D : va_G} {cI : ClassId} {h q1 q2 q3 : Nat} (hap : ap4 h q1 q2 q3) (aa : Int32) (u : WS) (hi : vp_in (aa / 4) 1024) : Ini l yX0_bitsFrom wsX0_bitsFrom 1 20 D (ty0 cI) (wa0 h q1 q2 q3) [.ref h, .int aa] (ww0 cI h q1 q2 q3 u) (ww0 cI h q1 q2 q3 u) (S0_bitsFrom aa u) := by
  refine Met.ofW (cc := cX0_bitsFrom) (maxL := 2) (ret := (some .int)) (by decide) rfl ?_
  intro p e s m args below meth c s₁ B hml hv
  obtain ⟨rfl, hP, hK⟩ := hv
  have hx := B.exec
  have hb := B.bytes
  have hr := B.returns
  have hts := atoms_spec (ws := wsX0_bitsFrom) B.pre
  have hown : s.vm.findClass RX0 = some m.cls := findClass_of_methodNamed B.named
  have hlocks := B.notSynchronized
  have hS : va_S (wa0 h q1 q2 q3) s.heap s.heap [] := va_S.rf
  have hl := lv_entry ([.ref h, .int aa]) (n := 2) (Nat.le_of_ble_eq_true rfl)
  rw [lg_entry_eq]
  generalize (lg_sl ([.ref h, .int aa]) ++ List.replicate (2 - (lg_sl ([.ref h, .int aa])).length) Slot.unset).toArray = ls at hl ⊢
  have hl : lv_has ls 2 [(0, .ref h), (1, .int aa)] := hl
  refine lv_aload_n hx hb dX0_bitsFrom_0 rfl (lv_at hl 0 rfl) ?_
  refine va_get (D := D) (ci := 0) (v := .ref q3) (C := RX0) (T := TX0) (N := 6) hx hb hts iwX0_bitsFrom hown hK hP 0 rfl rfl 2 (by decide) (hts (.fieldLink RX0 16 "WordMachine" "memory" "[I") flX0_bitsFrom_16) (fun _ h9 => h9) rfl dX0_bitsFrom_1 ?_
  refine lv_iload_n hx hb dX0_bitsFrom_4 rfl (lv_at hl 1 rfl) ?_
  refine lv_iconst (v := 4) hx hb dX0_bitsFrom_5 (by decide) ?_
  refine lv_idiv hx hb dX0_bitsFrom_6 (by decide) ?_
  refine va_iald hx hb hK hP 3 0 rfl rfl hi dX0_bitsFrom_7 ?_
  refine lv_iload_n hx hb dX0_bitsFrom_8 rfl (lv_at hl 1 rfl) ?_
  refine pu_i (v := S0_bitOffset aa) (As := [.int aa]) (rest := [.int (W_mem u (aa / 4).toNatClampNeg)]) ⟨hx, hb, hml, hown, hts⟩ (c0_bitOffset l aa ) gX0_bitsFrom_X0_bitOffset rfl hdX0_bitOffset ⟨Nat.le_of_ble_eq_true rfl, Nat.le_of_ble_eq_true rfl⟩ hl.1 rfl (Nat.le_of_ble_eq_true rfl) dX0_bitsFrom_9 ⟨Nat.zero_le _, Nat.zero_le _⟩ hP hS (fun H locs hP hS => ?_)
  refine lv_iushr (v := i_ushr (W_mem u (aa / 4).toNatClampNeg) (S0_bitOffset aa)) hx hb dX0_bitsFrom_12 rfl ?_
  have e9 : S0_bitsFrom aa u = i_ushr (W_mem u (aa / 4).toNatClampNeg) (S0_bitOffset aa) := by rw [S0_bitsFrom]
  exact W.iret (v := i_ushr (W_mem u (aa / 4).toNatClampNeg) (S0_bitOffset aa)) hx hb hr (fun t ht hW => ⟨⟨i_ushr (W_mem u (aa / 4).toNatClampNeg) (S0_bitOffset aa), (), rfl, e9.symm, (by show va_P _ _ _ t.heap; rw [ht]; exact hP)⟩, hS.F ht⟩) hS.2.2 dX0_bitsFrom_13
theorem iwX0_replaceBits : ∀ w ∈ wsX00, w ∈ wsX0_replaceBits := by decide +kernel
theorem flX0_replaceBits_16 : Cond.fieldLink RX0 16 "WordMachine" "memory" "[I" ∈ wsX0_replaceBits := by decide +kernel
theorem hdX0_replaceBits : yX0_replaceBits.cls = RX0 ∧ yX0_replaceBits.cls ≠ "java/lang/invoke/MethodHandle" ∧ yX0_replaceBits.cls ≠ "java/lang/invoke/VarHandle" ∧ (parseMethodDescriptor yX0_replaceBits.desc).map (fun d => d.parameters.length) = some 3 := by decide +kernel
set_option maxHeartbeats 4000000 in
set_option maxRecDepth 100000 in
theorem c0_replaceBits (l : Launch) {D : va_G} {cI : ClassId} {h q1 q2 q3 : Nat} (hap : ap4 h q1 q2 q3) (aa : Int32) (ba : Int32) (va : Int32) (u : WS) (hi : vp_in (aa / 4) 1024) : Inv l yX0_replaceBits wsX0_replaceBits 1 20 D (ty0 cI) (wa0 h q1 q2 q3) [.ref h, .int aa, .int ba, .int va] (ww0 cI h q1 q2 q3 u) (ww0 cI h q1 q2 q3 (S0_replaceBits aa ba va u))  := by
  refine Met.ofW (cc := cX0_replaceBits) (maxL := 5) (ret := none) (by decide) rfl ?_
  intro p e s m args below meth c s₁ B hml hv
  obtain ⟨rfl, hP, hK⟩ := hv
  have hx := B.exec
  have hb := B.bytes
  have hr := B.returns
  have hts := atoms_spec (ws := wsX0_replaceBits) B.pre
  have hown : s.vm.findClass RX0 = some m.cls := findClass_of_methodNamed B.named
  have hlocks := B.notSynchronized
  have hS : va_S (wa0 h q1 q2 q3) s.heap s.heap [] := va_S.rf
  have hl := lv_entry ([.ref h, .int aa, .int ba, .int va]) (n := 5) (Nat.le_of_ble_eq_true rfl)
  rw [lg_entry_eq]
  generalize (lg_sl ([.ref h, .int aa, .int ba, .int va]) ++ List.replicate (5 - (lg_sl ([.ref h, .int aa, .int ba, .int va])).length) Slot.unset).toArray = ls at hl ⊢
  have hl : lv_has ls 5 [(0, .ref h), (1, .int aa), (2, .int ba), (3, .int va)] := hl
  refine lv_aload_n hx hb dX0_replaceBits_0 rfl (lv_at hl 0 rfl) ?_
  refine va_get (D := D) (ci := 0) (v := .ref q3) (C := RX0) (T := TX0) (N := 6) hx hb hts iwX0_replaceBits hown hK hP 0 rfl rfl 2 (by decide) (hts (.fieldLink RX0 16 "WordMachine" "memory" "[I") flX0_replaceBits_16) (fun _ h9 => h9) rfl dX0_replaceBits_1 ?_
  refine lv_iload_n hx hb dX0_replaceBits_4 rfl (lv_at hl 1 rfl) ?_
  refine lv_iconst (v := 4) hx hb dX0_replaceBits_5 (by decide) ?_
  refine lv_idiv hx hb dX0_replaceBits_6 (by decide) ?_
  refine va_iald hx hb hK hP 3 0 rfl rfl hi dX0_replaceBits_7 ?_
  refine lv_iload_n hx hb dX0_replaceBits_8 rfl (lv_at hl 2 rfl) ?_
  refine lv_iload_n hx hb dX0_replaceBits_9 rfl (lv_at hl 1 rfl) ?_
  refine pu_i (v := S0_bitOffset aa) (As := [.int aa]) (rest := [.int ba, .int (W_mem u (aa / 4).toNatClampNeg)]) ⟨hx, hb, hml, hown, hts⟩ (c0_bitOffset l aa ) gX0_replaceBits_X0_bitOffset rfl hdX0_bitOffset ⟨Nat.le_of_ble_eq_true rfl, Nat.le_of_ble_eq_true rfl⟩ hl.1 rfl (Nat.le_of_ble_eq_true rfl) dX0_replaceBits_10 ⟨Nat.zero_le _, Nat.zero_le _⟩ hP hS (fun H locs hP hS => ?_)
  refine lv_ishl hx hb dX0_replaceBits_13 ?_
  refine lv_iconst (v := (-1)) hx hb dX0_replaceBits_14 (by decide) ?_
  refine lv_ixor hx hb dX0_replaceBits_15 ?_
  refine lv_iand hx hb dX0_replaceBits_16 ?_
  refine lv_istore (lv' := [(4, .int ((W_mem u (aa / 4).toNatClampNeg) &&& ((ba <<< ((S0_bitOffset aa) &&& 31)) ^^^ (-1)))), (0, .ref h), (1, .int aa), (2, .int ba), (3, .int va)]) hx hb dX0_replaceBits_17 hl (by decide) rfl (fun ls hl => ?_)
  refine lv_aload_n hx hb dX0_replaceBits_19 rfl (lv_at hl 1 rfl) ?_
  refine va_get (D := D) (ci := 0) (v := .ref q3) (C := RX0) (T := TX0) (N := 6) hx hb hts iwX0_replaceBits hown hK hP 0 rfl rfl 2 (by decide) (hts (.fieldLink RX0 16 "WordMachine" "memory" "[I") flX0_replaceBits_16) (fun _ h9 => h9) rfl dX0_replaceBits_20 ?_
  refine lv_iload_n hx hb dX0_replaceBits_23 rfl (lv_at hl 2 rfl) ?_
  refine lv_iconst (v := 4) hx hb dX0_replaceBits_24 (by decide) ?_
  refine lv_idiv hx hb dX0_replaceBits_25 (by decide) ?_
  refine lv_iload hx hb dX0_replaceBits_26 (lv_at hl 0 rfl) ?_
  refine lv_iload_n hx hb dX0_replaceBits_28 rfl (lv_at hl 4 rfl) ?_
  refine lv_iload_n hx hb dX0_replaceBits_29 rfl (lv_at hl 3 rfl) ?_
  refine lv_iand hx hb dX0_replaceBits_30 ?_
  refine lv_iload_n hx hb dX0_replaceBits_31 rfl (lv_at hl 2 rfl) ?_
  refine pu_i (v := S0_bitOffset aa) (As := [.int aa]) (rest := [.int (va &&& ba), .int ((W_mem u (aa / 4).toNatClampNeg) &&& ((ba <<< ((S0_bitOffset aa) &&& 31)) ^^^ (-1))), .int (aa / 4), .ref q3]) ⟨hx, hb, hml, hown, hts⟩ (c0_bitOffset l aa ) gX0_replaceBits_X0_bitOffset rfl hdX0_bitOffset ⟨Nat.le_of_ble_eq_true rfl, Nat.le_of_ble_eq_true rfl⟩ hl.1 rfl (Nat.le_of_ble_eq_true rfl) dX0_replaceBits_32 ⟨Nat.zero_le _, Nat.zero_le _⟩ hP hS (fun H locs hP hS => ?_)
  refine lv_ishl hx hb dX0_replaceBits_35 ?_
  refine lv_ior hx hb dX0_replaceBits_36 ?_
  refine va_iast hx hb hK hP (ap4_D hap) hS 3 0 rfl rfl hi dX0_replaceBits_37 (fun H locs hP _ hS => ?_)
  have hP : va_P D vwCl (ww0 cI h q1 q2 q3 (Wp_mem (upd (W_mem u) (aa / 4).toNatClampNeg (((W_mem u (aa / 4).toNatClampNeg) &&& ((ba <<< ((S0_bitOffset aa) &&& 31)) ^^^ (-1))) ||| ((va &&& ba) <<< ((S0_bitOffset aa) &&& 31)))) u)) H := hP
  have e9 : S0_replaceBits aa ba va u = Wp_mem (upd (W_mem u) (aa / 4).toNatClampNeg (((W_mem u (aa / 4).toNatClampNeg) &&& ((ba <<< ((S0_bitOffset aa) &&& 31)) ^^^ (-1))) ||| ((va &&& ba) <<< ((S0_bitOffset aa) &&& 31)))) u := by rw [S0_replaceBits]
  exact W.vret hx hb hr (fun t ht hW => ⟨⟨(), rfl, trivial, by show va_P _ _ _ t.heap; rw [e9, ht]; exact hP⟩, hS.F ht⟩) hS.2.2 dX0_replaceBits_38
theorem iwX0_tell : ∀ w ∈ wsX00, w ∈ wsX0_tell := by decide +kernel
theorem flX0_tell_23 : Cond.fieldLink RX0 23 "WordMachine" "pc" "I" ∈ wsX0_tell := by decide +kernel
theorem hdX0_tell : yX0_tell.cls = RX0 ∧ yX0_tell.cls ≠ "java/lang/invoke/MethodHandle" ∧ yX0_tell.cls ≠ "java/lang/invoke/VarHandle" ∧ (parseMethodDescriptor yX0_tell.desc).map (fun d => d.parameters.length) = some 2 := by decide +kernel
set_option maxHeartbeats 4000000 in
set_option maxRecDepth 100000 in
theorem c0_tell (l : Launch) {D : va_G} {cI : ClassId} {h q1 q2 q3 : Nat} (hap : ap4 h q1 q2 q3) (wa : Int32) (va : Int32) (u : WS)  : Ini l yX0_tell wsX0_tell 1 22 D (ty0 cI) (wa0 h q1 q2 q3) [.ref h, .int wa, .int va] (ww0 cI h q1 q2 q3 u) (ww0 cI h q1 q2 q3 (S0_tell wa va u).2) (S0_tell wa va u).1 := by
  refine Met.ofW (cc := cX0_tell) (maxL := 3) (ret := (some .int)) (by decide) rfl ?_
  intro p e s m args below meth c s₁ B hml hv
  obtain ⟨rfl, hP, hK⟩ := hv
  have hx := B.exec
  have hb := B.bytes
  have hr := B.returns
  have hts := atoms_spec (ws := wsX0_tell) B.pre
  have hown : s.vm.findClass RX0 = some m.cls := findClass_of_methodNamed B.named
  have hlocks := B.notSynchronized
  have hS : va_S (wa0 h q1 q2 q3) s.heap s.heap [] := va_S.rf
  have hl := lv_entry ([.ref h, .int wa, .int va]) (n := 3) (Nat.le_of_ble_eq_true rfl)
  rw [lg_entry_eq]
  generalize (lg_sl ([.ref h, .int wa, .int va]) ++ List.replicate (3 - (lg_sl ([.ref h, .int wa, .int va])).length) Slot.unset).toArray = ls at hl ⊢
  have hl : lv_has ls 3 [(0, .ref h), (1, .int wa), (2, .int va)] := hl
  refine lv_aload_n hx hb dX0_tell_0 rfl (lv_at hl 0 rfl) ?_
  refine lv_iload_n hx hb dX0_tell_1 rfl (lv_at hl 1 rfl) ?_
  refine pu_i (v := S0_fieldD wa) (As := [.int wa]) (rest := [.ref h]) ⟨hx, hb, hml, hown, hts⟩ (c0_fieldD l wa ) gX0_tell_X0_fieldD rfl hdX0_fieldD ⟨Nat.le_of_ble_eq_true rfl, Nat.le_of_ble_eq_true rfl⟩ hl.1 rfl (Nat.le_of_ble_eq_true rfl) dX0_tell_2 ⟨Nat.zero_le _, Nat.zero_le _⟩ hP hS (fun H locs hP hS => ?_)
  refine lv_iload_n hx hb dX0_tell_5 rfl (lv_at hl 2 rfl) ?_
  refine in_v (As := [.int (S0_fieldD wa), .int va]) (rest := []) (w1 := ww0 cI h q1 q2 q3 (S0_setRegister (S0_fieldD wa) va u)) ⟨hx, hb, hml, hown, hts⟩ (c0_setRegister l hap (S0_fieldD wa) va u ) gX0_tell_X0_setRegister rfl hdX0_setRegister ⟨Nat.le_of_ble_eq_true rfl, Nat.le_of_ble_eq_true rfl⟩ hK rfl rfl hl.1 rfl (Nat.le_of_ble_eq_true rfl) dX0_tell_6 ⟨Nat.zero_le _, Nat.zero_le _⟩ hP hS (fun _ h => h) (fun H locs hP hS _ _ => ?_)
  refine lv_aload_n hx hb dX0_tell_9 rfl (lv_at hl 0 rfl) ?_
  refine lv_dup hx hb dX0_tell_10 rfl ?_
  refine va_get (D := D) (ci := 0) (v := .int (W_pc (S0_setRegister (S0_fieldD wa) va u))) (C := RX0) (T := TX0) (N := 6) hx hb hts iwX0_tell hown hK hP 0 rfl rfl 4 (by decide) (hts (.fieldLink RX0 23 "WordMachine" "pc" "I") flX0_tell_23) (fun _ h9 => h9) rfl dX0_tell_11 ?_
  refine lv_iconst (v := 4) hx hb dX0_tell_14 (by decide) ?_
  refine lv_iadd hx hb dX0_tell_15 ?_
  refine va_put (D := D) (ci := 0) (v := .int ((W_pc (S0_setRegister (S0_fieldD wa) va u)) + 4)) (ty := .int) (C := RX0) (T := TX0) (N := 6) hx hb hts iwX0_tell tyX0 tyX0_ok nmX0 hown hK hP (ap4_D hap) hS 0 rfl rfl 4 (by decide) (hts (.fieldLink RX0 23 "WordMachine" "pc" "I") flX0_tell_23) (fun _ h9 => h9) rfl (by decide +kernel) rfl rfl (Nat.le_of_ble_eq_true rfl) dX0_tell_16 (fun H locs hP _ hS => ?_)
  have hP : va_P D vwCl (ww0 cI h q1 q2 q3 (Wp_pc ((W_pc (S0_setRegister (S0_fieldD wa) va u)) + 4) (S0_setRegister (S0_fieldD wa) va u))) H := hP
  refine lv_iconst (v := 0) hx hb dX0_tell_19 (by decide) ?_
  have e9 : S0_tell wa va u = ((0 : Int32), Wp_pc ((W_pc (S0_setRegister (S0_fieldD wa) va u)) + 4) (S0_setRegister (S0_fieldD wa) va u)) := by rw [S0_tell]
  exact W.iret (v := (0 : Int32)) hx hb hr (fun t ht hW => ⟨⟨(0 : Int32), (), rfl, by rw [e9], by show va_P _ _ _ t.heap; rw [e9, ht]; exact hP⟩, hS.F ht⟩) hS.2.2 dX0_tell_20
theorem iwX0_jump : ∀ w ∈ wsX00, w ∈ wsX0_jump := by decide +kernel
theorem flX0_jump_23 : Cond.fieldLink RX0 23 "WordMachine" "pc" "I" ∈ wsX0_jump := by decide +kernel
theorem hdX0_jump : yX0_jump.cls = RX0 ∧ yX0_jump.cls ≠ "java/lang/invoke/MethodHandle" ∧ yX0_jump.cls ≠ "java/lang/invoke/VarHandle" ∧ (parseMethodDescriptor yX0_jump.desc).map (fun d => d.parameters.length) = some 2 := by decide +kernel
set_option maxHeartbeats 4000000 in
set_option maxRecDepth 100000 in
theorem c0_jump (l : Launch) {D : va_G} {cI : ClassId} {h q1 q2 q3 : Nat} (hap : ap4 h q1 q2 q3) (wa : Int32) (ta : Int32) (u : WS)  : Ini l yX0_jump wsX0_jump 1 22 D (ty0 cI) (wa0 h q1 q2 q3) [.ref h, .int wa, .int ta] (ww0 cI h q1 q2 q3 u) (ww0 cI h q1 q2 q3 (S0_jump wa ta u).2) (S0_jump wa ta u).1 := by
  refine Met.ofW (cc := cX0_jump) (maxL := 3) (ret := (some .int)) (by decide) rfl ?_
  intro p e s m args below meth c s₁ B hml hv
  obtain ⟨rfl, hP, hK⟩ := hv
  have hx := B.exec
  have hb := B.bytes
  have hr := B.returns
  have hts := atoms_spec (ws := wsX0_jump) B.pre
  have hown : s.vm.findClass RX0 = some m.cls := findClass_of_methodNamed B.named
  have hlocks := B.notSynchronized
  have hS : va_S (wa0 h q1 q2 q3) s.heap s.heap [] := va_S.rf
  have hl := lv_entry ([.ref h, .int wa, .int ta]) (n := 3) (Nat.le_of_ble_eq_true rfl)
  rw [lg_entry_eq]
  generalize (lg_sl ([.ref h, .int wa, .int ta]) ++ List.replicate (3 - (lg_sl ([.ref h, .int wa, .int ta])).length) Slot.unset).toArray = ls at hl ⊢
  have hl : lv_has ls 3 [(0, .ref h), (1, .int wa), (2, .int ta)] := hl
  refine lv_aload_n hx hb dX0_jump_0 rfl (lv_at hl 0 rfl) ?_
  refine lv_iload_n hx hb dX0_jump_1 rfl (lv_at hl 1 rfl) ?_
  refine pu_i (v := S0_fieldD wa) (As := [.int wa]) (rest := [.ref h]) ⟨hx, hb, hml, hown, hts⟩ (c0_fieldD l wa ) gX0_jump_X0_fieldD rfl hdX0_fieldD ⟨Nat.le_of_ble_eq_true rfl, Nat.le_of_ble_eq_true rfl⟩ hl.1 rfl (Nat.le_of_ble_eq_true rfl) dX0_jump_2 ⟨Nat.zero_le _, Nat.zero_le _⟩ hP hS (fun H locs hP hS => ?_)
  refine lv_aload_n hx hb dX0_jump_5 rfl (lv_at hl 0 rfl) ?_
  refine va_get (D := D) (ci := 0) (v := .int (W_pc u)) (C := RX0) (T := TX0) (N := 6) hx hb hts iwX0_jump hown hK hP 0 rfl rfl 4 (by decide) (hts (.fieldLink RX0 23 "WordMachine" "pc" "I") flX0_jump_23) (fun _ h9 => h9) rfl dX0_jump_6 ?_
  refine lv_iconst (v := 4) hx hb dX0_jump_9 (by decide) ?_
  refine lv_iadd hx hb dX0_jump_10 ?_
  refine in_v (As := [.int (S0_fieldD wa), .int ((W_pc u) + 4)]) (rest := []) (w1 := ww0 cI h q1 q2 q3 (S0_setRegister (S0_fieldD wa) ((W_pc u) + 4) u)) ⟨hx, hb, hml, hown, hts⟩ (c0_setRegister l hap (S0_fieldD wa) ((W_pc u) + 4) u ) gX0_jump_X0_setRegister rfl hdX0_setRegister ⟨Nat.le_of_ble_eq_true rfl, Nat.le_of_ble_eq_true rfl⟩ hK rfl rfl hl.1 rfl (Nat.le_of_ble_eq_true rfl) dX0_jump_11 ⟨Nat.zero_le _, Nat.zero_le _⟩ hP hS (fun _ h => h) (fun H locs hP hS _ _ => ?_)
  refine lv_aload_n hx hb dX0_jump_14 rfl (lv_at hl 0 rfl) ?_
  refine lv_iload_n hx hb dX0_jump_15 rfl (lv_at hl 2 rfl) ?_
  refine va_put (D := D) (ci := 0) (v := .int ta) (ty := .int) (C := RX0) (T := TX0) (N := 6) hx hb hts iwX0_jump tyX0 tyX0_ok nmX0 hown hK hP (ap4_D hap) hS 0 rfl rfl 4 (by decide) (hts (.fieldLink RX0 23 "WordMachine" "pc" "I") flX0_jump_23) (fun _ h9 => h9) rfl (by decide +kernel) rfl rfl (Nat.le_of_ble_eq_true rfl) dX0_jump_16 (fun H locs hP _ hS => ?_)
  have hP : va_P D vwCl (ww0 cI h q1 q2 q3 (Wp_pc ta (S0_setRegister (S0_fieldD wa) ((W_pc u) + 4) u))) H := hP
  refine lv_iconst (v := 0) hx hb dX0_jump_19 (by decide) ?_
  have e9 : S0_jump wa ta u = ((0 : Int32), Wp_pc ta (S0_setRegister (S0_fieldD wa) ((W_pc u) + 4) u)) := by rw [S0_jump]
  exact W.iret (v := (0 : Int32)) hx hb hr (fun t ht hW => ⟨⟨(0 : Int32), (), rfl, by rw [e9], by show va_P _ _ _ t.heap; rw [e9, ht]; exact hP⟩, hS.F ht⟩) hS.2.2 dX0_jump_20
theorem iwX0_ask : ∀ w ∈ wsX00, w ∈ wsX0_ask := by decide +kernel
theorem flX0_ask_23 : Cond.fieldLink RX0 23 "WordMachine" "pc" "I" ∈ wsX0_ask := by decide +kernel
theorem hdX0_ask : yX0_ask.cls = RX0 ∧ yX0_ask.cls ≠ "java/lang/invoke/MethodHandle" ∧ yX0_ask.cls ≠ "java/lang/invoke/VarHandle" ∧ (parseMethodDescriptor yX0_ask.desc).map (fun d => d.parameters.length) = some 1 := by decide +kernel
set_option maxHeartbeats 4000000 in
set_option maxRecDepth 100000 in
theorem c0_ask (l : Launch) {D : va_G} {cI : ClassId} {h q1 q2 q3 : Nat} (hap : ap4 h q1 q2 q3) (wa : Int32) (u : WS)  : Ini l yX0_ask wsX0_ask 0 0 D (ty0 cI) (wa0 h q1 q2 q3) [.ref h, .int wa] (ww0 cI h q1 q2 q3 u) (ww0 cI h q1 q2 q3 (S0_ask wa u).2) (S0_ask wa u).1 := by
  refine Met.ofW (cc := cX0_ask) (maxL := 2) (ret := (some .int)) (by decide) rfl ?_
  intro p e s m args below meth c s₁ B hml hv
  obtain ⟨rfl, hP, hK⟩ := hv
  have hx := B.exec
  have hb := B.bytes
  have hr := B.returns
  have hts := atoms_spec (ws := wsX0_ask) B.pre
  have hown : s.vm.findClass RX0 = some m.cls := findClass_of_methodNamed B.named
  have hlocks := B.notSynchronized
  have hS : va_S (wa0 h q1 q2 q3) s.heap s.heap [] := va_S.rf
  have hl := lv_entry ([.ref h, .int wa]) (n := 2) (Nat.le_of_ble_eq_true rfl)
  rw [lg_entry_eq]
  generalize (lg_sl ([.ref h, .int wa]) ++ List.replicate (2 - (lg_sl ([.ref h, .int wa])).length) Slot.unset).toArray = ls at hl ⊢
  have hl : lv_has ls 2 [(0, .ref h), (1, .int wa)] := hl
  refine lv_iload_n hx hb dX0_ask_0 rfl (lv_at hl 1 rfl) ?_
  refine lv_bipush (v := 115) hx hb dX0_ask_1 (by decide) ?_
  refine lv_icmp_eq (tgt := 8) hx hb dX0_ask_3 (by decide) (fun (c1 : wa = 115) => ?_) (fun (c1 : ¬ wa = 115) => ?_)
  · refine lv_aload_n hx hb dX0_ask_8 rfl (lv_at hl 0 rfl) ?_
    refine lv_dup hx hb dX0_ask_9 rfl ?_
    refine va_get (D := D) (ci := 0) (v := .int (W_pc u)) (C := RX0) (T := TX0) (N := 6) hx hb hts iwX0_ask hown hK hP 0 rfl rfl 4 (by decide) (hts (.fieldLink RX0 23 "WordMachine" "pc" "I") flX0_ask_23) (fun _ h9 => h9) rfl dX0_ask_10 ?_
    refine lv_iconst (v := 4) hx hb dX0_ask_13 (by decide) ?_
    refine lv_iadd hx hb dX0_ask_14 ?_
    refine va_put (D := D) (ci := 0) (v := .int ((W_pc u) + 4)) (ty := .int) (C := RX0) (T := TX0) (N := 6) hx hb hts iwX0_ask tyX0 tyX0_ok nmX0 hown hK hP (ap4_D hap) hS 0 rfl rfl 4 (by decide) (hts (.fieldLink RX0 23 "WordMachine" "pc" "I") flX0_ask_23) (fun _ h9 => h9) rfl (by decide +kernel) rfl rfl (Nat.le_of_ble_eq_true rfl) dX0_ask_15 (fun H locs hP _ hS => ?_)
    have hP : va_P D vwCl (ww0 cI h q1 q2 q3 (Wp_pc ((W_pc u) + 4) u)) H := hP
    refine lv_iconst (v := 1) hx hb dX0_ask_18 (by decide) ?_
    have e9 : S0_ask wa u = ((1 : Int32), Wp_pc ((W_pc u) + 4) u) := by rw [S0_ask, if_pos c1]
    exact W.iret (v := (1 : Int32)) hx hb hr (fun t ht hW => ⟨⟨(1 : Int32), (), rfl, by rw [e9], by show va_P _ _ _ t.heap; rw [e9, ht]; exact hP⟩, hS.F ht⟩) hS.2.2 dX0_ask_19
  · refine lv_iconst (v := 3) hx hb dX0_ask_6 (by decide) ?_
    have e9 : S0_ask wa u = ((3 : Int32), u) := by rw [S0_ask, if_neg c1]
    exact W.iret (v := (3 : Int32)) hx hb hr (fun t ht hW => ⟨⟨(3 : Int32), (), rfl, by rw [e9], by show va_P _ _ _ t.heap; rw [e9, ht]; exact hP⟩, hS.F ht⟩) hS.2.2 dX0_ask_7
theorem hdX0_jumpToRegister : yX0_jumpToRegister.cls = RX0 ∧ yX0_jumpToRegister.cls ≠ "java/lang/invoke/MethodHandle" ∧ yX0_jumpToRegister.cls ≠ "java/lang/invoke/VarHandle" ∧ (parseMethodDescriptor yX0_jumpToRegister.desc).map (fun d => d.parameters.length) = some 1 := by decide +kernel
set_option maxHeartbeats 4000000 in
set_option maxRecDepth 100000 in
theorem c0_jumpToRegister (l : Launch) {D : va_G} {cI : ClassId} {h q1 q2 q3 : Nat} (hap : ap4 h q1 q2 q3) (wa : Int32) (u : WS)  : Ini l yX0_jumpToRegister wsX0_jumpToRegister 2 44 D (ty0 cI) (wa0 h q1 q2 q3) [.ref h, .int wa] (ww0 cI h q1 q2 q3 u) (ww0 cI h q1 q2 q3 (S0_jumpToRegister wa u).2) (S0_jumpToRegister wa u).1 := by
  refine Met.ofW (cc := cX0_jumpToRegister) (maxL := 2) (ret := (some .int)) (by decide) rfl ?_
  intro p e s m args below meth c s₁ B hml hv
  obtain ⟨rfl, hP, hK⟩ := hv
  have hx := B.exec
  have hb := B.bytes
  have hr := B.returns
  have hts := atoms_spec (ws := wsX0_jumpToRegister) B.pre
  have hown : s.vm.findClass RX0 = some m.cls := findClass_of_methodNamed B.named
  have hlocks := B.notSynchronized
  have hS : va_S (wa0 h q1 q2 q3) s.heap s.heap [] := va_S.rf
  have hl := lv_entry ([.ref h, .int wa]) (n := 2) (Nat.le_of_ble_eq_true rfl)
  rw [lg_entry_eq]
  generalize (lg_sl ([.ref h, .int wa]) ++ List.replicate (2 - (lg_sl ([.ref h, .int wa])).length) Slot.unset).toArray = ls at hl ⊢
  have hl : lv_has ls 2 [(0, .ref h), (1, .int wa)] := hl
  refine lv_iload_n hx hb dX0_jumpToRegister_0 rfl (lv_at hl 1 rfl) ?_
  refine pu_i (v := S0_fieldT wa) (As := [.int wa]) (rest := []) ⟨hx, hb, hml, hown, hts⟩ (c0_fieldT l wa ) gX0_jumpToRegister_X0_fieldT rfl hdX0_fieldT ⟨Nat.le_of_ble_eq_true rfl, Nat.le_of_ble_eq_true rfl⟩ hl.1 rfl (Nat.le_of_ble_eq_true rfl) dX0_jumpToRegister_1 ⟨Nat.zero_le _, Nat.zero_le _⟩ hP hS (fun H locs hP hS => ?_)
  refine lv_if_eq (tgt := 9) hx hb dX0_jumpToRegister_4 (by decide) (fun (c1 : (S0_fieldT wa) = 0) => ?_) (fun (c1 : ¬ (S0_fieldT wa) = 0) => ?_)
  · refine lv_aload_n hx hb dX0_jumpToRegister_9 rfl (lv_at hl 0 rfl) ?_
    refine lv_iload_n hx hb dX0_jumpToRegister_10 rfl (lv_at hl 1 rfl) ?_
    refine lv_aload_n hx hb dX0_jumpToRegister_11 rfl (lv_at hl 0 rfl) ?_
    refine lv_iload_n hx hb dX0_jumpToRegister_12 rfl (lv_at hl 1 rfl) ?_
    refine in_i (v := S0_valueX wa u) (As := [.int wa]) (rest := [.int wa, .ref h]) (w1 := ww0 cI h q1 q2 q3 u) ⟨hx, hb, hml, hown, hts⟩ (c0_valueX l hap wa u ) gX0_jumpToRegister_X0_valueX rfl hdX0_valueX ⟨Nat.le_of_ble_eq_true rfl, Nat.le_of_ble_eq_true rfl⟩ hK rfl rfl hl.1 rfl (Nat.le_of_ble_eq_true rfl) dX0_jumpToRegister_13 ⟨Nat.zero_le _, Nat.zero_le _⟩ hP hS (fun _ h => h) (fun H locs hP hS _ _ => ?_)
    refine lv_iload_n hx hb dX0_jumpToRegister_16 rfl (lv_at hl 1 rfl) ?_
    refine pu_i (v := S0_numberI wa) (As := [.int wa]) (rest := [.int (S0_valueX wa u), .int wa, .ref h]) ⟨hx, hb, hml, hown, hts⟩ (c0_numberI l wa ) gX0_jumpToRegister_X0_numberI rfl hdX0_numberI ⟨Nat.le_of_ble_eq_true rfl, Nat.le_of_ble_eq_true rfl⟩ hl.1 rfl (Nat.le_of_ble_eq_true rfl) dX0_jumpToRegister_17 ⟨Nat.zero_le _, Nat.zero_le _⟩ hP hS (fun H locs hP hS => ?_)
    refine lv_iadd hx hb dX0_jumpToRegister_20 ?_
    refine lv_bipush (v := (-2)) hx hb dX0_jumpToRegister_21 (by decide) ?_
    refine lv_iand hx hb dX0_jumpToRegister_23 ?_
    refine in_i (v := (S0_jump wa (((S0_valueX wa u) + (S0_numberI wa)) &&& (-2)) u).1) (As := [.int wa, .int (((S0_valueX wa u) + (S0_numberI wa)) &&& (-2))]) (rest := []) (w1 := ww0 cI h q1 q2 q3 ((S0_jump wa (((S0_valueX wa u) + (S0_numberI wa)) &&& (-2)) u).2)) ⟨hx, hb, hml, hown, hts⟩ (c0_jump l hap wa (((S0_valueX wa u) + (S0_numberI wa)) &&& (-2)) u ) gX0_jumpToRegister_X0_jump rfl hdX0_jump ⟨Nat.le_of_ble_eq_true rfl, Nat.le_of_ble_eq_true rfl⟩ hK rfl rfl hl.1 rfl (Nat.le_of_ble_eq_true rfl) dX0_jumpToRegister_24 ⟨Nat.zero_le _, Nat.zero_le _⟩ hP hS (fun _ h => h) (fun H locs hP hS _ _ => ?_)
    have e9 : S0_jumpToRegister wa u = ((S0_jump wa (((S0_valueX wa u) + (S0_numberI wa)) &&& (-2)) u).1, (S0_jump wa (((S0_valueX wa u) + (S0_numberI wa)) &&& (-2)) u).2) := by rw [S0_jumpToRegister, if_pos c1]
    exact W.iret (v := (S0_jump wa (((S0_valueX wa u) + (S0_numberI wa)) &&& (-2)) u).1) hx hb hr (fun t ht hW => ⟨⟨(S0_jump wa (((S0_valueX wa u) + (S0_numberI wa)) &&& (-2)) u).1, (), rfl, by rw [e9], by show va_P _ _ _ t.heap; rw [e9, ht]; exact hP⟩, hS.F ht⟩) hS.2.2 dX0_jumpToRegister_27
  · refine lv_iconst (v := 3) hx hb dX0_jumpToRegister_7 (by decide) ?_
    have e9 : S0_jumpToRegister wa u = ((3 : Int32), u) := by rw [S0_jumpToRegister, if_neg c1]
    exact W.iret (v := (3 : Int32)) hx hb hr (fun t ht hW => ⟨⟨(3 : Int32), (), rfl, by rw [e9], by show va_P _ _ _ t.heap; rw [e9, ht]; exact hP⟩, hS.F ht⟩) hS.2.2 dX0_jumpToRegister_8
theorem iwX0_branch : ∀ w ∈ wsX00, w ∈ wsX0_branch := by decide +kernel
theorem flX0_branch_23 : Cond.fieldLink RX0 23 "WordMachine" "pc" "I" ∈ wsX0_branch := by decide +kernel
theorem hdX0_branch : yX0_branch.cls = RX0 ∧ yX0_branch.cls ≠ "java/lang/invoke/MethodHandle" ∧ yX0_branch.cls ≠ "java/lang/invoke/VarHandle" ∧ (parseMethodDescriptor yX0_branch.desc).map (fun d => d.parameters.length) = some 1 := by decide +kernel
set_option maxHeartbeats 4000000 in
set_option maxRecDepth 100000 in
theorem c0_branch (l : Launch) {D : va_G} {cI : ClassId} {h q1 q2 q3 : Nat} (hap : ap4 h q1 q2 q3) (wa : Int32) (u : WS)  : Ini l yX0_branch wsX0_branch 2 42 D (ty0 cI) (wa0 h q1 q2 q3) [.ref h, .int wa] (ww0 cI h q1 q2 q3 u) (ww0 cI h q1 q2 q3 (S0_branch wa u).2) (S0_branch wa u).1 := by
  refine Met.ofW (cc := cX0_branch) (maxL := 3) (ret := (some .int)) (by decide) rfl ?_
  intro p e s m args below meth c s₁ B hml hv
  obtain ⟨rfl, hP, hK⟩ := hv
  have hx := B.exec
  have hb := B.bytes
  have hr := B.returns
  have hts := atoms_spec (ws := wsX0_branch) B.pre
  have hown : s.vm.findClass RX0 = some m.cls := findClass_of_methodNamed B.named
  have hlocks := B.notSynchronized
  have hS : va_S (wa0 h q1 q2 q3) s.heap s.heap [] := va_S.rf
  have hl := lv_entry ([.ref h, .int wa]) (n := 3) (Nat.le_of_ble_eq_true rfl)
  rw [lg_entry_eq]
  generalize (lg_sl ([.ref h, .int wa]) ++ List.replicate (3 - (lg_sl ([.ref h, .int wa])).length) Slot.unset).toArray = ls at hl ⊢
  have hl : lv_has ls 3 [(0, .ref h), (1, .int wa)] := hl
  refine lv_iload_n hx hb dX0_branch_0 rfl (lv_at hl 1 rfl) ?_
  refine pu_i (v := S0_fieldT wa) (As := [.int wa]) (rest := []) ⟨hx, hb, hml, hown, hts⟩ (c0_fieldT l wa ) gX0_branch_X0_fieldT rfl hdX0_fieldT ⟨Nat.le_of_ble_eq_true rfl, Nat.le_of_ble_eq_true rfl⟩ hl.1 rfl (Nat.le_of_ble_eq_true rfl) dX0_branch_1 ⟨Nat.zero_le _, Nat.zero_le _⟩ hP hS (fun H locs hP hS => ?_)
  refine lv_istore_n (lv' := [(2, .int (S0_fieldT wa)), (0, .ref h), (1, .int wa)]) hx hb dX0_branch_4 rfl hl (by decide) rfl (fun ls hl => ?_)
  refine lv_iload_n hx hb dX0_branch_5 rfl (lv_at hl 0 rfl) ?_
  refine lv_iconst (v := 2) hx hb dX0_branch_6 (by decide) ?_
  refine lv_icmp_eq (tgt := 15) hx hb dX0_branch_7 (by decide) (fun (c1 : (S0_fieldT wa) = 2) => ?_) (fun (c1 : ¬ (S0_fieldT wa) = 2) => ?_)
  · refine lv_iconst (v := 3) hx hb dX0_branch_15 (by decide) ?_
    have e9 : S0_branch wa u = ((3 : Int32), u) := by rw [S0_branch, if_pos c1]
    exact W.iret (v := (3 : Int32)) hx hb hr (fun t ht hW => ⟨⟨(3 : Int32), (), rfl, by rw [e9], by show va_P _ _ _ t.heap; rw [e9, ht]; exact hP⟩, hS.F ht⟩) hS.2.2 dX0_branch_16
  · refine lv_iload_n hx hb dX0_branch_10 rfl (lv_at hl 0 rfl) ?_
    refine lv_iconst (v := 3) hx hb dX0_branch_11 (by decide) ?_
    refine lv_icmp_ne (tgt := 17) hx hb dX0_branch_12 (by decide) (fun (c2 : ¬ (S0_fieldT wa) = 3) => ?_) (fun (c2 : (S0_fieldT wa) = 3) => ?_)
    · refine lv_aload_n hx hb dX0_branch_17 rfl (lv_at hl 1 rfl) ?_
      refine lv_dup hx hb dX0_branch_18 rfl ?_
      refine va_get (D := D) (ci := 0) (v := .int (W_pc u)) (C := RX0) (T := TX0) (N := 6) hx hb hts iwX0_branch hown hK hP 0 rfl rfl 4 (by decide) (hts (.fieldLink RX0 23 "WordMachine" "pc" "I") flX0_branch_23) (fun _ h9 => h9) rfl dX0_branch_19 ?_
      refine lv_iload_n hx hb dX0_branch_22 rfl (lv_at hl 0 rfl) ?_
      refine lv_aload_n hx hb dX0_branch_23 rfl (lv_at hl 1 rfl) ?_
      refine lv_iload_n hx hb dX0_branch_24 rfl (lv_at hl 2 rfl) ?_
      refine in_i (v := S0_valueX wa u) (As := [.int wa]) (rest := [.int (S0_fieldT wa), .int (W_pc u), .ref h]) (w1 := ww0 cI h q1 q2 q3 u) ⟨hx, hb, hml, hown, hts⟩ (c0_valueX l hap wa u ) gX0_branch_X0_valueX rfl hdX0_valueX ⟨Nat.le_of_ble_eq_true rfl, Nat.le_of_ble_eq_true rfl⟩ hK rfl rfl hl.1 rfl (Nat.le_of_ble_eq_true rfl) dX0_branch_25 ⟨Nat.zero_le _, Nat.zero_le _⟩ hP hS (fun _ h => h) (fun H locs hP hS _ _ => ?_)
      refine lv_aload_n hx hb dX0_branch_28 rfl (lv_at hl 1 rfl) ?_
      refine lv_iload_n hx hb dX0_branch_29 rfl (lv_at hl 2 rfl) ?_
      refine in_i (v := S0_valueY wa u) (As := [.int wa]) (rest := [.int (S0_valueX wa u), .int (S0_fieldT wa), .int (W_pc u), .ref h]) (w1 := ww0 cI h q1 q2 q3 u) ⟨hx, hb, hml, hown, hts⟩ (c0_valueY l hap wa u ) gX0_branch_X0_valueY rfl hdX0_valueY ⟨Nat.le_of_ble_eq_true rfl, Nat.le_of_ble_eq_true rfl⟩ hK rfl rfl hl.1 rfl (Nat.le_of_ble_eq_true rfl) dX0_branch_30 ⟨Nat.zero_le _, Nat.zero_le _⟩ hP hS (fun _ h => h) (fun H locs hP hS _ _ => ?_)
      refine pu_i (v := S0_holds (S0_fieldT wa) (S0_valueX wa u) (S0_valueY wa u)) (As := [.int (S0_fieldT wa), .int (S0_valueX wa u), .int (S0_valueY wa u)]) (rest := [.int (W_pc u), .ref h]) ⟨hx, hb, hml, hown, hts⟩ (c0_holds l (S0_fieldT wa) (S0_valueX wa u) (S0_valueY wa u) ) gX0_branch_X0_holds rfl hdX0_holds ⟨Nat.le_of_ble_eq_true rfl, Nat.le_of_ble_eq_true rfl⟩ hl.1 rfl (Nat.le_of_ble_eq_true rfl) dX0_branch_33 ⟨Nat.zero_le _, Nat.zero_le _⟩ hP hS (fun H locs hP hS => ?_)
      refine lv_if_eq (tgt := 46) hx hb dX0_branch_36 (by decide) (fun (c3 : (S0_holds (S0_fieldT wa) (S0_valueX wa u) (S0_valueY wa u)) = 0) => ?_) (fun (c3 : ¬ (S0_holds (S0_fieldT wa) (S0_valueX wa u) (S0_valueY wa u)) = 0) => ?_)
      · refine lv_iconst (v := 4) hx hb dX0_branch_46 (by decide) ?_
        refine lv_iadd hx hb dX0_branch_47 ?_
        refine va_put (D := D) (ci := 0) (v := .int ((W_pc u) + 4)) (ty := .int) (C := RX0) (T := TX0) (N := 6) hx hb hts iwX0_branch tyX0 tyX0_ok nmX0 hown hK hP (ap4_D hap) hS 0 rfl rfl 4 (by decide) (hts (.fieldLink RX0 23 "WordMachine" "pc" "I") flX0_branch_23) (fun _ h9 => h9) rfl (by decide +kernel) rfl rfl (Nat.le_of_ble_eq_true rfl) dX0_branch_48 (fun H locs hP _ hS => ?_)
        have hP : va_P D vwCl (ww0 cI h q1 q2 q3 (Wp_pc ((W_pc u) + 4) u)) H := hP
        refine lv_iconst (v := 0) hx hb dX0_branch_51 (by decide) ?_
        have e9 : S0_branch wa u = ((0 : Int32), Wp_pc ((W_pc u) + 4) u) := by rw [S0_branch, if_neg c1, if_neg c2, if_pos c3]
        exact W.iret (v := (0 : Int32)) hx hb hr (fun t ht hW => ⟨⟨(0 : Int32), (), rfl, by rw [e9], by show va_P _ _ _ t.heap; rw [e9, ht]; exact hP⟩, hS.F ht⟩) hS.2.2 dX0_branch_52
      · refine lv_iload_n hx hb dX0_branch_39 rfl (lv_at hl 2 rfl) ?_
        refine pu_i (v := S0_branchDistance wa) (As := [.int wa]) (rest := [.int (W_pc u), .ref h]) ⟨hx, hb, hml, hown, hts⟩ (c0_branchDistance l wa ) gX0_branch_X0_branchDistance rfl hdX0_branchDistance ⟨Nat.le_of_ble_eq_true rfl, Nat.le_of_ble_eq_true rfl⟩ hl.1 rfl (Nat.le_of_ble_eq_true rfl) dX0_branch_40 ⟨Nat.zero_le _, Nat.zero_le _⟩ hP hS (fun H locs hP hS => ?_)
        refine lv_goto (tgt := 47) hx hb dX0_branch_43 (by decide) ?_
        refine lv_iadd hx hb dX0_branch_47 ?_
        refine va_put (D := D) (ci := 0) (v := .int ((W_pc u) + (S0_branchDistance wa))) (ty := .int) (C := RX0) (T := TX0) (N := 6) hx hb hts iwX0_branch tyX0 tyX0_ok nmX0 hown hK hP (ap4_D hap) hS 0 rfl rfl 4 (by decide) (hts (.fieldLink RX0 23 "WordMachine" "pc" "I") flX0_branch_23) (fun _ h9 => h9) rfl (by decide +kernel) rfl rfl (Nat.le_of_ble_eq_true rfl) dX0_branch_48 (fun H locs hP _ hS => ?_)
        have hP : va_P D vwCl (ww0 cI h q1 q2 q3 (Wp_pc ((W_pc u) + (S0_branchDistance wa)) u)) H := hP
        refine lv_iconst (v := 0) hx hb dX0_branch_51 (by decide) ?_
        have e9 : S0_branch wa u = ((0 : Int32), Wp_pc ((W_pc u) + (S0_branchDistance wa)) u) := by rw [S0_branch, if_neg c1, if_neg c2, if_neg c3]
        exact W.iret (v := (0 : Int32)) hx hb hr (fun t ht hW => ⟨⟨(0 : Int32), (), rfl, by rw [e9], by show va_P _ _ _ t.heap; rw [e9, ht]; exact hP⟩, hS.F ht⟩) hS.2.2 dX0_branch_52
    · refine lv_iconst (v := 3) hx hb dX0_branch_15 (by decide) ?_
      have e9 : S0_branch wa u = ((3 : Int32), u) := by rw [S0_branch, if_neg c1, if_pos c2]
      exact W.iret (v := (3 : Int32)) hx hb hr (fun t ht hW => ⟨⟨(3 : Int32), (), rfl, by rw [e9], by show va_P _ _ _ t.heap; rw [e9, ht]; exact hP⟩, hS.F ht⟩) hS.2.2 dX0_branch_16
theorem iwX0_store : ∀ w ∈ wsX00, w ∈ wsX0_store := by decide +kernel
theorem flX0_store_23 : Cond.fieldLink RX0 23 "WordMachine" "pc" "I" ∈ wsX0_store := by decide +kernel
theorem hdX0_store : yX0_store.cls = RX0 ∧ yX0_store.cls ≠ "java/lang/invoke/MethodHandle" ∧ yX0_store.cls ≠ "java/lang/invoke/VarHandle" ∧ (parseMethodDescriptor yX0_store.desc).map (fun d => d.parameters.length) = some 1 := by decide +kernel
set_option maxHeartbeats 4000000 in
set_option maxRecDepth 100000 in
theorem c0_store (l : Launch) {D : va_G} {cI : ClassId} {h q1 q2 q3 : Nat} (hap : ap4 h q1 q2 q3) (wa : Int32) (u : WS)  : Ini l yX0_store wsX0_store 2 44 D (ty0 cI) (wa0 h q1 q2 q3) [.ref h, .int wa] (ww0 cI h q1 q2 q3 u) (ww0 cI h q1 q2 q3 (S0_store wa u).2) (S0_store wa u).1 := by
  refine Met.ofW (cc := cX0_store) (maxL := 4) (ret := (some .int)) (by decide) rfl ?_
  intro p e s m args below meth c s₁ B hml hv
  obtain ⟨rfl, hP, hK⟩ := hv
  have hx := B.exec
  have hb := B.bytes
  have hr := B.returns
  have hts := atoms_spec (ws := wsX0_store) B.pre
  have hown : s.vm.findClass RX0 = some m.cls := findClass_of_methodNamed B.named
  have hlocks := B.notSynchronized
  have hS : va_S (wa0 h q1 q2 q3) s.heap s.heap [] := va_S.rf
  have hl := lv_entry ([.ref h, .int wa]) (n := 4) (Nat.le_of_ble_eq_true rfl)
  rw [lg_entry_eq]
  generalize (lg_sl ([.ref h, .int wa]) ++ List.replicate (4 - (lg_sl ([.ref h, .int wa])).length) Slot.unset).toArray = ls at hl ⊢
  have hl : lv_has ls 4 [(0, .ref h), (1, .int wa)] := hl
  refine lv_iload_n hx hb dX0_store_0 rfl (lv_at hl 1 rfl) ?_
  refine pu_i (v := S0_fieldT wa) (As := [.int wa]) (rest := []) ⟨hx, hb, hml, hown, hts⟩ (c0_fieldT l wa ) gX0_store_X0_fieldT rfl hdX0_fieldT ⟨Nat.le_of_ble_eq_true rfl, Nat.le_of_ble_eq_true rfl⟩ hl.1 rfl (Nat.le_of_ble_eq_true rfl) dX0_store_1 ⟨Nat.zero_le _, Nat.zero_le _⟩ hP hS (fun H locs hP hS => ?_)
  refine lv_istore_n (lv' := [(2, .int (S0_fieldT wa)), (0, .ref h), (1, .int wa)]) hx hb dX0_store_4 rfl hl (by decide) rfl (fun ls hl => ?_)
  refine lv_iload_n hx hb dX0_store_5 rfl (lv_at hl 0 rfl) ?_
  refine lv_iconst (v := 2) hx hb dX0_store_6 (by decide) ?_
  refine lv_icmp_le (tgt := 12) hx hb dX0_store_7 (by decide) (fun (c1 : (S0_fieldT wa) ≤ 2) => ?_) (fun (c1 : ¬ (S0_fieldT wa) ≤ 2) => ?_)
  · refine lv_aload_n hx hb dX0_store_12 rfl (lv_at hl 1 rfl) ?_
    refine lv_iload_n hx hb dX0_store_13 rfl (lv_at hl 2 rfl) ?_
    refine in_i (v := S0_valueX wa u) (As := [.int wa]) (rest := []) (w1 := ww0 cI h q1 q2 q3 u) ⟨hx, hb, hml, hown, hts⟩ (c0_valueX l hap wa u ) gX0_store_X0_valueX rfl hdX0_valueX ⟨Nat.le_of_ble_eq_true rfl, Nat.le_of_ble_eq_true rfl⟩ hK rfl rfl hl.1 rfl (Nat.le_of_ble_eq_true rfl) dX0_store_14 ⟨Nat.zero_le _, Nat.zero_le _⟩ hP hS (fun _ h => h) (fun H locs hP hS _ _ => ?_)
    refine lv_iload_n hx hb dX0_store_17 rfl (lv_at hl 2 rfl) ?_
    refine pu_i (v := S0_storeDistance wa) (As := [.int wa]) (rest := [.int (S0_valueX wa u)]) ⟨hx, hb, hml, hown, hts⟩ (c0_storeDistance l wa ) gX0_store_X0_storeDistance rfl hdX0_storeDistance ⟨Nat.le_of_ble_eq_true rfl, Nat.le_of_ble_eq_true rfl⟩ hl.1 rfl (Nat.le_of_ble_eq_true rfl) dX0_store_18 ⟨Nat.zero_le _, Nat.zero_le _⟩ hP hS (fun H locs hP hS => ?_)
    refine lv_iadd hx hb dX0_store_21 ?_
    refine lv_istore_n (lv' := [(3, .int ((S0_valueX wa u) + (S0_storeDistance wa))), (2, .int (S0_fieldT wa)), (0, .ref h), (1, .int wa)]) hx hb dX0_store_22 rfl hl (by decide) rfl (fun ls hl => ?_)
    refine lv_iload_n hx hb dX0_store_23 rfl (lv_at hl 0 rfl) ?_
    refine lv_iload_n hx hb dX0_store_24 rfl (lv_at hl 1 rfl) ?_
    refine pu_i (v := S0_widthOf (S0_fieldT wa)) (As := [.int (S0_fieldT wa)]) (rest := [.int ((S0_valueX wa u) + (S0_storeDistance wa))]) ⟨hx, hb, hml, hown, hts⟩ (c0_widthOf l (S0_fieldT wa) ) gX0_store_X0_widthOf rfl hdX0_widthOf ⟨Nat.le_of_ble_eq_true rfl, Nat.le_of_ble_eq_true rfl⟩ hl.1 rfl (Nat.le_of_ble_eq_true rfl) dX0_store_25 ⟨Nat.zero_le _, Nat.zero_le _⟩ hP hS (fun H locs hP hS => ?_)
    refine pu_i (v := S0_isAddress ((S0_valueX wa u) + (S0_storeDistance wa)) (S0_widthOf (S0_fieldT wa))) (As := [.int ((S0_valueX wa u) + (S0_storeDistance wa)), .int (S0_widthOf (S0_fieldT wa))]) (rest := []) ⟨hx, hb, hml, hown, hts⟩ (c0_isAddress l ((S0_valueX wa u) + (S0_storeDistance wa)) (S0_widthOf (S0_fieldT wa)) ) gX0_store_X0_isAddress rfl hdX0_isAddress ⟨Nat.le_of_ble_eq_true rfl, Nat.le_of_ble_eq_true rfl⟩ hl.1 rfl (Nat.le_of_ble_eq_true rfl) dX0_store_28 ⟨Nat.zero_le _, Nat.zero_le _⟩ hP hS (fun H locs hP hS => ?_)
    refine lv_if_ne (tgt := 36) hx hb dX0_store_31 (by decide) (fun (c2 : ¬ (S0_isAddress ((S0_valueX wa u) + (S0_storeDistance wa)) (S0_widthOf (S0_fieldT wa))) = 0) => ?_) (fun (c2 : (S0_isAddress ((S0_valueX wa u) + (S0_storeDistance wa)) (S0_widthOf (S0_fieldT wa))) = 0) => ?_)
    · refine lv_aload_n hx hb dX0_store_36 rfl (lv_at hl 2 rfl) ?_
      refine lv_iload_n hx hb dX0_store_37 rfl (lv_at hl 0 rfl) ?_
      refine lv_iload_n hx hb dX0_store_38 rfl (lv_at hl 1 rfl) ?_
      refine pu_i (v := S0_storedBits (S0_fieldT wa)) (As := [.int (S0_fieldT wa)]) (rest := [.int ((S0_valueX wa u) + (S0_storeDistance wa)), .ref h]) ⟨hx, hb, hml, hown, hts⟩ (c0_storedBits l (S0_fieldT wa) ) gX0_store_X0_storedBits rfl hdX0_storedBits ⟨Nat.le_of_ble_eq_true rfl, Nat.le_of_ble_eq_true rfl⟩ hl.1 rfl (Nat.le_of_ble_eq_true rfl) dX0_store_39 ⟨Nat.zero_le _, Nat.zero_le _⟩ hP hS (fun H locs hP hS => ?_)
      refine lv_aload_n hx hb dX0_store_42 rfl (lv_at hl 2 rfl) ?_
      refine lv_iload_n hx hb dX0_store_43 rfl (lv_at hl 3 rfl) ?_
      refine in_i (v := S0_valueY wa u) (As := [.int wa]) (rest := [.int (S0_storedBits (S0_fieldT wa)), .int ((S0_valueX wa u) + (S0_storeDistance wa)), .ref h]) (w1 := ww0 cI h q1 q2 q3 u) ⟨hx, hb, hml, hown, hts⟩ (c0_valueY l hap wa u ) gX0_store_X0_valueY rfl hdX0_valueY ⟨Nat.le_of_ble_eq_true rfl, Nat.le_of_ble_eq_true rfl⟩ hK rfl rfl hl.1 rfl (Nat.le_of_ble_eq_true rfl) dX0_store_44 ⟨Nat.zero_le _, Nat.zero_le _⟩ hP hS (fun _ h => h) (fun H locs hP hS _ _ => ?_)
      refine in_v (As := [.int ((S0_valueX wa u) + (S0_storeDistance wa)), .int (S0_storedBits (S0_fieldT wa)), .int (S0_valueY wa u)]) (rest := []) (w1 := ww0 cI h q1 q2 q3 (S0_replaceBits ((S0_valueX wa u) + (S0_storeDistance wa)) (S0_storedBits (S0_fieldT wa)) (S0_valueY wa u) u)) ⟨hx, hb, hml, hown, hts⟩ (c0_replaceBits l hap ((S0_valueX wa u) + (S0_storeDistance wa)) (S0_storedBits (S0_fieldT wa)) (S0_valueY wa u) u (ix_addrW c2)) gX0_store_X0_replaceBits rfl hdX0_replaceBits ⟨Nat.le_of_ble_eq_true rfl, Nat.le_of_ble_eq_true rfl⟩ hK rfl rfl hl.1 rfl (Nat.le_of_ble_eq_true rfl) dX0_store_47 ⟨Nat.zero_le _, Nat.zero_le _⟩ hP hS (fun _ h => h) (fun H locs hP hS _ _ => ?_)
      refine lv_aload_n hx hb dX0_store_50 rfl (lv_at hl 2 rfl) ?_
      refine lv_dup hx hb dX0_store_51 rfl ?_
      refine va_get (D := D) (ci := 0) (v := .int (W_pc (S0_replaceBits ((S0_valueX wa u) + (S0_storeDistance wa)) (S0_storedBits (S0_fieldT wa)) (S0_valueY wa u) u))) (C := RX0) (T := TX0) (N := 6) hx hb hts iwX0_store hown hK hP 0 rfl rfl 4 (by decide) (hts (.fieldLink RX0 23 "WordMachine" "pc" "I") flX0_store_23) (fun _ h9 => h9) rfl dX0_store_52 ?_
      refine lv_iconst (v := 4) hx hb dX0_store_55 (by decide) ?_
      refine lv_iadd hx hb dX0_store_56 ?_
      refine va_put (D := D) (ci := 0) (v := .int ((W_pc (S0_replaceBits ((S0_valueX wa u) + (S0_storeDistance wa)) (S0_storedBits (S0_fieldT wa)) (S0_valueY wa u) u)) + 4)) (ty := .int) (C := RX0) (T := TX0) (N := 6) hx hb hts iwX0_store tyX0 tyX0_ok nmX0 hown hK hP (ap4_D hap) hS 0 rfl rfl 4 (by decide) (hts (.fieldLink RX0 23 "WordMachine" "pc" "I") flX0_store_23) (fun _ h9 => h9) rfl (by decide +kernel) rfl rfl (Nat.le_of_ble_eq_true rfl) dX0_store_57 (fun H locs hP _ hS => ?_)
      have hP : va_P D vwCl (ww0 cI h q1 q2 q3 (Wp_pc ((W_pc (S0_replaceBits ((S0_valueX wa u) + (S0_storeDistance wa)) (S0_storedBits (S0_fieldT wa)) (S0_valueY wa u) u)) + 4) (S0_replaceBits ((S0_valueX wa u) + (S0_storeDistance wa)) (S0_storedBits (S0_fieldT wa)) (S0_valueY wa u) u))) H := hP
      refine lv_iconst (v := 0) hx hb dX0_store_60 (by decide) ?_
      have e9 : S0_store wa u = ((0 : Int32), Wp_pc ((W_pc (S0_replaceBits ((S0_valueX wa u) + (S0_storeDistance wa)) (S0_storedBits (S0_fieldT wa)) (S0_valueY wa u) u)) + 4) (S0_replaceBits ((S0_valueX wa u) + (S0_storeDistance wa)) (S0_storedBits (S0_fieldT wa)) (S0_valueY wa u) u)) := by rw [S0_store, if_pos c1, if_neg c2]
      exact W.iret (v := (0 : Int32)) hx hb hr (fun t ht hW => ⟨⟨(0 : Int32), (), rfl, by rw [e9], by show va_P _ _ _ t.heap; rw [e9, ht]; exact hP⟩, hS.F ht⟩) hS.2.2 dX0_store_61
    · refine lv_iconst (v := 4) hx hb dX0_store_34 (by decide) ?_
      have e9 : S0_store wa u = ((4 : Int32), u) := by rw [S0_store, if_pos c1, if_pos c2]
      exact W.iret (v := (4 : Int32)) hx hb hr (fun t ht hW => ⟨⟨(4 : Int32), (), rfl, by rw [e9], by show va_P _ _ _ t.heap; rw [e9, ht]; exact hP⟩, hS.F ht⟩) hS.2.2 dX0_store_35
  · refine lv_iconst (v := 3) hx hb dX0_store_10 (by decide) ?_
    have e9 : S0_store wa u = ((3 : Int32), u) := by rw [S0_store, if_neg c1]
    exact W.iret (v := (3 : Int32)) hx hb hr (fun t ht hW => ⟨⟨(3 : Int32), (), rfl, by rw [e9], by show va_P _ _ _ t.heap; rw [e9, ht]; exact hP⟩, hS.F ht⟩) hS.2.2 dX0_store_11
theorem hdX0_load : yX0_load.cls = RX0 ∧ yX0_load.cls ≠ "java/lang/invoke/MethodHandle" ∧ yX0_load.cls ≠ "java/lang/invoke/VarHandle" ∧ (parseMethodDescriptor yX0_load.desc).map (fun d => d.parameters.length) = some 1 := by decide +kernel
set_option maxHeartbeats 4000000 in
set_option maxRecDepth 100000 in
theorem c0_load (l : Launch) {D : va_G} {cI : ClassId} {h q1 q2 q3 : Nat} (hap : ap4 h q1 q2 q3) (wa : Int32) (u : WS)  : Ini l yX0_load wsX0_load 2 44 D (ty0 cI) (wa0 h q1 q2 q3) [.ref h, .int wa] (ww0 cI h q1 q2 q3 u) (ww0 cI h q1 q2 q3 (S0_load wa u).2) (S0_load wa u).1 := by
  refine Met.ofW (cc := cX0_load) (maxL := 4) (ret := (some .int)) (by decide) rfl ?_
  intro p e s m args below meth c s₁ B hml hv
  obtain ⟨rfl, hP, hK⟩ := hv
  have hx := B.exec
  have hb := B.bytes
  have hr := B.returns
  have hts := atoms_spec (ws := wsX0_load) B.pre
  have hown : s.vm.findClass RX0 = some m.cls := findClass_of_methodNamed B.named
  have hlocks := B.notSynchronized
  have hS : va_S (wa0 h q1 q2 q3) s.heap s.heap [] := va_S.rf
  have hl := lv_entry ([.ref h, .int wa]) (n := 4) (Nat.le_of_ble_eq_true rfl)
  rw [lg_entry_eq]
  generalize (lg_sl ([.ref h, .int wa]) ++ List.replicate (4 - (lg_sl ([.ref h, .int wa])).length) Slot.unset).toArray = ls at hl ⊢
  have hl : lv_has ls 4 [(0, .ref h), (1, .int wa)] := hl
  refine lv_iload_n hx hb dX0_load_0 rfl (lv_at hl 1 rfl) ?_
  refine pu_i (v := S0_fieldT wa) (As := [.int wa]) (rest := []) ⟨hx, hb, hml, hown, hts⟩ (c0_fieldT l wa ) gX0_load_X0_fieldT rfl hdX0_fieldT ⟨Nat.le_of_ble_eq_true rfl, Nat.le_of_ble_eq_true rfl⟩ hl.1 rfl (Nat.le_of_ble_eq_true rfl) dX0_load_1 ⟨Nat.zero_le _, Nat.zero_le _⟩ hP hS (fun H locs hP hS => ?_)
  refine lv_istore_n (lv' := [(2, .int (S0_fieldT wa)), (0, .ref h), (1, .int wa)]) hx hb dX0_load_4 rfl hl (by decide) rfl (fun ls hl => ?_)
  refine lv_iload_n hx hb dX0_load_5 rfl (lv_at hl 0 rfl) ?_
  refine lv_iconst (v := 3) hx hb dX0_load_6 (by decide) ?_
  refine lv_icmp_eq (tgt := 15) hx hb dX0_load_7 (by decide) (fun (c1 : (S0_fieldT wa) = 3) => ?_) (fun (c1 : ¬ (S0_fieldT wa) = 3) => ?_)
  · refine lv_iconst (v := 3) hx hb dX0_load_15 (by decide) ?_
    have e9 : S0_load wa u = ((3 : Int32), u) := by rw [S0_load, if_pos c1]
    exact W.iret (v := (3 : Int32)) hx hb hr (fun t ht hW => ⟨⟨(3 : Int32), (), rfl, by rw [e9], by show va_P _ _ _ t.heap; rw [e9, ht]; exact hP⟩, hS.F ht⟩) hS.2.2 dX0_load_16
  · refine lv_iload_n hx hb dX0_load_10 rfl (lv_at hl 0 rfl) ?_
    refine lv_iconst (v := 5) hx hb dX0_load_11 (by decide) ?_
    refine lv_icmp_le (tgt := 17) hx hb dX0_load_12 (by decide) (fun (c2 : (S0_fieldT wa) ≤ 5) => ?_) (fun (c2 : ¬ (S0_fieldT wa) ≤ 5) => ?_)
    · refine lv_aload_n hx hb dX0_load_17 rfl (lv_at hl 1 rfl) ?_
      refine lv_iload_n hx hb dX0_load_18 rfl (lv_at hl 2 rfl) ?_
      refine in_i (v := S0_valueX wa u) (As := [.int wa]) (rest := []) (w1 := ww0 cI h q1 q2 q3 u) ⟨hx, hb, hml, hown, hts⟩ (c0_valueX l hap wa u ) gX0_load_X0_valueX rfl hdX0_valueX ⟨Nat.le_of_ble_eq_true rfl, Nat.le_of_ble_eq_true rfl⟩ hK rfl rfl hl.1 rfl (Nat.le_of_ble_eq_true rfl) dX0_load_19 ⟨Nat.zero_le _, Nat.zero_le _⟩ hP hS (fun _ h => h) (fun H locs hP hS _ _ => ?_)
      refine lv_iload_n hx hb dX0_load_22 rfl (lv_at hl 2 rfl) ?_
      refine pu_i (v := S0_numberI wa) (As := [.int wa]) (rest := [.int (S0_valueX wa u)]) ⟨hx, hb, hml, hown, hts⟩ (c0_numberI l wa ) gX0_load_X0_numberI rfl hdX0_numberI ⟨Nat.le_of_ble_eq_true rfl, Nat.le_of_ble_eq_true rfl⟩ hl.1 rfl (Nat.le_of_ble_eq_true rfl) dX0_load_23 ⟨Nat.zero_le _, Nat.zero_le _⟩ hP hS (fun H locs hP hS => ?_)
      refine lv_iadd hx hb dX0_load_26 ?_
      refine lv_istore_n (lv' := [(3, .int ((S0_valueX wa u) + (S0_numberI wa))), (2, .int (S0_fieldT wa)), (0, .ref h), (1, .int wa)]) hx hb dX0_load_27 rfl hl (by decide) rfl (fun ls hl => ?_)
      refine lv_iload_n hx hb dX0_load_28 rfl (lv_at hl 0 rfl) ?_
      refine lv_iload_n hx hb dX0_load_29 rfl (lv_at hl 1 rfl) ?_
      refine pu_i (v := S0_widthOf (S0_fieldT wa)) (As := [.int (S0_fieldT wa)]) (rest := [.int ((S0_valueX wa u) + (S0_numberI wa))]) ⟨hx, hb, hml, hown, hts⟩ (c0_widthOf l (S0_fieldT wa) ) gX0_load_X0_widthOf rfl hdX0_widthOf ⟨Nat.le_of_ble_eq_true rfl, Nat.le_of_ble_eq_true rfl⟩ hl.1 rfl (Nat.le_of_ble_eq_true rfl) dX0_load_30 ⟨Nat.zero_le _, Nat.zero_le _⟩ hP hS (fun H locs hP hS => ?_)
      refine pu_i (v := S0_isAddress ((S0_valueX wa u) + (S0_numberI wa)) (S0_widthOf (S0_fieldT wa))) (As := [.int ((S0_valueX wa u) + (S0_numberI wa)), .int (S0_widthOf (S0_fieldT wa))]) (rest := []) ⟨hx, hb, hml, hown, hts⟩ (c0_isAddress l ((S0_valueX wa u) + (S0_numberI wa)) (S0_widthOf (S0_fieldT wa)) ) gX0_load_X0_isAddress rfl hdX0_isAddress ⟨Nat.le_of_ble_eq_true rfl, Nat.le_of_ble_eq_true rfl⟩ hl.1 rfl (Nat.le_of_ble_eq_true rfl) dX0_load_33 ⟨Nat.zero_le _, Nat.zero_le _⟩ hP hS (fun H locs hP hS => ?_)
      refine lv_if_ne (tgt := 41) hx hb dX0_load_36 (by decide) (fun (c3 : ¬ (S0_isAddress ((S0_valueX wa u) + (S0_numberI wa)) (S0_widthOf (S0_fieldT wa))) = 0) => ?_) (fun (c3 : (S0_isAddress ((S0_valueX wa u) + (S0_numberI wa)) (S0_widthOf (S0_fieldT wa))) = 0) => ?_)
      · refine lv_aload_n hx hb dX0_load_41 rfl (lv_at hl 2 rfl) ?_
        refine lv_iload_n hx hb dX0_load_42 rfl (lv_at hl 3 rfl) ?_
        refine lv_iload_n hx hb dX0_load_43 rfl (lv_at hl 1 rfl) ?_
        refine lv_aload_n hx hb dX0_load_44 rfl (lv_at hl 2 rfl) ?_
        refine lv_iload_n hx hb dX0_load_45 rfl (lv_at hl 0 rfl) ?_
        refine in_i (v := S0_bitsFrom ((S0_valueX wa u) + (S0_numberI wa)) u) (As := [.int ((S0_valueX wa u) + (S0_numberI wa))]) (rest := [.int (S0_fieldT wa), .int wa, .ref h]) (w1 := ww0 cI h q1 q2 q3 u) ⟨hx, hb, hml, hown, hts⟩ (c0_bitsFrom l hap ((S0_valueX wa u) + (S0_numberI wa)) u (ix_addrW c3)) gX0_load_X0_bitsFrom rfl hdX0_bitsFrom ⟨Nat.le_of_ble_eq_true rfl, Nat.le_of_ble_eq_true rfl⟩ hK rfl rfl hl.1 rfl (Nat.le_of_ble_eq_true rfl) dX0_load_46 ⟨Nat.zero_le _, Nat.zero_le _⟩ hP hS (fun _ h => h) (fun H locs hP hS _ _ => ?_)
        refine pu_i (v := S0_loaded (S0_fieldT wa) (S0_bitsFrom ((S0_valueX wa u) + (S0_numberI wa)) u)) (As := [.int (S0_fieldT wa), .int (S0_bitsFrom ((S0_valueX wa u) + (S0_numberI wa)) u)]) (rest := [.int wa, .ref h]) ⟨hx, hb, hml, hown, hts⟩ (c0_loaded l (S0_fieldT wa) (S0_bitsFrom ((S0_valueX wa u) + (S0_numberI wa)) u) ) gX0_load_X0_loaded rfl hdX0_loaded ⟨Nat.le_of_ble_eq_true rfl, Nat.le_of_ble_eq_true rfl⟩ hl.1 rfl (Nat.le_of_ble_eq_true rfl) dX0_load_49 ⟨Nat.zero_le _, Nat.zero_le _⟩ hP hS (fun H locs hP hS => ?_)
        refine in_i (v := (S0_tell wa (S0_loaded (S0_fieldT wa) (S0_bitsFrom ((S0_valueX wa u) + (S0_numberI wa)) u)) u).1) (As := [.int wa, .int (S0_loaded (S0_fieldT wa) (S0_bitsFrom ((S0_valueX wa u) + (S0_numberI wa)) u))]) (rest := []) (w1 := ww0 cI h q1 q2 q3 ((S0_tell wa (S0_loaded (S0_fieldT wa) (S0_bitsFrom ((S0_valueX wa u) + (S0_numberI wa)) u)) u).2)) ⟨hx, hb, hml, hown, hts⟩ (c0_tell l hap wa (S0_loaded (S0_fieldT wa) (S0_bitsFrom ((S0_valueX wa u) + (S0_numberI wa)) u)) u ) gX0_load_X0_tell rfl hdX0_tell ⟨Nat.le_of_ble_eq_true rfl, Nat.le_of_ble_eq_true rfl⟩ hK rfl rfl hl.1 rfl (Nat.le_of_ble_eq_true rfl) dX0_load_52 ⟨Nat.zero_le _, Nat.zero_le _⟩ hP hS (fun _ h => h) (fun H locs hP hS _ _ => ?_)
        have e9 : S0_load wa u = ((S0_tell wa (S0_loaded (S0_fieldT wa) (S0_bitsFrom ((S0_valueX wa u) + (S0_numberI wa)) u)) u).1, (S0_tell wa (S0_loaded (S0_fieldT wa) (S0_bitsFrom ((S0_valueX wa u) + (S0_numberI wa)) u)) u).2) := by rw [S0_load, if_neg c1, if_pos c2, if_neg c3]
        exact W.iret (v := (S0_tell wa (S0_loaded (S0_fieldT wa) (S0_bitsFrom ((S0_valueX wa u) + (S0_numberI wa)) u)) u).1) hx hb hr (fun t ht hW => ⟨⟨(S0_tell wa (S0_loaded (S0_fieldT wa) (S0_bitsFrom ((S0_valueX wa u) + (S0_numberI wa)) u)) u).1, (), rfl, by rw [e9], by show va_P _ _ _ t.heap; rw [e9, ht]; exact hP⟩, hS.F ht⟩) hS.2.2 dX0_load_55
      · refine lv_iconst (v := 4) hx hb dX0_load_39 (by decide) ?_
        have e9 : S0_load wa u = ((4 : Int32), u) := by rw [S0_load, if_neg c1, if_pos c2, if_pos c3]
        exact W.iret (v := (4 : Int32)) hx hb hr (fun t ht hW => ⟨⟨(4 : Int32), (), rfl, by rw [e9], by show va_P _ _ _ t.heap; rw [e9, ht]; exact hP⟩, hS.F ht⟩) hS.2.2 dX0_load_40
    · refine lv_iconst (v := 3) hx hb dX0_load_15 (by decide) ?_
      have e9 : S0_load wa u = ((3 : Int32), u) := by rw [S0_load, if_neg c1, if_neg c2]
      exact W.iret (v := (3 : Int32)) hx hb hr (fun t ht hW => ⟨⟨(3 : Int32), (), rfl, by rw [e9], by show va_P _ _ _ t.heap; rw [e9, ht]; exact hP⟩, hS.F ht⟩) hS.2.2 dX0_load_16
theorem hdX0_calculateWithNumber : yX0_calculateWithNumber.cls = RX0 ∧ yX0_calculateWithNumber.cls ≠ "java/lang/invoke/MethodHandle" ∧ yX0_calculateWithNumber.cls ≠ "java/lang/invoke/VarHandle" ∧ (parseMethodDescriptor yX0_calculateWithNumber.desc).map (fun d => d.parameters.length) = some 1 := by decide +kernel
set_option maxHeartbeats 4000000 in
set_option maxRecDepth 100000 in
theorem c0_calculateWithNumber (l : Launch) {D : va_G} {cI : ClassId} {h q1 q2 q3 : Nat} (hap : ap4 h q1 q2 q3) (wa : Int32) (u : WS)  : Ini l yX0_calculateWithNumber wsX0_calculateWithNumber 2 44 D (ty0 cI) (wa0 h q1 q2 q3) [.ref h, .int wa] (ww0 cI h q1 q2 q3 u) (ww0 cI h q1 q2 q3 (S0_calculateWithNumber wa u).2) (S0_calculateWithNumber wa u).1 := by
  refine Met.ofW (cc := cX0_calculateWithNumber) (maxL := 4) (ret := (some .int)) (by decide) rfl ?_
  intro p e s m args below meth c s₁ B hml hv
  obtain ⟨rfl, hP, hK⟩ := hv
  have hx := B.exec
  have hb := B.bytes
  have hr := B.returns
  have hts := atoms_spec (ws := wsX0_calculateWithNumber) B.pre
  have hown : s.vm.findClass RX0 = some m.cls := findClass_of_methodNamed B.named
  have hlocks := B.notSynchronized
  have hS : va_S (wa0 h q1 q2 q3) s.heap s.heap [] := va_S.rf
  have hl := lv_entry ([.ref h, .int wa]) (n := 4) (Nat.le_of_ble_eq_true rfl)
  rw [lg_entry_eq]
  generalize (lg_sl ([.ref h, .int wa]) ++ List.replicate (4 - (lg_sl ([.ref h, .int wa])).length) Slot.unset).toArray = ls at hl ⊢
  have hl : lv_has ls 4 [(0, .ref h), (1, .int wa)] := hl
  refine lv_iload_n hx hb dX0_calculateWithNumber_0 rfl (lv_at hl 1 rfl) ?_
  refine pu_i (v := S0_fieldT wa) (As := [.int wa]) (rest := []) ⟨hx, hb, hml, hown, hts⟩ (c0_fieldT l wa ) gX0_calculateWithNumber_X0_fieldT rfl hdX0_fieldT ⟨Nat.le_of_ble_eq_true rfl, Nat.le_of_ble_eq_true rfl⟩ hl.1 rfl (Nat.le_of_ble_eq_true rfl) dX0_calculateWithNumber_1 ⟨Nat.zero_le _, Nat.zero_le _⟩ hP hS (fun H locs hP hS => ?_)
  refine lv_istore_n (lv' := [(2, .int (S0_fieldT wa)), (0, .ref h), (1, .int wa)]) hx hb dX0_calculateWithNumber_4 rfl hl (by decide) rfl (fun ls hl => ?_)
  refine lv_iload_n hx hb dX0_calculateWithNumber_5 rfl (lv_at hl 0 rfl) ?_
  refine lv_iconst (v := 1) hx hb dX0_calculateWithNumber_6 (by decide) ?_
  refine lv_icmp_eq (tgt := 34) hx hb dX0_calculateWithNumber_7 (by decide) (fun (c1 : (S0_fieldT wa) = 1) => ?_) (fun (c1 : ¬ (S0_fieldT wa) = 1) => ?_)
  · refine lv_iload_n hx hb dX0_calculateWithNumber_34 rfl (lv_at hl 2 rfl) ?_
    refine pu_i (v := S0_fieldS wa) (As := [.int wa]) (rest := []) ⟨hx, hb, hml, hown, hts⟩ (c0_fieldS l wa ) gX0_calculateWithNumber_X0_fieldS rfl hdX0_fieldS ⟨Nat.le_of_ble_eq_true rfl, Nat.le_of_ble_eq_true rfl⟩ hl.1 rfl (Nat.le_of_ble_eq_true rfl) dX0_calculateWithNumber_35 ⟨Nat.zero_le _, Nat.zero_le _⟩ hP hS (fun H locs hP hS => ?_)
    refine lv_istore_n (lv' := [(3, .int (S0_fieldS wa)), (2, .int (S0_fieldT wa)), (0, .ref h), (1, .int wa)]) hx hb dX0_calculateWithNumber_38 rfl hl (by decide) rfl (fun ls hl => ?_)
    refine lv_iload_n hx hb dX0_calculateWithNumber_39 rfl (lv_at hl 0 rfl) ?_
    refine lv_if_ne (tgt := 62) hx hb dX0_calculateWithNumber_40 (by decide) (fun (c2 : ¬ (S0_fieldS wa) = 0) => ?_) (fun (c2 : (S0_fieldS wa) = 0) => ?_)
    · refine lv_iload_n hx hb dX0_calculateWithNumber_62 rfl (lv_at hl 0 rfl) ?_
      refine lv_bipush (v := 32) hx hb dX0_calculateWithNumber_63 (by decide) ?_
      refine lv_icmp_ne (tgt := 91) hx hb dX0_calculateWithNumber_65 (by decide) (fun (c3 : ¬ (S0_fieldS wa) = 32) => ?_) (fun (c3 : (S0_fieldS wa) = 32) => ?_)
      · refine lv_iconst (v := 3) hx hb dX0_calculateWithNumber_91 (by decide) ?_
        have e9 : S0_calculateWithNumber wa u = ((3 : Int32), u) := by rw [S0_calculateWithNumber, if_pos c1, if_neg c2, if_neg c3]
        exact W.iret (v := (3 : Int32)) hx hb hr (fun t ht hW => ⟨⟨(3 : Int32), (), rfl, by rw [e9], by show va_P _ _ _ t.heap; rw [e9, ht]; exact hP⟩, hS.F ht⟩) hS.2.2 dX0_calculateWithNumber_92
      · refine lv_iload_n hx hb dX0_calculateWithNumber_68 rfl (lv_at hl 1 rfl) ?_
        refine lv_iconst (v := 5) hx hb dX0_calculateWithNumber_69 (by decide) ?_
        refine lv_icmp_ne (tgt := 91) hx hb dX0_calculateWithNumber_70 (by decide) (fun (c4 : ¬ (S0_fieldT wa) = 5) => ?_) (fun (c4 : (S0_fieldT wa) = 5) => ?_)
        · refine lv_iconst (v := 3) hx hb dX0_calculateWithNumber_91 (by decide) ?_
          have e9 : S0_calculateWithNumber wa u = ((3 : Int32), u) := by rw [S0_calculateWithNumber, if_pos c1, if_neg c2, if_pos c3, if_neg c4]
          exact W.iret (v := (3 : Int32)) hx hb hr (fun t ht hW => ⟨⟨(3 : Int32), (), rfl, by rw [e9], by show va_P _ _ _ t.heap; rw [e9, ht]; exact hP⟩, hS.F ht⟩) hS.2.2 dX0_calculateWithNumber_92
        · refine lv_aload_n hx hb dX0_calculateWithNumber_73 rfl (lv_at hl 2 rfl) ?_
          refine lv_iload_n hx hb dX0_calculateWithNumber_74 rfl (lv_at hl 3 rfl) ?_
          refine lv_aload_n hx hb dX0_calculateWithNumber_75 rfl (lv_at hl 2 rfl) ?_
          refine lv_iload_n hx hb dX0_calculateWithNumber_76 rfl (lv_at hl 3 rfl) ?_
          refine in_i (v := S0_valueX wa u) (As := [.int wa]) (rest := [.int wa, .ref h]) (w1 := ww0 cI h q1 q2 q3 u) ⟨hx, hb, hml, hown, hts⟩ (c0_valueX l hap wa u ) gX0_calculateWithNumber_X0_valueX rfl hdX0_valueX ⟨Nat.le_of_ble_eq_true rfl, Nat.le_of_ble_eq_true rfl⟩ hK rfl rfl hl.1 rfl (Nat.le_of_ble_eq_true rfl) dX0_calculateWithNumber_77 ⟨Nat.zero_le _, Nat.zero_le _⟩ hP hS (fun _ h => h) (fun H locs hP hS _ _ => ?_)
          refine lv_iload_n hx hb dX0_calculateWithNumber_80 rfl (lv_at hl 3 rfl) ?_
          refine pu_i (v := S0_fieldY wa) (As := [.int wa]) (rest := [.int (S0_valueX wa u), .int wa, .ref h]) ⟨hx, hb, hml, hown, hts⟩ (c0_fieldY l wa ) gX0_calculateWithNumber_X0_fieldY rfl hdX0_fieldY ⟨Nat.le_of_ble_eq_true rfl, Nat.le_of_ble_eq_true rfl⟩ hl.1 rfl (Nat.le_of_ble_eq_true rfl) dX0_calculateWithNumber_81 ⟨Nat.zero_le _, Nat.zero_le _⟩ hP hS (fun H locs hP hS => ?_)
          refine pu_i (v := S0_movedRightWithSign (S0_valueX wa u) (S0_fieldY wa)) (As := [.int (S0_valueX wa u), .int (S0_fieldY wa)]) (rest := [.int wa, .ref h]) ⟨hx, hb, hml, hown, hts⟩ (c0_movedRightWithSign l (S0_valueX wa u) (S0_fieldY wa) ) gX0_calculateWithNumber_X0_movedRightWithSign rfl hdX0_movedRightWithSign ⟨Nat.le_of_ble_eq_true rfl, Nat.le_of_ble_eq_true rfl⟩ hl.1 rfl (Nat.le_of_ble_eq_true rfl) dX0_calculateWithNumber_84 ⟨Nat.zero_le _, Nat.zero_le _⟩ hP hS (fun H locs hP hS => ?_)
          refine in_i (v := (S0_tell wa (S0_movedRightWithSign (S0_valueX wa u) (S0_fieldY wa)) u).1) (As := [.int wa, .int (S0_movedRightWithSign (S0_valueX wa u) (S0_fieldY wa))]) (rest := []) (w1 := ww0 cI h q1 q2 q3 ((S0_tell wa (S0_movedRightWithSign (S0_valueX wa u) (S0_fieldY wa)) u).2)) ⟨hx, hb, hml, hown, hts⟩ (c0_tell l hap wa (S0_movedRightWithSign (S0_valueX wa u) (S0_fieldY wa)) u ) gX0_calculateWithNumber_X0_tell rfl hdX0_tell ⟨Nat.le_of_ble_eq_true rfl, Nat.le_of_ble_eq_true rfl⟩ hK rfl rfl hl.1 rfl (Nat.le_of_ble_eq_true rfl) dX0_calculateWithNumber_87 ⟨Nat.zero_le _, Nat.zero_le _⟩ hP hS (fun _ h => h) (fun H locs hP hS _ _ => ?_)
          have e9 : S0_calculateWithNumber wa u = ((S0_tell wa (S0_movedRightWithSign (S0_valueX wa u) (S0_fieldY wa)) u).1, (S0_tell wa (S0_movedRightWithSign (S0_valueX wa u) (S0_fieldY wa)) u).2) := by rw [S0_calculateWithNumber, if_pos c1, if_neg c2, if_pos c3, if_pos c4]
          exact W.iret (v := (S0_tell wa (S0_movedRightWithSign (S0_valueX wa u) (S0_fieldY wa)) u).1) hx hb hr (fun t ht hW => ⟨⟨(S0_tell wa (S0_movedRightWithSign (S0_valueX wa u) (S0_fieldY wa)) u).1, (), rfl, by rw [e9], by show va_P _ _ _ t.heap; rw [e9, ht]; exact hP⟩, hS.F ht⟩) hS.2.2 dX0_calculateWithNumber_90
    · refine lv_aload_n hx hb dX0_calculateWithNumber_43 rfl (lv_at hl 2 rfl) ?_
      refine lv_iload_n hx hb dX0_calculateWithNumber_44 rfl (lv_at hl 3 rfl) ?_
      refine lv_iload_n hx hb dX0_calculateWithNumber_45 rfl (lv_at hl 1 rfl) ?_
      refine lv_aload_n hx hb dX0_calculateWithNumber_46 rfl (lv_at hl 2 rfl) ?_
      refine lv_iload_n hx hb dX0_calculateWithNumber_47 rfl (lv_at hl 3 rfl) ?_
      refine in_i (v := S0_valueX wa u) (As := [.int wa]) (rest := [.int (S0_fieldT wa), .int wa, .ref h]) (w1 := ww0 cI h q1 q2 q3 u) ⟨hx, hb, hml, hown, hts⟩ (c0_valueX l hap wa u ) gX0_calculateWithNumber_X0_valueX rfl hdX0_valueX ⟨Nat.le_of_ble_eq_true rfl, Nat.le_of_ble_eq_true rfl⟩ hK rfl rfl hl.1 rfl (Nat.le_of_ble_eq_true rfl) dX0_calculateWithNumber_48 ⟨Nat.zero_le _, Nat.zero_le _⟩ hP hS (fun _ h => h) (fun H locs hP hS _ _ => ?_)
      refine lv_iload_n hx hb dX0_calculateWithNumber_51 rfl (lv_at hl 3 rfl) ?_
      refine pu_i (v := S0_fieldY wa) (As := [.int wa]) (rest := [.int (S0_valueX wa u), .int (S0_fieldT wa), .int wa, .ref h]) ⟨hx, hb, hml, hown, hts⟩ (c0_fieldY l wa ) gX0_calculateWithNumber_X0_fieldY rfl hdX0_fieldY ⟨Nat.le_of_ble_eq_true rfl, Nat.le_of_ble_eq_true rfl⟩ hl.1 rfl (Nat.le_of_ble_eq_true rfl) dX0_calculateWithNumber_52 ⟨Nat.zero_le _, Nat.zero_le _⟩ hP hS (fun H locs hP hS => ?_)
      refine pu_i (v := S0_plain (S0_fieldT wa) (S0_valueX wa u) (S0_fieldY wa)) (As := [.int (S0_fieldT wa), .int (S0_valueX wa u), .int (S0_fieldY wa)]) (rest := [.int wa, .ref h]) ⟨hx, hb, hml, hown, hts⟩ (c0_plain l (S0_fieldT wa) (S0_valueX wa u) (S0_fieldY wa) ) gX0_calculateWithNumber_X0_plain rfl hdX0_plain ⟨Nat.le_of_ble_eq_true rfl, Nat.le_of_ble_eq_true rfl⟩ hl.1 rfl (Nat.le_of_ble_eq_true rfl) dX0_calculateWithNumber_55 ⟨Nat.zero_le _, Nat.zero_le _⟩ hP hS (fun H locs hP hS => ?_)
      refine in_i (v := (S0_tell wa (S0_plain (S0_fieldT wa) (S0_valueX wa u) (S0_fieldY wa)) u).1) (As := [.int wa, .int (S0_plain (S0_fieldT wa) (S0_valueX wa u) (S0_fieldY wa))]) (rest := []) (w1 := ww0 cI h q1 q2 q3 ((S0_tell wa (S0_plain (S0_fieldT wa) (S0_valueX wa u) (S0_fieldY wa)) u).2)) ⟨hx, hb, hml, hown, hts⟩ (c0_tell l hap wa (S0_plain (S0_fieldT wa) (S0_valueX wa u) (S0_fieldY wa)) u ) gX0_calculateWithNumber_X0_tell rfl hdX0_tell ⟨Nat.le_of_ble_eq_true rfl, Nat.le_of_ble_eq_true rfl⟩ hK rfl rfl hl.1 rfl (Nat.le_of_ble_eq_true rfl) dX0_calculateWithNumber_58 ⟨Nat.zero_le _, Nat.zero_le _⟩ hP hS (fun _ h => h) (fun H locs hP hS _ _ => ?_)
      have e9 : S0_calculateWithNumber wa u = ((S0_tell wa (S0_plain (S0_fieldT wa) (S0_valueX wa u) (S0_fieldY wa)) u).1, (S0_tell wa (S0_plain (S0_fieldT wa) (S0_valueX wa u) (S0_fieldY wa)) u).2) := by rw [S0_calculateWithNumber, if_pos c1, if_pos c2]
      exact W.iret (v := (S0_tell wa (S0_plain (S0_fieldT wa) (S0_valueX wa u) (S0_fieldY wa)) u).1) hx hb hr (fun t ht hW => ⟨⟨(S0_tell wa (S0_plain (S0_fieldT wa) (S0_valueX wa u) (S0_fieldY wa)) u).1, (), rfl, by rw [e9], by show va_P _ _ _ t.heap; rw [e9, ht]; exact hP⟩, hS.F ht⟩) hS.2.2 dX0_calculateWithNumber_61
  · refine lv_iload_n hx hb dX0_calculateWithNumber_10 rfl (lv_at hl 0 rfl) ?_
    refine lv_iconst (v := 5) hx hb dX0_calculateWithNumber_11 (by decide) ?_
    refine lv_icmp_eq (tgt := 34) hx hb dX0_calculateWithNumber_12 (by decide) (fun (c5 : (S0_fieldT wa) = 5) => ?_) (fun (c5 : ¬ (S0_fieldT wa) = 5) => ?_)
    · refine lv_iload_n hx hb dX0_calculateWithNumber_34 rfl (lv_at hl 2 rfl) ?_
      refine pu_i (v := S0_fieldS wa) (As := [.int wa]) (rest := []) ⟨hx, hb, hml, hown, hts⟩ (c0_fieldS l wa ) gX0_calculateWithNumber_X0_fieldS rfl hdX0_fieldS ⟨Nat.le_of_ble_eq_true rfl, Nat.le_of_ble_eq_true rfl⟩ hl.1 rfl (Nat.le_of_ble_eq_true rfl) dX0_calculateWithNumber_35 ⟨Nat.zero_le _, Nat.zero_le _⟩ hP hS (fun H locs hP hS => ?_)
      refine lv_istore_n (lv' := [(3, .int (S0_fieldS wa)), (2, .int (S0_fieldT wa)), (0, .ref h), (1, .int wa)]) hx hb dX0_calculateWithNumber_38 rfl hl (by decide) rfl (fun ls hl => ?_)
      refine lv_iload_n hx hb dX0_calculateWithNumber_39 rfl (lv_at hl 0 rfl) ?_
      refine lv_if_ne (tgt := 62) hx hb dX0_calculateWithNumber_40 (by decide) (fun (c6 : ¬ (S0_fieldS wa) = 0) => ?_) (fun (c6 : (S0_fieldS wa) = 0) => ?_)
      · refine lv_iload_n hx hb dX0_calculateWithNumber_62 rfl (lv_at hl 0 rfl) ?_
        refine lv_bipush (v := 32) hx hb dX0_calculateWithNumber_63 (by decide) ?_
        refine lv_icmp_ne (tgt := 91) hx hb dX0_calculateWithNumber_65 (by decide) (fun (c7 : ¬ (S0_fieldS wa) = 32) => ?_) (fun (c7 : (S0_fieldS wa) = 32) => ?_)
        · refine lv_iconst (v := 3) hx hb dX0_calculateWithNumber_91 (by decide) ?_
          have e9 : S0_calculateWithNumber wa u = ((3 : Int32), u) := by rw [S0_calculateWithNumber, if_neg c1, if_pos c5, if_neg c6, if_neg c7]
          exact W.iret (v := (3 : Int32)) hx hb hr (fun t ht hW => ⟨⟨(3 : Int32), (), rfl, by rw [e9], by show va_P _ _ _ t.heap; rw [e9, ht]; exact hP⟩, hS.F ht⟩) hS.2.2 dX0_calculateWithNumber_92
        · refine lv_iload_n hx hb dX0_calculateWithNumber_68 rfl (lv_at hl 1 rfl) ?_
          refine lv_iconst (v := 5) hx hb dX0_calculateWithNumber_69 (by decide) ?_
          refine lv_icmp_ne (tgt := 91) hx hb dX0_calculateWithNumber_70 (by decide) (fun (c8 : ¬ (S0_fieldT wa) = 5) => ?_) (fun (c8 : (S0_fieldT wa) = 5) => ?_)
          · refine lv_iconst (v := 3) hx hb dX0_calculateWithNumber_91 (by decide) ?_
            have e9 : S0_calculateWithNumber wa u = ((3 : Int32), u) := by rw [S0_calculateWithNumber, if_neg c1, if_pos c5, if_neg c6, if_pos c7, if_neg c8]
            exact W.iret (v := (3 : Int32)) hx hb hr (fun t ht hW => ⟨⟨(3 : Int32), (), rfl, by rw [e9], by show va_P _ _ _ t.heap; rw [e9, ht]; exact hP⟩, hS.F ht⟩) hS.2.2 dX0_calculateWithNumber_92
          · refine lv_aload_n hx hb dX0_calculateWithNumber_73 rfl (lv_at hl 2 rfl) ?_
            refine lv_iload_n hx hb dX0_calculateWithNumber_74 rfl (lv_at hl 3 rfl) ?_
            refine lv_aload_n hx hb dX0_calculateWithNumber_75 rfl (lv_at hl 2 rfl) ?_
            refine lv_iload_n hx hb dX0_calculateWithNumber_76 rfl (lv_at hl 3 rfl) ?_
            refine in_i (v := S0_valueX wa u) (As := [.int wa]) (rest := [.int wa, .ref h]) (w1 := ww0 cI h q1 q2 q3 u) ⟨hx, hb, hml, hown, hts⟩ (c0_valueX l hap wa u ) gX0_calculateWithNumber_X0_valueX rfl hdX0_valueX ⟨Nat.le_of_ble_eq_true rfl, Nat.le_of_ble_eq_true rfl⟩ hK rfl rfl hl.1 rfl (Nat.le_of_ble_eq_true rfl) dX0_calculateWithNumber_77 ⟨Nat.zero_le _, Nat.zero_le _⟩ hP hS (fun _ h => h) (fun H locs hP hS _ _ => ?_)
            refine lv_iload_n hx hb dX0_calculateWithNumber_80 rfl (lv_at hl 3 rfl) ?_
            refine pu_i (v := S0_fieldY wa) (As := [.int wa]) (rest := [.int (S0_valueX wa u), .int wa, .ref h]) ⟨hx, hb, hml, hown, hts⟩ (c0_fieldY l wa ) gX0_calculateWithNumber_X0_fieldY rfl hdX0_fieldY ⟨Nat.le_of_ble_eq_true rfl, Nat.le_of_ble_eq_true rfl⟩ hl.1 rfl (Nat.le_of_ble_eq_true rfl) dX0_calculateWithNumber_81 ⟨Nat.zero_le _, Nat.zero_le _⟩ hP hS (fun H locs hP hS => ?_)
            refine pu_i (v := S0_movedRightWithSign (S0_valueX wa u) (S0_fieldY wa)) (As := [.int (S0_valueX wa u), .int (S0_fieldY wa)]) (rest := [.int wa, .ref h]) ⟨hx, hb, hml, hown, hts⟩ (c0_movedRightWithSign l (S0_valueX wa u) (S0_fieldY wa) ) gX0_calculateWithNumber_X0_movedRightWithSign rfl hdX0_movedRightWithSign ⟨Nat.le_of_ble_eq_true rfl, Nat.le_of_ble_eq_true rfl⟩ hl.1 rfl (Nat.le_of_ble_eq_true rfl) dX0_calculateWithNumber_84 ⟨Nat.zero_le _, Nat.zero_le _⟩ hP hS (fun H locs hP hS => ?_)
            refine in_i (v := (S0_tell wa (S0_movedRightWithSign (S0_valueX wa u) (S0_fieldY wa)) u).1) (As := [.int wa, .int (S0_movedRightWithSign (S0_valueX wa u) (S0_fieldY wa))]) (rest := []) (w1 := ww0 cI h q1 q2 q3 ((S0_tell wa (S0_movedRightWithSign (S0_valueX wa u) (S0_fieldY wa)) u).2)) ⟨hx, hb, hml, hown, hts⟩ (c0_tell l hap wa (S0_movedRightWithSign (S0_valueX wa u) (S0_fieldY wa)) u ) gX0_calculateWithNumber_X0_tell rfl hdX0_tell ⟨Nat.le_of_ble_eq_true rfl, Nat.le_of_ble_eq_true rfl⟩ hK rfl rfl hl.1 rfl (Nat.le_of_ble_eq_true rfl) dX0_calculateWithNumber_87 ⟨Nat.zero_le _, Nat.zero_le _⟩ hP hS (fun _ h => h) (fun H locs hP hS _ _ => ?_)
            have e9 : S0_calculateWithNumber wa u = ((S0_tell wa (S0_movedRightWithSign (S0_valueX wa u) (S0_fieldY wa)) u).1, (S0_tell wa (S0_movedRightWithSign (S0_valueX wa u) (S0_fieldY wa)) u).2) := by rw [S0_calculateWithNumber, if_neg c1, if_pos c5, if_neg c6, if_pos c7, if_pos c8]
            exact W.iret (v := (S0_tell wa (S0_movedRightWithSign (S0_valueX wa u) (S0_fieldY wa)) u).1) hx hb hr (fun t ht hW => ⟨⟨(S0_tell wa (S0_movedRightWithSign (S0_valueX wa u) (S0_fieldY wa)) u).1, (), rfl, by rw [e9], by show va_P _ _ _ t.heap; rw [e9, ht]; exact hP⟩, hS.F ht⟩) hS.2.2 dX0_calculateWithNumber_90
      · refine lv_aload_n hx hb dX0_calculateWithNumber_43 rfl (lv_at hl 2 rfl) ?_
        refine lv_iload_n hx hb dX0_calculateWithNumber_44 rfl (lv_at hl 3 rfl) ?_
        refine lv_iload_n hx hb dX0_calculateWithNumber_45 rfl (lv_at hl 1 rfl) ?_
        refine lv_aload_n hx hb dX0_calculateWithNumber_46 rfl (lv_at hl 2 rfl) ?_
        refine lv_iload_n hx hb dX0_calculateWithNumber_47 rfl (lv_at hl 3 rfl) ?_
        refine in_i (v := S0_valueX wa u) (As := [.int wa]) (rest := [.int (S0_fieldT wa), .int wa, .ref h]) (w1 := ww0 cI h q1 q2 q3 u) ⟨hx, hb, hml, hown, hts⟩ (c0_valueX l hap wa u ) gX0_calculateWithNumber_X0_valueX rfl hdX0_valueX ⟨Nat.le_of_ble_eq_true rfl, Nat.le_of_ble_eq_true rfl⟩ hK rfl rfl hl.1 rfl (Nat.le_of_ble_eq_true rfl) dX0_calculateWithNumber_48 ⟨Nat.zero_le _, Nat.zero_le _⟩ hP hS (fun _ h => h) (fun H locs hP hS _ _ => ?_)
        refine lv_iload_n hx hb dX0_calculateWithNumber_51 rfl (lv_at hl 3 rfl) ?_
        refine pu_i (v := S0_fieldY wa) (As := [.int wa]) (rest := [.int (S0_valueX wa u), .int (S0_fieldT wa), .int wa, .ref h]) ⟨hx, hb, hml, hown, hts⟩ (c0_fieldY l wa ) gX0_calculateWithNumber_X0_fieldY rfl hdX0_fieldY ⟨Nat.le_of_ble_eq_true rfl, Nat.le_of_ble_eq_true rfl⟩ hl.1 rfl (Nat.le_of_ble_eq_true rfl) dX0_calculateWithNumber_52 ⟨Nat.zero_le _, Nat.zero_le _⟩ hP hS (fun H locs hP hS => ?_)
        refine pu_i (v := S0_plain (S0_fieldT wa) (S0_valueX wa u) (S0_fieldY wa)) (As := [.int (S0_fieldT wa), .int (S0_valueX wa u), .int (S0_fieldY wa)]) (rest := [.int wa, .ref h]) ⟨hx, hb, hml, hown, hts⟩ (c0_plain l (S0_fieldT wa) (S0_valueX wa u) (S0_fieldY wa) ) gX0_calculateWithNumber_X0_plain rfl hdX0_plain ⟨Nat.le_of_ble_eq_true rfl, Nat.le_of_ble_eq_true rfl⟩ hl.1 rfl (Nat.le_of_ble_eq_true rfl) dX0_calculateWithNumber_55 ⟨Nat.zero_le _, Nat.zero_le _⟩ hP hS (fun H locs hP hS => ?_)
        refine in_i (v := (S0_tell wa (S0_plain (S0_fieldT wa) (S0_valueX wa u) (S0_fieldY wa)) u).1) (As := [.int wa, .int (S0_plain (S0_fieldT wa) (S0_valueX wa u) (S0_fieldY wa))]) (rest := []) (w1 := ww0 cI h q1 q2 q3 ((S0_tell wa (S0_plain (S0_fieldT wa) (S0_valueX wa u) (S0_fieldY wa)) u).2)) ⟨hx, hb, hml, hown, hts⟩ (c0_tell l hap wa (S0_plain (S0_fieldT wa) (S0_valueX wa u) (S0_fieldY wa)) u ) gX0_calculateWithNumber_X0_tell rfl hdX0_tell ⟨Nat.le_of_ble_eq_true rfl, Nat.le_of_ble_eq_true rfl⟩ hK rfl rfl hl.1 rfl (Nat.le_of_ble_eq_true rfl) dX0_calculateWithNumber_58 ⟨Nat.zero_le _, Nat.zero_le _⟩ hP hS (fun _ h => h) (fun H locs hP hS _ _ => ?_)
        have e9 : S0_calculateWithNumber wa u = ((S0_tell wa (S0_plain (S0_fieldT wa) (S0_valueX wa u) (S0_fieldY wa)) u).1, (S0_tell wa (S0_plain (S0_fieldT wa) (S0_valueX wa u) (S0_fieldY wa)) u).2) := by rw [S0_calculateWithNumber, if_neg c1, if_pos c5, if_pos c6]
        exact W.iret (v := (S0_tell wa (S0_plain (S0_fieldT wa) (S0_valueX wa u) (S0_fieldY wa)) u).1) hx hb hr (fun t ht hW => ⟨⟨(S0_tell wa (S0_plain (S0_fieldT wa) (S0_valueX wa u) (S0_fieldY wa)) u).1, (), rfl, by rw [e9], by show va_P _ _ _ t.heap; rw [e9, ht]; exact hP⟩, hS.F ht⟩) hS.2.2 dX0_calculateWithNumber_61
    · refine lv_aload_n hx hb dX0_calculateWithNumber_15 rfl (lv_at hl 1 rfl) ?_
      refine lv_iload_n hx hb dX0_calculateWithNumber_16 rfl (lv_at hl 2 rfl) ?_
      refine lv_iload_n hx hb dX0_calculateWithNumber_17 rfl (lv_at hl 0 rfl) ?_
      refine lv_aload_n hx hb dX0_calculateWithNumber_18 rfl (lv_at hl 1 rfl) ?_
      refine lv_iload_n hx hb dX0_calculateWithNumber_19 rfl (lv_at hl 2 rfl) ?_
      refine in_i (v := S0_valueX wa u) (As := [.int wa]) (rest := [.int (S0_fieldT wa), .int wa, .ref h]) (w1 := ww0 cI h q1 q2 q3 u) ⟨hx, hb, hml, hown, hts⟩ (c0_valueX l hap wa u ) gX0_calculateWithNumber_X0_valueX rfl hdX0_valueX ⟨Nat.le_of_ble_eq_true rfl, Nat.le_of_ble_eq_true rfl⟩ hK rfl rfl hl.1 rfl (Nat.le_of_ble_eq_true rfl) dX0_calculateWithNumber_20 ⟨Nat.zero_le _, Nat.zero_le _⟩ hP hS (fun _ h => h) (fun H locs hP hS _ _ => ?_)
      refine lv_iload_n hx hb dX0_calculateWithNumber_23 rfl (lv_at hl 2 rfl) ?_
      refine pu_i (v := S0_numberI wa) (As := [.int wa]) (rest := [.int (S0_valueX wa u), .int (S0_fieldT wa), .int wa, .ref h]) ⟨hx, hb, hml, hown, hts⟩ (c0_numberI l wa ) gX0_calculateWithNumber_X0_numberI rfl hdX0_numberI ⟨Nat.le_of_ble_eq_true rfl, Nat.le_of_ble_eq_true rfl⟩ hl.1 rfl (Nat.le_of_ble_eq_true rfl) dX0_calculateWithNumber_24 ⟨Nat.zero_le _, Nat.zero_le _⟩ hP hS (fun H locs hP hS => ?_)
      refine pu_i (v := S0_plain (S0_fieldT wa) (S0_valueX wa u) (S0_numberI wa)) (As := [.int (S0_fieldT wa), .int (S0_valueX wa u), .int (S0_numberI wa)]) (rest := [.int wa, .ref h]) ⟨hx, hb, hml, hown, hts⟩ (c0_plain l (S0_fieldT wa) (S0_valueX wa u) (S0_numberI wa) ) gX0_calculateWithNumber_X0_plain rfl hdX0_plain ⟨Nat.le_of_ble_eq_true rfl, Nat.le_of_ble_eq_true rfl⟩ hl.1 rfl (Nat.le_of_ble_eq_true rfl) dX0_calculateWithNumber_27 ⟨Nat.zero_le _, Nat.zero_le _⟩ hP hS (fun H locs hP hS => ?_)
      refine in_i (v := (S0_tell wa (S0_plain (S0_fieldT wa) (S0_valueX wa u) (S0_numberI wa)) u).1) (As := [.int wa, .int (S0_plain (S0_fieldT wa) (S0_valueX wa u) (S0_numberI wa))]) (rest := []) (w1 := ww0 cI h q1 q2 q3 ((S0_tell wa (S0_plain (S0_fieldT wa) (S0_valueX wa u) (S0_numberI wa)) u).2)) ⟨hx, hb, hml, hown, hts⟩ (c0_tell l hap wa (S0_plain (S0_fieldT wa) (S0_valueX wa u) (S0_numberI wa)) u ) gX0_calculateWithNumber_X0_tell rfl hdX0_tell ⟨Nat.le_of_ble_eq_true rfl, Nat.le_of_ble_eq_true rfl⟩ hK rfl rfl hl.1 rfl (Nat.le_of_ble_eq_true rfl) dX0_calculateWithNumber_30 ⟨Nat.zero_le _, Nat.zero_le _⟩ hP hS (fun _ h => h) (fun H locs hP hS _ _ => ?_)
      have e9 : S0_calculateWithNumber wa u = ((S0_tell wa (S0_plain (S0_fieldT wa) (S0_valueX wa u) (S0_numberI wa)) u).1, (S0_tell wa (S0_plain (S0_fieldT wa) (S0_valueX wa u) (S0_numberI wa)) u).2) := by rw [S0_calculateWithNumber, if_neg c1, if_neg c5]
      exact W.iret (v := (S0_tell wa (S0_plain (S0_fieldT wa) (S0_valueX wa u) (S0_numberI wa)) u).1) hx hb hr (fun t ht hW => ⟨⟨(S0_tell wa (S0_plain (S0_fieldT wa) (S0_valueX wa u) (S0_numberI wa)) u).1, (), rfl, by rw [e9], by show va_P _ _ _ t.heap; rw [e9, ht]; exact hP⟩, hS.F ht⟩) hS.2.2 dX0_calculateWithNumber_33
theorem hdX0_calculateWithRegister : yX0_calculateWithRegister.cls = RX0 ∧ yX0_calculateWithRegister.cls ≠ "java/lang/invoke/MethodHandle" ∧ yX0_calculateWithRegister.cls ≠ "java/lang/invoke/VarHandle" ∧ (parseMethodDescriptor yX0_calculateWithRegister.desc).map (fun d => d.parameters.length) = some 1 := by decide +kernel
set_option maxHeartbeats 4000000 in
set_option maxRecDepth 100000 in
theorem c0_calculateWithRegister (l : Launch) {D : va_G} {cI : ClassId} {h q1 q2 q3 : Nat} (hap : ap4 h q1 q2 q3) (wa : Int32) (u : WS)  : Ini l yX0_calculateWithRegister wsX0_calculateWithRegister 2 45 D (ty0 cI) (wa0 h q1 q2 q3) [.ref h, .int wa] (ww0 cI h q1 q2 q3 u) (ww0 cI h q1 q2 q3 (S0_calculateWithRegister wa u).2) (S0_calculateWithRegister wa u).1 := by
  refine Met.ofW (cc := cX0_calculateWithRegister) (maxL := 5) (ret := (some .int)) (by decide) rfl ?_
  intro p e s m args below meth c s₁ B hml hv
  obtain ⟨rfl, hP, hK⟩ := hv
  have hx := B.exec
  have hb := B.bytes
  have hr := B.returns
  have hts := atoms_spec (ws := wsX0_calculateWithRegister) B.pre
  have hown : s.vm.findClass RX0 = some m.cls := findClass_of_methodNamed B.named
  have hlocks := B.notSynchronized
  have hS : va_S (wa0 h q1 q2 q3) s.heap s.heap [] := va_S.rf
  have hl := lv_entry ([.ref h, .int wa]) (n := 5) (Nat.le_of_ble_eq_true rfl)
  rw [lg_entry_eq]
  generalize (lg_sl ([.ref h, .int wa]) ++ List.replicate (5 - (lg_sl ([.ref h, .int wa])).length) Slot.unset).toArray = ls at hl ⊢
  have hl : lv_has ls 5 [(0, .ref h), (1, .int wa)] := hl
  refine lv_iload_n hx hb dX0_calculateWithRegister_0 rfl (lv_at hl 1 rfl) ?_
  refine pu_i (v := S0_fieldT wa) (As := [.int wa]) (rest := []) ⟨hx, hb, hml, hown, hts⟩ (c0_fieldT l wa ) gX0_calculateWithRegister_X0_fieldT rfl hdX0_fieldT ⟨Nat.le_of_ble_eq_true rfl, Nat.le_of_ble_eq_true rfl⟩ hl.1 rfl (Nat.le_of_ble_eq_true rfl) dX0_calculateWithRegister_1 ⟨Nat.zero_le _, Nat.zero_le _⟩ hP hS (fun H locs hP hS => ?_)
  refine lv_istore_n (lv' := [(2, .int (S0_fieldT wa)), (0, .ref h), (1, .int wa)]) hx hb dX0_calculateWithRegister_4 rfl hl (by decide) rfl (fun ls hl => ?_)
  refine lv_aload_n hx hb dX0_calculateWithRegister_5 rfl (lv_at hl 1 rfl) ?_
  refine lv_iload_n hx hb dX0_calculateWithRegister_6 rfl (lv_at hl 2 rfl) ?_
  refine in_i (v := S0_valueX wa u) (As := [.int wa]) (rest := []) (w1 := ww0 cI h q1 q2 q3 u) ⟨hx, hb, hml, hown, hts⟩ (c0_valueX l hap wa u ) gX0_calculateWithRegister_X0_valueX rfl hdX0_valueX ⟨Nat.le_of_ble_eq_true rfl, Nat.le_of_ble_eq_true rfl⟩ hK rfl rfl hl.1 rfl (Nat.le_of_ble_eq_true rfl) dX0_calculateWithRegister_7 ⟨Nat.zero_le _, Nat.zero_le _⟩ hP hS (fun _ h => h) (fun H locs hP hS _ _ => ?_)
  refine lv_istore_n (lv' := [(3, .int (S0_valueX wa u)), (2, .int (S0_fieldT wa)), (0, .ref h), (1, .int wa)]) hx hb dX0_calculateWithRegister_10 rfl hl (by decide) rfl (fun ls hl => ?_)
  refine lv_aload_n hx hb dX0_calculateWithRegister_11 rfl (lv_at hl 2 rfl) ?_
  refine lv_iload_n hx hb dX0_calculateWithRegister_12 rfl (lv_at hl 3 rfl) ?_
  refine in_i (v := S0_valueY wa u) (As := [.int wa]) (rest := []) (w1 := ww0 cI h q1 q2 q3 u) ⟨hx, hb, hml, hown, hts⟩ (c0_valueY l hap wa u ) gX0_calculateWithRegister_X0_valueY rfl hdX0_valueY ⟨Nat.le_of_ble_eq_true rfl, Nat.le_of_ble_eq_true rfl⟩ hK rfl rfl hl.1 rfl (Nat.le_of_ble_eq_true rfl) dX0_calculateWithRegister_13 ⟨Nat.zero_le _, Nat.zero_le _⟩ hP hS (fun _ h => h) (fun H locs hP hS _ _ => ?_)
  refine lv_istore (lv' := [(4, .int (S0_valueY wa u)), (3, .int (S0_valueX wa u)), (2, .int (S0_fieldT wa)), (0, .ref h), (1, .int wa)]) hx hb dX0_calculateWithRegister_16 hl (by decide) rfl (fun ls hl => ?_)
  refine lv_iload_n hx hb dX0_calculateWithRegister_18 rfl (lv_at hl 4 rfl) ?_
  refine pu_i (v := S0_fieldS wa) (As := [.int wa]) (rest := []) ⟨hx, hb, hml, hown, hts⟩ (c0_fieldS l wa ) gX0_calculateWithRegister_X0_fieldS rfl hdX0_fieldS ⟨Nat.le_of_ble_eq_true rfl, Nat.le_of_ble_eq_true rfl⟩ hl.1 rfl (Nat.le_of_ble_eq_true rfl) dX0_calculateWithRegister_19 ⟨Nat.zero_le _, Nat.zero_le _⟩ hP hS (fun H locs hP hS => ?_)
  by_cases c1 : (S0_fieldS wa) = 0
  · refine lv_lookup (off := 34) (tgt := 56) hx hb dX0_calculateWithRegister_22 (by decide) (by rw [c1] <;> rfl) (by decide) ?_
    refine lv_aload_n hx hb dX0_calculateWithRegister_56 rfl (lv_at hl 3 rfl) ?_
    refine lv_iload_n hx hb dX0_calculateWithRegister_57 rfl (lv_at hl 4 rfl) ?_
    refine lv_iload_n hx hb dX0_calculateWithRegister_58 rfl (lv_at hl 2 rfl) ?_
    refine lv_iload_n hx hb dX0_calculateWithRegister_59 rfl (lv_at hl 1 rfl) ?_
    refine lv_iload hx hb dX0_calculateWithRegister_60 (lv_at hl 0 rfl) ?_
    refine pu_i (v := S0_plain (S0_fieldT wa) (S0_valueX wa u) (S0_valueY wa u)) (As := [.int (S0_fieldT wa), .int (S0_valueX wa u), .int (S0_valueY wa u)]) (rest := [.int wa, .ref h]) ⟨hx, hb, hml, hown, hts⟩ (c0_plain l (S0_fieldT wa) (S0_valueX wa u) (S0_valueY wa u) ) gX0_calculateWithRegister_X0_plain rfl hdX0_plain ⟨Nat.le_of_ble_eq_true rfl, Nat.le_of_ble_eq_true rfl⟩ hl.1 rfl (Nat.le_of_ble_eq_true rfl) dX0_calculateWithRegister_62 ⟨Nat.zero_le _, Nat.zero_le _⟩ hP hS (fun H locs hP hS => ?_)
    refine in_i (v := (S0_tell wa (S0_plain (S0_fieldT wa) (S0_valueX wa u) (S0_valueY wa u)) u).1) (As := [.int wa, .int (S0_plain (S0_fieldT wa) (S0_valueX wa u) (S0_valueY wa u))]) (rest := []) (w1 := ww0 cI h q1 q2 q3 ((S0_tell wa (S0_plain (S0_fieldT wa) (S0_valueX wa u) (S0_valueY wa u)) u).2)) ⟨hx, hb, hml, hown, hts⟩ (c0_tell l hap wa (S0_plain (S0_fieldT wa) (S0_valueX wa u) (S0_valueY wa u)) u ) gX0_calculateWithRegister_X0_tell rfl hdX0_tell ⟨Nat.le_of_ble_eq_true rfl, Nat.le_of_ble_eq_true rfl⟩ hK rfl rfl hl.1 rfl (Nat.le_of_ble_eq_true rfl) dX0_calculateWithRegister_65 ⟨Nat.zero_le _, Nat.zero_le _⟩ hP hS (fun _ h => h) (fun H locs hP hS _ _ => ?_)
    have e9 : S0_calculateWithRegister wa u = ((S0_tell wa (S0_plain (S0_fieldT wa) (S0_valueX wa u) (S0_valueY wa u)) u).1, (S0_tell wa (S0_plain (S0_fieldT wa) (S0_valueX wa u) (S0_valueY wa u)) u).2) := by rw [S0_calculateWithRegister, if_pos c1]
    exact W.iret (v := (S0_tell wa (S0_plain (S0_fieldT wa) (S0_valueX wa u) (S0_valueY wa u)) u).1) hx hb hr (fun t ht hW => ⟨⟨(S0_tell wa (S0_plain (S0_fieldT wa) (S0_valueX wa u) (S0_valueY wa u)) u).1, (), rfl, by rw [e9], by show va_P _ _ _ t.heap; rw [e9, ht]; exact hP⟩, hS.F ht⟩) hS.2.2 dX0_calculateWithRegister_68
  · skip
    by_cases c2 : (S0_fieldS wa) = 1
    · refine lv_lookup (off := 47) (tgt := 69) hx hb dX0_calculateWithRegister_22 (by decide) (by rw [c2] <;> rfl) (by decide) ?_
      refine lv_aload_n hx hb dX0_calculateWithRegister_69 rfl (lv_at hl 3 rfl) ?_
      refine lv_iload_n hx hb dX0_calculateWithRegister_70 rfl (lv_at hl 4 rfl) ?_
      refine lv_iload_n hx hb dX0_calculateWithRegister_71 rfl (lv_at hl 2 rfl) ?_
      refine lv_iload_n hx hb dX0_calculateWithRegister_72 rfl (lv_at hl 1 rfl) ?_
      refine lv_iload hx hb dX0_calculateWithRegister_73 (lv_at hl 0 rfl) ?_
      refine pu_i (v := S0_productOrQuotient (S0_fieldT wa) (S0_valueX wa u) (S0_valueY wa u)) (As := [.int (S0_fieldT wa), .int (S0_valueX wa u), .int (S0_valueY wa u)]) (rest := [.int wa, .ref h]) ⟨hx, hb, hml, hown, hts⟩ (c0_productOrQuotient l (S0_fieldT wa) (S0_valueX wa u) (S0_valueY wa u) ) gX0_calculateWithRegister_X0_productOrQuotient rfl hdX0_productOrQuotient ⟨Nat.le_of_ble_eq_true rfl, Nat.le_of_ble_eq_true rfl⟩ hl.1 rfl (Nat.le_of_ble_eq_true rfl) dX0_calculateWithRegister_75 ⟨Nat.zero_le _, Nat.zero_le _⟩ hP hS (fun H locs hP hS => ?_)
      refine in_i (v := (S0_tell wa (S0_productOrQuotient (S0_fieldT wa) (S0_valueX wa u) (S0_valueY wa u)) u).1) (As := [.int wa, .int (S0_productOrQuotient (S0_fieldT wa) (S0_valueX wa u) (S0_valueY wa u))]) (rest := []) (w1 := ww0 cI h q1 q2 q3 ((S0_tell wa (S0_productOrQuotient (S0_fieldT wa) (S0_valueX wa u) (S0_valueY wa u)) u).2)) ⟨hx, hb, hml, hown, hts⟩ (c0_tell l hap wa (S0_productOrQuotient (S0_fieldT wa) (S0_valueX wa u) (S0_valueY wa u)) u ) gX0_calculateWithRegister_X0_tell rfl hdX0_tell ⟨Nat.le_of_ble_eq_true rfl, Nat.le_of_ble_eq_true rfl⟩ hK rfl rfl hl.1 rfl (Nat.le_of_ble_eq_true rfl) dX0_calculateWithRegister_78 ⟨Nat.zero_le _, Nat.zero_le _⟩ hP hS (fun _ h => h) (fun H locs hP hS _ _ => ?_)
      have e9 : S0_calculateWithRegister wa u = ((S0_tell wa (S0_productOrQuotient (S0_fieldT wa) (S0_valueX wa u) (S0_valueY wa u)) u).1, (S0_tell wa (S0_productOrQuotient (S0_fieldT wa) (S0_valueX wa u) (S0_valueY wa u)) u).2) := by rw [S0_calculateWithRegister, if_neg c1, if_pos c2]
      exact W.iret (v := (S0_tell wa (S0_productOrQuotient (S0_fieldT wa) (S0_valueX wa u) (S0_valueY wa u)) u).1) hx hb hr (fun t ht hW => ⟨⟨(S0_tell wa (S0_productOrQuotient (S0_fieldT wa) (S0_valueX wa u) (S0_valueY wa u)) u).1, (), rfl, by rw [e9], by show va_P _ _ _ t.heap; rw [e9, ht]; exact hP⟩, hS.F ht⟩) hS.2.2 dX0_calculateWithRegister_81
    · skip
      by_cases c3 : (S0_fieldS wa) = 32
      · refine lv_lookup (off := 60) (tgt := 82) hx hb dX0_calculateWithRegister_22 (by decide) (by rw [c3] <;> rfl) (by decide) ?_
        refine lv_iload_n hx hb dX0_calculateWithRegister_82 rfl (lv_at hl 2 rfl) ?_
        refine lv_if_ne (tgt := 96) hx hb dX0_calculateWithRegister_83 (by decide) (fun (c4 : ¬ (S0_fieldT wa) = 0) => ?_) (fun (c4 : (S0_fieldT wa) = 0) => ?_)
        · refine lv_iload_n hx hb dX0_calculateWithRegister_96 rfl (lv_at hl 2 rfl) ?_
          refine lv_iconst (v := 5) hx hb dX0_calculateWithRegister_97 (by decide) ?_
          refine lv_icmp_ne (tgt := 115) hx hb dX0_calculateWithRegister_98 (by decide) (fun (c5 : ¬ (S0_fieldT wa) = 5) => ?_) (fun (c5 : (S0_fieldT wa) = 5) => ?_)
          · refine lv_iconst (v := 3) hx hb dX0_calculateWithRegister_115 (by decide) ?_
            have e9 : S0_calculateWithRegister wa u = ((3 : Int32), u) := by rw [S0_calculateWithRegister, if_neg c1, if_neg c2, if_pos c3, if_neg c4, if_neg c5]
            exact W.iret (v := (3 : Int32)) hx hb hr (fun t ht hW => ⟨⟨(3 : Int32), (), rfl, by rw [e9], by show va_P _ _ _ t.heap; rw [e9, ht]; exact hP⟩, hS.F ht⟩) hS.2.2 dX0_calculateWithRegister_116
          · refine lv_aload_n hx hb dX0_calculateWithRegister_101 rfl (lv_at hl 3 rfl) ?_
            refine lv_iload_n hx hb dX0_calculateWithRegister_102 rfl (lv_at hl 4 rfl) ?_
            refine lv_iload_n hx hb dX0_calculateWithRegister_103 rfl (lv_at hl 1 rfl) ?_
            refine lv_iload hx hb dX0_calculateWithRegister_104 (lv_at hl 0 rfl) ?_
            refine pu_i (v := S0_movedRightWithSign (S0_valueX wa u) (S0_valueY wa u)) (As := [.int (S0_valueX wa u), .int (S0_valueY wa u)]) (rest := [.int wa, .ref h]) ⟨hx, hb, hml, hown, hts⟩ (c0_movedRightWithSign l (S0_valueX wa u) (S0_valueY wa u) ) gX0_calculateWithRegister_X0_movedRightWithSign rfl hdX0_movedRightWithSign ⟨Nat.le_of_ble_eq_true rfl, Nat.le_of_ble_eq_true rfl⟩ hl.1 rfl (Nat.le_of_ble_eq_true rfl) dX0_calculateWithRegister_106 ⟨Nat.zero_le _, Nat.zero_le _⟩ hP hS (fun H locs hP hS => ?_)
            refine in_i (v := (S0_tell wa (S0_movedRightWithSign (S0_valueX wa u) (S0_valueY wa u)) u).1) (As := [.int wa, .int (S0_movedRightWithSign (S0_valueX wa u) (S0_valueY wa u))]) (rest := []) (w1 := ww0 cI h q1 q2 q3 ((S0_tell wa (S0_movedRightWithSign (S0_valueX wa u) (S0_valueY wa u)) u).2)) ⟨hx, hb, hml, hown, hts⟩ (c0_tell l hap wa (S0_movedRightWithSign (S0_valueX wa u) (S0_valueY wa u)) u ) gX0_calculateWithRegister_X0_tell rfl hdX0_tell ⟨Nat.le_of_ble_eq_true rfl, Nat.le_of_ble_eq_true rfl⟩ hK rfl rfl hl.1 rfl (Nat.le_of_ble_eq_true rfl) dX0_calculateWithRegister_109 ⟨Nat.zero_le _, Nat.zero_le _⟩ hP hS (fun _ h => h) (fun H locs hP hS _ _ => ?_)
            refine lv_goto (tgt := 116) hx hb dX0_calculateWithRegister_112 (by decide) ?_
            have e9 : S0_calculateWithRegister wa u = ((S0_tell wa (S0_movedRightWithSign (S0_valueX wa u) (S0_valueY wa u)) u).1, (S0_tell wa (S0_movedRightWithSign (S0_valueX wa u) (S0_valueY wa u)) u).2) := by rw [S0_calculateWithRegister, if_neg c1, if_neg c2, if_pos c3, if_neg c4, if_pos c5]
            exact W.iret (v := (S0_tell wa (S0_movedRightWithSign (S0_valueX wa u) (S0_valueY wa u)) u).1) hx hb hr (fun t ht hW => ⟨⟨(S0_tell wa (S0_movedRightWithSign (S0_valueX wa u) (S0_valueY wa u)) u).1, (), rfl, by rw [e9], by show va_P _ _ _ t.heap; rw [e9, ht]; exact hP⟩, hS.F ht⟩) hS.2.2 dX0_calculateWithRegister_116
        · refine lv_aload_n hx hb dX0_calculateWithRegister_86 rfl (lv_at hl 3 rfl) ?_
          refine lv_iload_n hx hb dX0_calculateWithRegister_87 rfl (lv_at hl 4 rfl) ?_
          refine lv_iload_n hx hb dX0_calculateWithRegister_88 rfl (lv_at hl 1 rfl) ?_
          refine lv_iload hx hb dX0_calculateWithRegister_89 (lv_at hl 0 rfl) ?_
          refine lv_isub hx hb dX0_calculateWithRegister_91 ?_
          refine in_i (v := (S0_tell wa ((S0_valueX wa u) - (S0_valueY wa u)) u).1) (As := [.int wa, .int ((S0_valueX wa u) - (S0_valueY wa u))]) (rest := []) (w1 := ww0 cI h q1 q2 q3 ((S0_tell wa ((S0_valueX wa u) - (S0_valueY wa u)) u).2)) ⟨hx, hb, hml, hown, hts⟩ (c0_tell l hap wa ((S0_valueX wa u) - (S0_valueY wa u)) u ) gX0_calculateWithRegister_X0_tell rfl hdX0_tell ⟨Nat.le_of_ble_eq_true rfl, Nat.le_of_ble_eq_true rfl⟩ hK rfl rfl hl.1 rfl (Nat.le_of_ble_eq_true rfl) dX0_calculateWithRegister_92 ⟨Nat.zero_le _, Nat.zero_le _⟩ hP hS (fun _ h => h) (fun H locs hP hS _ _ => ?_)
          have e9 : S0_calculateWithRegister wa u = ((S0_tell wa ((S0_valueX wa u) - (S0_valueY wa u)) u).1, (S0_tell wa ((S0_valueX wa u) - (S0_valueY wa u)) u).2) := by rw [S0_calculateWithRegister, if_neg c1, if_neg c2, if_pos c3, if_pos c4]
          exact W.iret (v := (S0_tell wa ((S0_valueX wa u) - (S0_valueY wa u)) u).1) hx hb hr (fun t ht hW => ⟨⟨(S0_tell wa ((S0_valueX wa u) - (S0_valueY wa u)) u).1, (), rfl, by rw [e9], by show va_P _ _ _ t.heap; rw [e9, ht]; exact hP⟩, hS.F ht⟩) hS.2.2 dX0_calculateWithRegister_95
      · skip
        refine lv_lookup (off := 95) (tgt := 117) hx hb dX0_calculateWithRegister_22 (by decide) (by rw [lv_osw c1 (show (0 : Int32).toInt = 0 from by decide), lv_osw c2 (show (1 : Int32).toInt = 1 from by decide), lv_osw c3 (show (32 : Int32).toInt = 32 from by decide)] <;> rfl) (by decide) ?_
        refine lv_iconst (v := 3) hx hb dX0_calculateWithRegister_117 (by decide) ?_
        have e9 : S0_calculateWithRegister wa u = ((3 : Int32), u) := by rw [S0_calculateWithRegister, if_neg c1, if_neg c2, if_neg c3]
        exact W.iret (v := (3 : Int32)) hx hb hr (fun t ht hW => ⟨⟨(3 : Int32), (), rfl, by rw [e9], by show va_P _ _ _ t.heap; rw [e9, ht]; exact hP⟩, hS.F ht⟩) hS.2.2 dX0_calculateWithRegister_118
theorem iwX0_perform : ∀ w ∈ wsX00, w ∈ wsX0_perform := by decide +kernel
theorem flX0_perform_23 : Cond.fieldLink RX0 23 "WordMachine" "pc" "I" ∈ wsX0_perform := by decide +kernel
theorem hdX0_perform : yX0_perform.cls = RX0 ∧ yX0_perform.cls ≠ "java/lang/invoke/MethodHandle" ∧ yX0_perform.cls ≠ "java/lang/invoke/VarHandle" ∧ (parseMethodDescriptor yX0_perform.desc).map (fun d => d.parameters.length) = some 1 := by decide +kernel
set_option maxHeartbeats 4000000 in
set_option maxRecDepth 100000 in
theorem c0_perform (l : Launch) {D : va_G} {cI : ClassId} {h q1 q2 q3 : Nat} (hap : ap4 h q1 q2 q3) (wa : Int32) (u : WS)  : Ini l yX0_perform wsX0_perform 3 69 D (ty0 cI) (wa0 h q1 q2 q3) [.ref h, .int wa] (ww0 cI h q1 q2 q3 u) (ww0 cI h q1 q2 q3 (S0_perform wa u).2) (S0_perform wa u).1 := by
  refine Met.ofW (cc := cX0_perform) (maxL := 2) (ret := (some .int)) (by decide) rfl ?_
  intro p e s m args below meth c s₁ B hml hv
  obtain ⟨rfl, hP, hK⟩ := hv
  have hx := B.exec
  have hb := B.bytes
  have hr := B.returns
  have hts := atoms_spec (ws := wsX0_perform) B.pre
  have hown : s.vm.findClass RX0 = some m.cls := findClass_of_methodNamed B.named
  have hlocks := B.notSynchronized
  have hS : va_S (wa0 h q1 q2 q3) s.heap s.heap [] := va_S.rf
  have hl := lv_entry ([.ref h, .int wa]) (n := 2) (Nat.le_of_ble_eq_true rfl)
  rw [lg_entry_eq]
  generalize (lg_sl ([.ref h, .int wa]) ++ List.replicate (2 - (lg_sl ([.ref h, .int wa])).length) Slot.unset).toArray = ls at hl ⊢
  have hl : lv_has ls 2 [(0, .ref h), (1, .int wa)] := hl
  refine lv_iload_n hx hb dX0_perform_0 rfl (lv_at hl 1 rfl) ?_
  refine pu_i (v := S0_fieldOp wa) (As := [.int wa]) (rest := []) ⟨hx, hb, hml, hown, hts⟩ (c0_fieldOp l wa ) gX0_perform_X0_fieldOp rfl hdX0_fieldOp ⟨Nat.le_of_ble_eq_true rfl, Nat.le_of_ble_eq_true rfl⟩ hl.1 rfl (Nat.le_of_ble_eq_true rfl) dX0_perform_1 ⟨Nat.zero_le _, Nat.zero_le _⟩ hP hS (fun H locs hP hS => ?_)
  by_cases c1 : (S0_fieldOp wa) = 3
  · refine lv_lookup (off := 131) (tgt := 135) hx hb dX0_perform_4 (by decide) (by rw [c1] <;> rfl) (by decide) ?_
    refine lv_aload_n hx hb dX0_perform_135 rfl (lv_at hl 0 rfl) ?_
    refine lv_iload_n hx hb dX0_perform_136 rfl (lv_at hl 1 rfl) ?_
    refine in_i (v := (S0_load wa u).1) (As := [.int wa]) (rest := []) (w1 := ww0 cI h q1 q2 q3 ((S0_load wa u).2)) ⟨hx, hb, hml, hown, hts⟩ (c0_load l hap wa u ) gX0_perform_X0_load rfl hdX0_load ⟨Nat.le_of_ble_eq_true rfl, Nat.le_of_ble_eq_true rfl⟩ hK rfl rfl hl.1 rfl (Nat.le_of_ble_eq_true rfl) dX0_perform_137 ⟨Nat.zero_le _, Nat.zero_le _⟩ hP hS (fun _ h => h) (fun H locs hP hS _ _ => ?_)
    have e9 : S0_perform wa u = ((S0_load wa u).1, (S0_load wa u).2) := by rw [S0_perform, if_pos c1]
    exact W.iret (v := (S0_load wa u).1) hx hb hr (fun t ht hW => ⟨⟨(S0_load wa u).1, (), rfl, by rw [e9], by show va_P _ _ _ t.heap; rw [e9, ht]; exact hP⟩, hS.F ht⟩) hS.2.2 dX0_perform_140
  · skip
    by_cases c2 : (S0_fieldOp wa) = 19
    · refine lv_lookup (off := 92) (tgt := 96) hx hb dX0_perform_4 (by decide) (by rw [c2] <;> rfl) (by decide) ?_
      refine lv_aload_n hx hb dX0_perform_96 rfl (lv_at hl 0 rfl) ?_
      refine lv_iload_n hx hb dX0_perform_97 rfl (lv_at hl 1 rfl) ?_
      refine in_i (v := (S0_calculateWithNumber wa u).1) (As := [.int wa]) (rest := []) (w1 := ww0 cI h q1 q2 q3 ((S0_calculateWithNumber wa u).2)) ⟨hx, hb, hml, hown, hts⟩ (c0_calculateWithNumber l hap wa u ) gX0_perform_X0_calculateWithNumber rfl hdX0_calculateWithNumber ⟨Nat.le_of_ble_eq_true rfl, Nat.le_of_ble_eq_true rfl⟩ hK rfl rfl hl.1 rfl (Nat.le_of_ble_eq_true rfl) dX0_perform_98 ⟨Nat.zero_le _, Nat.zero_le _⟩ hP hS (fun _ h => h) (fun H locs hP hS _ _ => ?_)
      have e9 : S0_perform wa u = ((S0_calculateWithNumber wa u).1, (S0_calculateWithNumber wa u).2) := by rw [S0_perform, if_neg c1, if_pos c2]
      exact W.iret (v := (S0_calculateWithNumber wa u).1) hx hb hr (fun t ht hW => ⟨⟨(S0_calculateWithNumber wa u).1, (), rfl, by rw [e9], by show va_P _ _ _ t.heap; rw [e9, ht]; exact hP⟩, hS.F ht⟩) hS.2.2 dX0_perform_101
    · skip
      by_cases c3 : (S0_fieldOp wa) = 23
      · refine lv_lookup (off := 115) (tgt := 119) hx hb dX0_perform_4 (by decide) (by rw [c3] <;> rfl) (by decide) ?_
        refine lv_aload_n hx hb dX0_perform_119 rfl (lv_at hl 0 rfl) ?_
        refine lv_iload_n hx hb dX0_perform_120 rfl (lv_at hl 1 rfl) ?_
        refine lv_aload_n hx hb dX0_perform_121 rfl (lv_at hl 0 rfl) ?_
        refine va_get (D := D) (ci := 0) (v := .int (W_pc u)) (C := RX0) (T := TX0) (N := 6) hx hb hts iwX0_perform hown hK hP 0 rfl rfl 4 (by decide) (hts (.fieldLink RX0 23 "WordMachine" "pc" "I") flX0_perform_23) (fun _ h9 => h9) rfl dX0_perform_122 ?_
        refine lv_iload_n hx hb dX0_perform_125 rfl (lv_at hl 1 rfl) ?_
        refine lv_sipush (v := (-4096)) hx hb dX0_perform_126 (by decide) ?_
        refine lv_iand hx hb dX0_perform_129 ?_
        refine lv_iadd hx hb dX0_perform_130 ?_
        refine in_i (v := (S0_tell wa ((W_pc u) + (wa &&& (-4096))) u).1) (As := [.int wa, .int ((W_pc u) + (wa &&& (-4096)))]) (rest := []) (w1 := ww0 cI h q1 q2 q3 ((S0_tell wa ((W_pc u) + (wa &&& (-4096))) u).2)) ⟨hx, hb, hml, hown, hts⟩ (c0_tell l hap wa ((W_pc u) + (wa &&& (-4096))) u ) gX0_perform_X0_tell rfl hdX0_tell ⟨Nat.le_of_ble_eq_true rfl, Nat.le_of_ble_eq_true rfl⟩ hK rfl rfl hl.1 rfl (Nat.le_of_ble_eq_true rfl) dX0_perform_131 ⟨Nat.zero_le _, Nat.zero_le _⟩ hP hS (fun _ h => h) (fun H locs hP hS _ _ => ?_)
        have e9 : S0_perform wa u = ((S0_tell wa ((W_pc u) + (wa &&& (-4096))) u).1, (S0_tell wa ((W_pc u) + (wa &&& (-4096))) u).2) := by rw [S0_perform, if_neg c1, if_neg c2, if_pos c3]
        exact W.iret (v := (S0_tell wa ((W_pc u) + (wa &&& (-4096))) u).1) hx hb hr (fun t ht hW => ⟨⟨(S0_tell wa ((W_pc u) + (wa &&& (-4096))) u).1, (), rfl, by rw [e9], by show va_P _ _ _ t.heap; rw [e9, ht]; exact hP⟩, hS.F ht⟩) hS.2.2 dX0_perform_134
      · skip
        by_cases c4 : (S0_fieldOp wa) = 35
        · refine lv_lookup (off := 137) (tgt := 141) hx hb dX0_perform_4 (by decide) (by rw [c4] <;> rfl) (by decide) ?_
          refine lv_aload_n hx hb dX0_perform_141 rfl (lv_at hl 0 rfl) ?_
          refine lv_iload_n hx hb dX0_perform_142 rfl (lv_at hl 1 rfl) ?_
          refine in_i (v := (S0_store wa u).1) (As := [.int wa]) (rest := []) (w1 := ww0 cI h q1 q2 q3 ((S0_store wa u).2)) ⟨hx, hb, hml, hown, hts⟩ (c0_store l hap wa u ) gX0_perform_X0_store rfl hdX0_store ⟨Nat.le_of_ble_eq_true rfl, Nat.le_of_ble_eq_true rfl⟩ hK rfl rfl hl.1 rfl (Nat.le_of_ble_eq_true rfl) dX0_perform_143 ⟨Nat.zero_le _, Nat.zero_le _⟩ hP hS (fun _ h => h) (fun H locs hP hS _ _ => ?_)
          have e9 : S0_perform wa u = ((S0_store wa u).1, (S0_store wa u).2) := by rw [S0_perform, if_neg c1, if_neg c2, if_neg c3, if_pos c4]
          exact W.iret (v := (S0_store wa u).1) hx hb hr (fun t ht hW => ⟨⟨(S0_store wa u).1, (), rfl, by rw [e9], by show va_P _ _ _ t.heap; rw [e9, ht]; exact hP⟩, hS.F ht⟩) hS.2.2 dX0_perform_146
        · skip
          by_cases c5 : (S0_fieldOp wa) = 51
          · refine lv_lookup (off := 98) (tgt := 102) hx hb dX0_perform_4 (by decide) (by rw [c5] <;> rfl) (by decide) ?_
            refine lv_aload_n hx hb dX0_perform_102 rfl (lv_at hl 0 rfl) ?_
            refine lv_iload_n hx hb dX0_perform_103 rfl (lv_at hl 1 rfl) ?_
            refine in_i (v := (S0_calculateWithRegister wa u).1) (As := [.int wa]) (rest := []) (w1 := ww0 cI h q1 q2 q3 ((S0_calculateWithRegister wa u).2)) ⟨hx, hb, hml, hown, hts⟩ (c0_calculateWithRegister l hap wa u ) gX0_perform_X0_calculateWithRegister rfl hdX0_calculateWithRegister ⟨Nat.le_of_ble_eq_true rfl, Nat.le_of_ble_eq_true rfl⟩ hK rfl rfl hl.1 rfl (Nat.le_of_ble_eq_true rfl) dX0_perform_104 ⟨Nat.zero_le _, Nat.zero_le _⟩ hP hS (fun _ h => h) (fun H locs hP hS _ _ => ?_)
            have e9 : S0_perform wa u = ((S0_calculateWithRegister wa u).1, (S0_calculateWithRegister wa u).2) := by rw [S0_perform, if_neg c1, if_neg c2, if_neg c3, if_neg c4, if_pos c5]
            exact W.iret (v := (S0_calculateWithRegister wa u).1) hx hb hr (fun t ht hW => ⟨⟨(S0_calculateWithRegister wa u).1, (), rfl, by rw [e9], by show va_P _ _ _ t.heap; rw [e9, ht]; exact hP⟩, hS.F ht⟩) hS.2.2 dX0_perform_107
          · skip
            by_cases c6 : (S0_fieldOp wa) = 55
            · refine lv_lookup (off := 104) (tgt := 108) hx hb dX0_perform_4 (by decide) (by rw [c6] <;> rfl) (by decide) ?_
              refine lv_aload_n hx hb dX0_perform_108 rfl (lv_at hl 0 rfl) ?_
              refine lv_iload_n hx hb dX0_perform_109 rfl (lv_at hl 1 rfl) ?_
              refine lv_iload_n hx hb dX0_perform_110 rfl (lv_at hl 1 rfl) ?_
              refine lv_sipush (v := (-4096)) hx hb dX0_perform_111 (by decide) ?_
              refine lv_iand hx hb dX0_perform_114 ?_
              refine in_i (v := (S0_tell wa (wa &&& (-4096)) u).1) (As := [.int wa, .int (wa &&& (-4096))]) (rest := []) (w1 := ww0 cI h q1 q2 q3 ((S0_tell wa (wa &&& (-4096)) u).2)) ⟨hx, hb, hml, hown, hts⟩ (c0_tell l hap wa (wa &&& (-4096)) u ) gX0_perform_X0_tell rfl hdX0_tell ⟨Nat.le_of_ble_eq_true rfl, Nat.le_of_ble_eq_true rfl⟩ hK rfl rfl hl.1 rfl (Nat.le_of_ble_eq_true rfl) dX0_perform_115 ⟨Nat.zero_le _, Nat.zero_le _⟩ hP hS (fun _ h => h) (fun H locs hP hS _ _ => ?_)
              have e9 : S0_perform wa u = ((S0_tell wa (wa &&& (-4096)) u).1, (S0_tell wa (wa &&& (-4096)) u).2) := by rw [S0_perform, if_neg c1, if_neg c2, if_neg c3, if_neg c4, if_neg c5, if_pos c6]
              exact W.iret (v := (S0_tell wa (wa &&& (-4096)) u).1) hx hb hr (fun t ht hW => ⟨⟨(S0_tell wa (wa &&& (-4096)) u).1, (), rfl, by rw [e9], by show va_P _ _ _ t.heap; rw [e9, ht]; exact hP⟩, hS.F ht⟩) hS.2.2 dX0_perform_118
            · skip
              by_cases c7 : (S0_fieldOp wa) = 99
              · refine lv_lookup (off := 143) (tgt := 147) hx hb dX0_perform_4 (by decide) (by rw [c7] <;> rfl) (by decide) ?_
                refine lv_aload_n hx hb dX0_perform_147 rfl (lv_at hl 0 rfl) ?_
                refine lv_iload_n hx hb dX0_perform_148 rfl (lv_at hl 1 rfl) ?_
                refine in_i (v := (S0_branch wa u).1) (As := [.int wa]) (rest := []) (w1 := ww0 cI h q1 q2 q3 ((S0_branch wa u).2)) ⟨hx, hb, hml, hown, hts⟩ (c0_branch l hap wa u ) gX0_perform_X0_branch rfl hdX0_branch ⟨Nat.le_of_ble_eq_true rfl, Nat.le_of_ble_eq_true rfl⟩ hK rfl rfl hl.1 rfl (Nat.le_of_ble_eq_true rfl) dX0_perform_149 ⟨Nat.zero_le _, Nat.zero_le _⟩ hP hS (fun _ h => h) (fun H locs hP hS _ _ => ?_)
                have e9 : S0_perform wa u = ((S0_branch wa u).1, (S0_branch wa u).2) := by rw [S0_perform, if_neg c1, if_neg c2, if_neg c3, if_neg c4, if_neg c5, if_neg c6, if_pos c7]
                exact W.iret (v := (S0_branch wa u).1) hx hb hr (fun t ht hW => ⟨⟨(S0_branch wa u).1, (), rfl, by rw [e9], by show va_P _ _ _ t.heap; rw [e9, ht]; exact hP⟩, hS.F ht⟩) hS.2.2 dX0_perform_152
              · skip
                by_cases c8 : (S0_fieldOp wa) = 103
                · refine lv_lookup (off := 164) (tgt := 168) hx hb dX0_perform_4 (by decide) (by rw [c8] <;> rfl) (by decide) ?_
                  refine lv_aload_n hx hb dX0_perform_168 rfl (lv_at hl 0 rfl) ?_
                  refine lv_iload_n hx hb dX0_perform_169 rfl (lv_at hl 1 rfl) ?_
                  refine in_i (v := (S0_jumpToRegister wa u).1) (As := [.int wa]) (rest := []) (w1 := ww0 cI h q1 q2 q3 ((S0_jumpToRegister wa u).2)) ⟨hx, hb, hml, hown, hts⟩ (c0_jumpToRegister l hap wa u ) gX0_perform_X0_jumpToRegister rfl hdX0_jumpToRegister ⟨Nat.le_of_ble_eq_true rfl, Nat.le_of_ble_eq_true rfl⟩ hK rfl rfl hl.1 rfl (Nat.le_of_ble_eq_true rfl) dX0_perform_170 ⟨Nat.zero_le _, Nat.zero_le _⟩ hP hS (fun _ h => h) (fun H locs hP hS _ _ => ?_)
                  have e9 : S0_perform wa u = ((S0_jumpToRegister wa u).1, (S0_jumpToRegister wa u).2) := by rw [S0_perform, if_neg c1, if_neg c2, if_neg c3, if_neg c4, if_neg c5, if_neg c6, if_neg c7, if_pos c8]
                  exact W.iret (v := (S0_jumpToRegister wa u).1) hx hb hr (fun t ht hW => ⟨⟨(S0_jumpToRegister wa u).1, (), rfl, by rw [e9], by show va_P _ _ _ t.heap; rw [e9, ht]; exact hP⟩, hS.F ht⟩) hS.2.2 dX0_perform_173
                · skip
                  by_cases c9 : (S0_fieldOp wa) = 111
                  · refine lv_lookup (off := 149) (tgt := 153) hx hb dX0_perform_4 (by decide) (by rw [c9] <;> rfl) (by decide) ?_
                    refine lv_aload_n hx hb dX0_perform_153 rfl (lv_at hl 0 rfl) ?_
                    refine lv_iload_n hx hb dX0_perform_154 rfl (lv_at hl 1 rfl) ?_
                    refine lv_aload_n hx hb dX0_perform_155 rfl (lv_at hl 0 rfl) ?_
                    refine va_get (D := D) (ci := 0) (v := .int (W_pc u)) (C := RX0) (T := TX0) (N := 6) hx hb hts iwX0_perform hown hK hP 0 rfl rfl 4 (by decide) (hts (.fieldLink RX0 23 "WordMachine" "pc" "I") flX0_perform_23) (fun _ h9 => h9) rfl dX0_perform_156 ?_
                    refine lv_iload_n hx hb dX0_perform_159 rfl (lv_at hl 1 rfl) ?_
                    refine pu_i (v := S0_jumpDistance wa) (As := [.int wa]) (rest := [.int (W_pc u), .int wa, .ref h]) ⟨hx, hb, hml, hown, hts⟩ (c0_jumpDistance l wa ) gX0_perform_X0_jumpDistance rfl hdX0_jumpDistance ⟨Nat.le_of_ble_eq_true rfl, Nat.le_of_ble_eq_true rfl⟩ hl.1 rfl (Nat.le_of_ble_eq_true rfl) dX0_perform_160 ⟨Nat.zero_le _, Nat.zero_le _⟩ hP hS (fun H locs hP hS => ?_)
                    refine lv_iadd hx hb dX0_perform_163 ?_
                    refine in_i (v := (S0_jump wa ((W_pc u) + (S0_jumpDistance wa)) u).1) (As := [.int wa, .int ((W_pc u) + (S0_jumpDistance wa))]) (rest := []) (w1 := ww0 cI h q1 q2 q3 ((S0_jump wa ((W_pc u) + (S0_jumpDistance wa)) u).2)) ⟨hx, hb, hml, hown, hts⟩ (c0_jump l hap wa ((W_pc u) + (S0_jumpDistance wa)) u ) gX0_perform_X0_jump rfl hdX0_jump ⟨Nat.le_of_ble_eq_true rfl, Nat.le_of_ble_eq_true rfl⟩ hK rfl rfl hl.1 rfl (Nat.le_of_ble_eq_true rfl) dX0_perform_164 ⟨Nat.zero_le _, Nat.zero_le _⟩ hP hS (fun _ h => h) (fun H locs hP hS _ _ => ?_)
                    have e9 : S0_perform wa u = ((S0_jump wa ((W_pc u) + (S0_jumpDistance wa)) u).1, (S0_jump wa ((W_pc u) + (S0_jumpDistance wa)) u).2) := by rw [S0_perform, if_neg c1, if_neg c2, if_neg c3, if_neg c4, if_neg c5, if_neg c6, if_neg c7, if_neg c8, if_pos c9]
                    exact W.iret (v := (S0_jump wa ((W_pc u) + (S0_jumpDistance wa)) u).1) hx hb hr (fun t ht hW => ⟨⟨(S0_jump wa ((W_pc u) + (S0_jumpDistance wa)) u).1, (), rfl, by rw [e9], by show va_P _ _ _ t.heap; rw [e9, ht]; exact hP⟩, hS.F ht⟩) hS.2.2 dX0_perform_167
                  · skip
                    by_cases c10 : (S0_fieldOp wa) = 115
                    · refine lv_lookup (off := 170) (tgt := 174) hx hb dX0_perform_4 (by decide) (by rw [c10] <;> rfl) (by decide) ?_
                      refine lv_aload_n hx hb dX0_perform_174 rfl (lv_at hl 0 rfl) ?_
                      refine lv_iload_n hx hb dX0_perform_175 rfl (lv_at hl 1 rfl) ?_
                      refine in_i (v := (S0_ask wa u).1) (As := [.int wa]) (rest := []) (w1 := ww0 cI h q1 q2 q3 ((S0_ask wa u).2)) ⟨hx, hb, hml, hown, hts⟩ (c0_ask l hap wa u ) gX0_perform_X0_ask rfl hdX0_ask ⟨Nat.le_of_ble_eq_true rfl, Nat.le_of_ble_eq_true rfl⟩ hK rfl rfl hl.1 rfl (Nat.le_of_ble_eq_true rfl) dX0_perform_176 ⟨Nat.zero_le _, Nat.zero_le _⟩ hP hS (fun _ h => h) (fun H locs hP hS _ _ => ?_)
                      have e9 : S0_perform wa u = ((S0_ask wa u).1, (S0_ask wa u).2) := by rw [S0_perform, if_neg c1, if_neg c2, if_neg c3, if_neg c4, if_neg c5, if_neg c6, if_neg c7, if_neg c8, if_neg c9, if_pos c10]
                      exact W.iret (v := (S0_ask wa u).1) hx hb hr (fun t ht hW => ⟨⟨(S0_ask wa u).1, (), rfl, by rw [e9], by show va_P _ _ _ t.heap; rw [e9, ht]; exact hP⟩, hS.F ht⟩) hS.2.2 dX0_perform_179
                    · skip
                      refine lv_lookup (off := 176) (tgt := 180) hx hb dX0_perform_4 (by decide) (by rw [lv_osw c1 (show (3 : Int32).toInt = 3 from by decide), lv_osw c2 (show (19 : Int32).toInt = 19 from by decide), lv_osw c3 (show (23 : Int32).toInt = 23 from by decide), lv_osw c4 (show (35 : Int32).toInt = 35 from by decide), lv_osw c5 (show (51 : Int32).toInt = 51 from by decide), lv_osw c6 (show (55 : Int32).toInt = 55 from by decide), lv_osw c7 (show (99 : Int32).toInt = 99 from by decide), lv_osw c8 (show (103 : Int32).toInt = 103 from by decide), lv_osw c9 (show (111 : Int32).toInt = 111 from by decide), lv_osw c10 (show (115 : Int32).toInt = 115 from by decide)] <;> rfl) (by decide) ?_
                      refine lv_iconst (v := 3) hx hb dX0_perform_180 (by decide) ?_
                      have e9 : S0_perform wa u = ((3 : Int32), u) := by rw [S0_perform, if_neg c1, if_neg c2, if_neg c3, if_neg c4, if_neg c5, if_neg c6, if_neg c7, if_neg c8, if_neg c9, if_neg c10]
                      exact W.iret (v := (3 : Int32)) hx hb hr (fun t ht hW => ⟨⟨(3 : Int32), (), rfl, by rw [e9], by show va_P _ _ _ t.heap; rw [e9, ht]; exact hP⟩, hS.F ht⟩) hS.2.2 dX0_perform_181
theorem iwX0_step : ∀ w ∈ wsX00, w ∈ wsX0_step := by decide +kernel
theorem flX0_step_9 : Cond.fieldLink RX0 9 "WordMachine" "code" "[I" ∈ wsX0_step := by decide +kernel
theorem flX0_step_23 : Cond.fieldLink RX0 23 "WordMachine" "pc" "I" ∈ wsX0_step := by decide +kernel
theorem flX0_step_26 : Cond.fieldLink RX0 26 "WordMachine" "stepsDone" "I" ∈ wsX0_step := by decide +kernel
theorem hdX0_step : yX0_step.cls = RX0 ∧ yX0_step.cls ≠ "java/lang/invoke/MethodHandle" ∧ yX0_step.cls ≠ "java/lang/invoke/VarHandle" ∧ (parseMethodDescriptor yX0_step.desc).map (fun d => d.parameters.length) = some 0 := by decide +kernel
set_option maxHeartbeats 4000000 in
set_option maxRecDepth 100000 in
theorem c0_step (l : Launch) {D : va_G} {cI : ClassId} {h q1 q2 q3 : Nat} (hap : ap4 h q1 q2 q3)  (u : WS) (hw : W_wc u ≤ 1024) : Ini l yX0_step wsX0_step 4 90 D (ty0 cI) (wa0 h q1 q2 q3) [.ref h] (ww0 cI h q1 q2 q3 u) (ww0 cI h q1 q2 q3 (S0_step u).2) (S0_step u).1 := by
  refine Met.ofW (cc := cX0_step) (maxL := 2) (ret := (some .int)) (by decide) rfl ?_
  intro p e s m args below meth c s₁ B hml hv
  obtain ⟨rfl, hP, hK⟩ := hv
  have hx := B.exec
  have hb := B.bytes
  have hr := B.returns
  have hts := atoms_spec (ws := wsX0_step) B.pre
  have hown : s.vm.findClass RX0 = some m.cls := findClass_of_methodNamed B.named
  have hlocks := B.notSynchronized
  have hS : va_S (wa0 h q1 q2 q3) s.heap s.heap [] := va_S.rf
  have hl := lv_entry ([.ref h]) (n := 2) (Nat.le_of_ble_eq_true rfl)
  rw [lg_entry_eq]
  generalize (lg_sl ([.ref h]) ++ List.replicate (2 - (lg_sl ([.ref h])).length) Slot.unset).toArray = ls at hl ⊢
  have hl : lv_has ls 2 [(0, .ref h)] := hl
  refine lv_aload_n hx hb dX0_step_0 rfl (lv_at hl 0 rfl) ?_
  refine lv_aload_n hx hb dX0_step_1 rfl (lv_at hl 0 rfl) ?_
  refine va_get (D := D) (ci := 0) (v := .int (W_pc u)) (C := RX0) (T := TX0) (N := 6) hx hb hts iwX0_step hown hK hP 0 rfl rfl 4 (by decide) (hts (.fieldLink RX0 23 "WordMachine" "pc" "I") flX0_step_23) (fun _ h9 => h9) rfl dX0_step_2 ?_
  refine in_i (v := S0_isPlaceOfWord (W_pc u) u) (As := [.int (W_pc u)]) (rest := []) (w1 := ww0 cI h q1 q2 q3 u) ⟨hx, hb, hml, hown, hts⟩ (c0_isPlaceOfWord l hap (W_pc u) u ) gX0_step_X0_isPlaceOfWord rfl hdX0_isPlaceOfWord ⟨Nat.le_of_ble_eq_true rfl, Nat.le_of_ble_eq_true rfl⟩ hK rfl rfl hl.1 rfl (Nat.le_of_ble_eq_true rfl) dX0_step_5 ⟨Nat.zero_le _, Nat.zero_le _⟩ hP hS (fun _ h => h) (fun H locs hP hS _ _ => ?_)
  refine lv_if_ne (tgt := 13) hx hb dX0_step_8 (by decide) (fun (c1 : ¬ (S0_isPlaceOfWord (W_pc u) u) = 0) => ?_) (fun (c1 : (S0_isPlaceOfWord (W_pc u) u) = 0) => ?_)
  · refine lv_aload_n hx hb dX0_step_13 rfl (lv_at hl 0 rfl) ?_
    refine lv_aload_n hx hb dX0_step_14 rfl (lv_at hl 0 rfl) ?_
    refine va_get (D := D) (ci := 0) (v := .ref q1) (C := RX0) (T := TX0) (N := 6) hx hb hts iwX0_step hown hK hP 0 rfl rfl 0 (by decide) (hts (.fieldLink RX0 9 "WordMachine" "code" "[I") flX0_step_9) (fun _ h9 => h9) rfl dX0_step_15 ?_
    refine lv_aload_n hx hb dX0_step_18 rfl (lv_at hl 0 rfl) ?_
    refine va_get (D := D) (ci := 0) (v := .int (W_pc u)) (C := RX0) (T := TX0) (N := 6) hx hb hts iwX0_step hown hK hP 0 rfl rfl 4 (by decide) (hts (.fieldLink RX0 23 "WordMachine" "pc" "I") flX0_step_23) (fun _ h9 => h9) rfl dX0_step_19 ?_
    refine lv_iconst (v := 4) hx hb dX0_step_22 (by decide) ?_
    refine lv_idiv hx hb dX0_step_23 (by decide) ?_
    refine va_iald hx hb hK hP 1 0 rfl rfl (ix_place c1 hw) dX0_step_24 ?_
    refine in_i (v := (S0_perform (W_code u ((W_pc u) / 4).toNatClampNeg) u).1) (As := [.int (W_code u ((W_pc u) / 4).toNatClampNeg)]) (rest := []) (w1 := ww0 cI h q1 q2 q3 ((S0_perform (W_code u ((W_pc u) / 4).toNatClampNeg) u).2)) ⟨hx, hb, hml, hown, hts⟩ (c0_perform l hap (W_code u ((W_pc u) / 4).toNatClampNeg) u ) gX0_step_X0_perform rfl hdX0_perform ⟨Nat.le_of_ble_eq_true rfl, Nat.le_of_ble_eq_true rfl⟩ hK rfl rfl hl.1 rfl (Nat.le_of_ble_eq_true rfl) dX0_step_25 ⟨Nat.zero_le _, Nat.zero_le _⟩ hP hS (fun _ h => h) (fun H locs hP hS _ _ => ?_)
    refine lv_istore_n (lv' := [(1, .int ((S0_perform (W_code u ((W_pc u) / 4).toNatClampNeg) u).1)), (0, .ref h)]) hx hb dX0_step_28 rfl hl (by decide) rfl (fun ls hl => ?_)
    refine lv_iload_n hx hb dX0_step_29 rfl (lv_at hl 0 rfl) ?_
    refine lv_if_eq (tgt := 38) hx hb dX0_step_30 (by decide) (fun (c2 : ((S0_perform (W_code u ((W_pc u) / 4).toNatClampNeg) u).1) = 0) => ?_) (fun (c2 : ¬ ((S0_perform (W_code u ((W_pc u) / 4).toNatClampNeg) u).1) = 0) => ?_)
    · refine lv_aload_n hx hb dX0_step_38 rfl (lv_at hl 1 rfl) ?_
      refine lv_dup hx hb dX0_step_39 rfl ?_
      refine va_get (D := D) (ci := 0) (v := .int (W_st ((S0_perform (W_code u ((W_pc u) / 4).toNatClampNeg) u).2))) (C := RX0) (T := TX0) (N := 6) hx hb hts iwX0_step hown hK hP 0 rfl rfl 5 (by decide) (hts (.fieldLink RX0 26 "WordMachine" "stepsDone" "I") flX0_step_26) (fun _ h9 => h9) rfl dX0_step_40 ?_
      refine lv_iconst (v := 1) hx hb dX0_step_43 (by decide) ?_
      refine lv_iadd hx hb dX0_step_44 ?_
      refine va_put (D := D) (ci := 0) (v := .int ((W_st ((S0_perform (W_code u ((W_pc u) / 4).toNatClampNeg) u).2)) + 1)) (ty := .int) (C := RX0) (T := TX0) (N := 6) hx hb hts iwX0_step tyX0 tyX0_ok nmX0 hown hK hP (ap4_D hap) hS 0 rfl rfl 5 (by decide) (hts (.fieldLink RX0 26 "WordMachine" "stepsDone" "I") flX0_step_26) (fun _ h9 => h9) rfl (by decide +kernel) rfl rfl (Nat.le_of_ble_eq_true rfl) dX0_step_45 (fun H locs hP _ hS => ?_)
      have hP : va_P D vwCl (ww0 cI h q1 q2 q3 (Wp_st ((W_st ((S0_perform (W_code u ((W_pc u) / 4).toNatClampNeg) u).2)) + 1) ((S0_perform (W_code u ((W_pc u) / 4).toNatClampNeg) u).2))) H := hP
      refine lv_iload_n hx hb dX0_step_48 rfl (lv_at hl 0 rfl) ?_
      have e9 : S0_step u = ((S0_perform (W_code u ((W_pc u) / 4).toNatClampNeg) u).1, Wp_st ((W_st ((S0_perform (W_code u ((W_pc u) / 4).toNatClampNeg) u).2)) + 1) ((S0_perform (W_code u ((W_pc u) / 4).toNatClampNeg) u).2)) := by rw [S0_step, if_neg c1, if_pos c2]
      exact W.iret (v := (S0_perform (W_code u ((W_pc u) / 4).toNatClampNeg) u).1) hx hb hr (fun t ht hW => ⟨⟨(S0_perform (W_code u ((W_pc u) / 4).toNatClampNeg) u).1, (), rfl, by rw [e9], by show va_P _ _ _ t.heap; rw [e9, ht]; exact hP⟩, hS.F ht⟩) hS.2.2 dX0_step_49
    · refine lv_iload_n hx hb dX0_step_33 rfl (lv_at hl 0 rfl) ?_
      refine lv_iconst (v := 1) hx hb dX0_step_34 (by decide) ?_
      refine lv_icmp_ne (tgt := 48) hx hb dX0_step_35 (by decide) (fun (c3 : ¬ ((S0_perform (W_code u ((W_pc u) / 4).toNatClampNeg) u).1) = 1) => ?_) (fun (c3 : ((S0_perform (W_code u ((W_pc u) / 4).toNatClampNeg) u).1) = 1) => ?_)
      · refine lv_iload_n hx hb dX0_step_48 rfl (lv_at hl 0 rfl) ?_
        have e9 : S0_step u = ((S0_perform (W_code u ((W_pc u) / 4).toNatClampNeg) u).1, (S0_perform (W_code u ((W_pc u) / 4).toNatClampNeg) u).2) := by rw [S0_step, if_neg c1, if_neg c2, if_neg c3]
        exact W.iret (v := (S0_perform (W_code u ((W_pc u) / 4).toNatClampNeg) u).1) hx hb hr (fun t ht hW => ⟨⟨(S0_perform (W_code u ((W_pc u) / 4).toNatClampNeg) u).1, (), rfl, by rw [e9], by show va_P _ _ _ t.heap; rw [e9, ht]; exact hP⟩, hS.F ht⟩) hS.2.2 dX0_step_49
      · refine lv_aload_n hx hb dX0_step_38 rfl (lv_at hl 1 rfl) ?_
        refine lv_dup hx hb dX0_step_39 rfl ?_
        refine va_get (D := D) (ci := 0) (v := .int (W_st ((S0_perform (W_code u ((W_pc u) / 4).toNatClampNeg) u).2))) (C := RX0) (T := TX0) (N := 6) hx hb hts iwX0_step hown hK hP 0 rfl rfl 5 (by decide) (hts (.fieldLink RX0 26 "WordMachine" "stepsDone" "I") flX0_step_26) (fun _ h9 => h9) rfl dX0_step_40 ?_
        refine lv_iconst (v := 1) hx hb dX0_step_43 (by decide) ?_
        refine lv_iadd hx hb dX0_step_44 ?_
        refine va_put (D := D) (ci := 0) (v := .int ((W_st ((S0_perform (W_code u ((W_pc u) / 4).toNatClampNeg) u).2)) + 1)) (ty := .int) (C := RX0) (T := TX0) (N := 6) hx hb hts iwX0_step tyX0 tyX0_ok nmX0 hown hK hP (ap4_D hap) hS 0 rfl rfl 5 (by decide) (hts (.fieldLink RX0 26 "WordMachine" "stepsDone" "I") flX0_step_26) (fun _ h9 => h9) rfl (by decide +kernel) rfl rfl (Nat.le_of_ble_eq_true rfl) dX0_step_45 (fun H locs hP _ hS => ?_)
        have hP : va_P D vwCl (ww0 cI h q1 q2 q3 (Wp_st ((W_st ((S0_perform (W_code u ((W_pc u) / 4).toNatClampNeg) u).2)) + 1) ((S0_perform (W_code u ((W_pc u) / 4).toNatClampNeg) u).2))) H := hP
        refine lv_iload_n hx hb dX0_step_48 rfl (lv_at hl 0 rfl) ?_
        have e9 : S0_step u = ((S0_perform (W_code u ((W_pc u) / 4).toNatClampNeg) u).1, Wp_st ((W_st ((S0_perform (W_code u ((W_pc u) / 4).toNatClampNeg) u).2)) + 1) ((S0_perform (W_code u ((W_pc u) / 4).toNatClampNeg) u).2)) := by rw [S0_step, if_neg c1, if_neg c2, if_pos c3]
        exact W.iret (v := (S0_perform (W_code u ((W_pc u) / 4).toNatClampNeg) u).1) hx hb hr (fun t ht hW => ⟨⟨(S0_perform (W_code u ((W_pc u) / 4).toNatClampNeg) u).1, (), rfl, by rw [e9], by show va_P _ _ _ t.heap; rw [e9, ht]; exact hP⟩, hS.F ht⟩) hS.2.2 dX0_step_49
  · refine lv_iconst (v := 2) hx hb dX0_step_11 (by decide) ?_
    have e9 : S0_step u = ((2 : Int32), u) := by rw [S0_step, if_pos c1]
    exact W.iret (v := (2 : Int32)) hx hb hr (fun t ht hW => ⟨⟨(2 : Int32), (), rfl, by rw [e9], by show va_P _ _ _ t.heap; rw [e9, ht]; exact hP⟩, hS.F ht⟩) hS.2.2 dX0_step_12
end
section
theorem iwX0_word : ∀ w ∈ wsX00, w ∈ wsX0_word := by decide +kernel
theorem flX0_word_9 : Cond.fieldLink RX0 9 "WordMachine" "code" "[I" ∈ wsX0_word := by decide +kernel
theorem flX0_word_19 : Cond.fieldLink RX0 19 "WordMachine" "wordCount" "I" ∈ wsX0_word := by decide +kernel
theorem hdX0_word : yX0_word.cls = RX0 ∧ yX0_word.cls ≠ "java/lang/invoke/MethodHandle" ∧ yX0_word.cls ≠ "java/lang/invoke/VarHandle" ∧ (parseMethodDescriptor yX0_word.desc).map (fun d => d.parameters.length) = some 1 := by decide +kernel
set_option maxHeartbeats 4000000 in
set_option maxRecDepth 100000 in
theorem c0_word (l : Launch) {D : va_G} {cI : ClassId} {h q1 q2 q3 : Nat} (hap : ap4 h q1 q2 q3) (wa : Int32) (u : WS) (hw : 0 ≤ W_wc u) : Ini l yX0_word wsX0_word 0 0 D (ty0 cI) (wa0 h q1 q2 q3) [.ref h, .int wa] (ww0 cI h q1 q2 q3 u) (ww0 cI h q1 q2 q3 (S0_word wa u).2) (S0_word wa u).1 := by
  refine Met.ofW (cc := cX0_word) (maxL := 2) (ret := (some .int)) (by decide) rfl ?_
  intro p e s m args below meth c s₁ B hml hv
  obtain ⟨rfl, hP, hK⟩ := hv
  have hx := B.exec
  have hb := B.bytes
  have hr := B.returns
  have hts := atoms_spec (ws := wsX0_word) B.pre
  have hown : s.vm.findClass RX0 = some m.cls := findClass_of_methodNamed B.named
  have hlocks := B.notSynchronized
  have hS : va_S (wa0 h q1 q2 q3) s.heap s.heap [] := va_S.rf
  have hl := lv_entry ([.ref h, .int wa]) (n := 2) (Nat.le_of_ble_eq_true rfl)
  rw [lg_entry_eq]
  generalize (lg_sl ([.ref h, .int wa]) ++ List.replicate (2 - (lg_sl ([.ref h, .int wa])).length) Slot.unset).toArray = ls at hl ⊢
  have hl : lv_has ls 2 [(0, .ref h), (1, .int wa)] := hl
  refine lv_aload_n hx hb dX0_word_0 rfl (lv_at hl 0 rfl) ?_
  refine va_get (D := D) (ci := 0) (v := .int (W_wc u)) (C := RX0) (T := TX0) (N := 6) hx hb hts iwX0_word hown hK hP 0 rfl rfl 3 (by decide) (hts (.fieldLink RX0 19 "WordMachine" "wordCount" "I") flX0_word_19) (fun _ h9 => h9) rfl dX0_word_1 ?_
  refine lv_sipush (v := 1024) hx hb dX0_word_4 (by decide) ?_
  refine lv_icmp_lt (tgt := 12) hx hb dX0_word_7 (by decide) (fun (c1 : (W_wc u) < 1024) => ?_) (fun (c1 : ¬ (W_wc u) < 1024) => ?_)
  · refine lv_aload_n hx hb dX0_word_12 rfl (lv_at hl 0 rfl) ?_
    refine va_get (D := D) (ci := 0) (v := .ref q1) (C := RX0) (T := TX0) (N := 6) hx hb hts iwX0_word hown hK hP 0 rfl rfl 0 (by decide) (hts (.fieldLink RX0 9 "WordMachine" "code" "[I") flX0_word_9) (fun _ h9 => h9) rfl dX0_word_13 ?_
    refine lv_aload_n hx hb dX0_word_16 rfl (lv_at hl 0 rfl) ?_
    refine va_get (D := D) (ci := 0) (v := .int (W_wc u)) (C := RX0) (T := TX0) (N := 6) hx hb hts iwX0_word hown hK hP 0 rfl rfl 3 (by decide) (hts (.fieldLink RX0 19 "WordMachine" "wordCount" "I") flX0_word_19) (fun _ h9 => h9) rfl dX0_word_17 ?_
    refine lv_iload_n hx hb dX0_word_20 rfl (lv_at hl 1 rfl) ?_
    refine va_iast hx hb hK hP (ap4_D hap) hS 1 0 rfl rfl (ix_word hw c1) dX0_word_21 (fun H locs hP _ hS => ?_)
    have hP : va_P D vwCl (ww0 cI h q1 q2 q3 (Wp_code (upd (W_code u) (W_wc u).toNatClampNeg wa) u)) H := hP
    refine lv_aload_n hx hb dX0_word_22 rfl (lv_at hl 0 rfl) ?_
    refine lv_dup hx hb dX0_word_23 rfl ?_
    refine va_get (D := D) (ci := 0) (v := .int (W_wc (Wp_code (upd (W_code u) (W_wc u).toNatClampNeg wa) u))) (C := RX0) (T := TX0) (N := 6) hx hb hts iwX0_word hown hK hP 0 rfl rfl 3 (by decide) (hts (.fieldLink RX0 19 "WordMachine" "wordCount" "I") flX0_word_19) (fun _ h9 => h9) rfl dX0_word_24 ?_
    refine lv_iconst (v := 1) hx hb dX0_word_27 (by decide) ?_
    refine lv_iadd hx hb dX0_word_28 ?_
    refine va_put (D := D) (ci := 0) (v := .int ((W_wc (Wp_code (upd (W_code u) (W_wc u).toNatClampNeg wa) u)) + 1)) (ty := .int) (C := RX0) (T := TX0) (N := 6) hx hb hts iwX0_word tyX0 tyX0_ok nmX0 hown hK hP (ap4_D hap) hS 0 rfl rfl 3 (by decide) (hts (.fieldLink RX0 19 "WordMachine" "wordCount" "I") flX0_word_19) (fun _ h9 => h9) rfl (by decide +kernel) rfl rfl (Nat.le_of_ble_eq_true rfl) dX0_word_29 (fun H locs hP _ hS => ?_)
    have hP : va_P D vwCl (ww0 cI h q1 q2 q3 (Wp_wc ((W_wc (Wp_code (upd (W_code u) (W_wc u).toNatClampNeg wa) u)) + 1) (Wp_code (upd (W_code u) (W_wc u).toNatClampNeg wa) u))) H := hP
    refine lv_aload_n hx hb dX0_word_32 rfl (lv_at hl 0 rfl) ?_
    refine va_get (D := D) (ci := 0) (v := .int (W_wc (Wp_wc ((W_wc (Wp_code (upd (W_code u) (W_wc u).toNatClampNeg wa) u)) + 1) (Wp_code (upd (W_code u) (W_wc u).toNatClampNeg wa) u)))) (C := RX0) (T := TX0) (N := 6) hx hb hts iwX0_word hown hK hP 0 rfl rfl 3 (by decide) (hts (.fieldLink RX0 19 "WordMachine" "wordCount" "I") flX0_word_19) (fun _ h9 => h9) rfl dX0_word_33 ?_
    have e9 : S0_word wa u = (W_wc (Wp_wc ((W_wc (Wp_code (upd (W_code u) (W_wc u).toNatClampNeg wa) u)) + 1) (Wp_code (upd (W_code u) (W_wc u).toNatClampNeg wa) u)), Wp_wc ((W_wc (Wp_code (upd (W_code u) (W_wc u).toNatClampNeg wa) u)) + 1) (Wp_code (upd (W_code u) (W_wc u).toNatClampNeg wa) u)) := by rw [S0_word, if_pos c1]
    exact W.iret (v := W_wc (Wp_wc ((W_wc (Wp_code (upd (W_code u) (W_wc u).toNatClampNeg wa) u)) + 1) (Wp_code (upd (W_code u) (W_wc u).toNatClampNeg wa) u))) hx hb hr (fun t ht hW => ⟨⟨W_wc (Wp_wc ((W_wc (Wp_code (upd (W_code u) (W_wc u).toNatClampNeg wa) u)) + 1) (Wp_code (upd (W_code u) (W_wc u).toNatClampNeg wa) u)), (), rfl, by rw [e9], by show va_P _ _ _ t.heap; rw [e9, ht]; exact hP⟩, hS.F ht⟩) hS.2.2 dX0_word_36
  · refine lv_iconst (v := (-1)) hx hb dX0_word_10 (by decide) ?_
    have e9 : S0_word wa u = (((-1) : Int32), u) := by rw [S0_word, if_neg c1]
    exact W.iret (v := ((-1) : Int32)) hx hb hr (fun t ht hW => ⟨⟨((-1) : Int32), (), rfl, by rw [e9], by show va_P _ _ _ t.heap; rw [e9, ht]; exact hP⟩, hS.F ht⟩) hS.2.2 dX0_word_11
theorem hdX0_put : yX0_put.cls = RX0 ∧ yX0_put.cls ≠ "java/lang/invoke/MethodHandle" ∧ yX0_put.cls ≠ "java/lang/invoke/VarHandle" ∧ (parseMethodDescriptor yX0_put.desc).map (fun d => d.parameters.length) = some 2 := by decide +kernel
set_option maxHeartbeats 4000000 in
set_option maxRecDepth 100000 in
theorem c0_put (l : Launch) {D : va_G} {cI : ClassId} {h q1 q2 q3 : Nat} (hap : ap4 h q1 q2 q3) (ra : Int32) (va : Int32) (u : WS)  : Ini l yX0_put wsX0_put 1 22 D (ty0 cI) (wa0 h q1 q2 q3) [.ref h, .int ra, .int va] (ww0 cI h q1 q2 q3 u) (ww0 cI h q1 q2 q3 (S0_put ra va u).2) (S0_put ra va u).1 := by
  refine Met.ofW (cc := cX0_put) (maxL := 3) (ret := (some .boolean)) (by decide) rfl ?_
  intro p e s m args below meth c s₁ B hml hv
  obtain ⟨rfl, hP, hK⟩ := hv
  have hx := B.exec
  have hb := B.bytes
  have hr := B.returns
  have hts := atoms_spec (ws := wsX0_put) B.pre
  have hown : s.vm.findClass RX0 = some m.cls := findClass_of_methodNamed B.named
  have hlocks := B.notSynchronized
  have hS : va_S (wa0 h q1 q2 q3) s.heap s.heap [] := va_S.rf
  have hl := lv_entry ([.ref h, .int ra, .int va]) (n := 3) (Nat.le_of_ble_eq_true rfl)
  rw [lg_entry_eq]
  generalize (lg_sl ([.ref h, .int ra, .int va]) ++ List.replicate (3 - (lg_sl ([.ref h, .int ra, .int va])).length) Slot.unset).toArray = ls at hl ⊢
  have hl : lv_has ls 3 [(0, .ref h), (1, .int ra), (2, .int va)] := hl
  refine lv_iload_n hx hb dX0_put_0 rfl (lv_at hl 1 rfl) ?_
  refine pu_i (v := S0_isRegister ra) (As := [.int ra]) (rest := []) ⟨hx, hb, hml, hown, hts⟩ (c0_isRegister l ra ) gX0_put_X0_isRegister rfl hdX0_isRegister ⟨Nat.le_of_ble_eq_true rfl, Nat.le_of_ble_eq_true rfl⟩ hl.1 rfl (Nat.le_of_ble_eq_true rfl) dX0_put_1 ⟨Nat.zero_le _, Nat.zero_le _⟩ hP hS (fun H locs hP hS => ?_)
  refine lv_if_ne (tgt := 9) hx hb dX0_put_4 (by decide) (fun (c1 : ¬ (S0_isRegister ra) = 0) => ?_) (fun (c1 : (S0_isRegister ra) = 0) => ?_)
  · refine lv_aload_n hx hb dX0_put_9 rfl (lv_at hl 0 rfl) ?_
    refine lv_iload_n hx hb dX0_put_10 rfl (lv_at hl 1 rfl) ?_
    refine lv_iload_n hx hb dX0_put_11 rfl (lv_at hl 2 rfl) ?_
    refine in_v (As := [.int ra, .int va]) (rest := []) (w1 := ww0 cI h q1 q2 q3 (S0_setRegister ra va u)) ⟨hx, hb, hml, hown, hts⟩ (c0_setRegister l hap ra va u ) gX0_put_X0_setRegister rfl hdX0_setRegister ⟨Nat.le_of_ble_eq_true rfl, Nat.le_of_ble_eq_true rfl⟩ hK rfl rfl hl.1 rfl (Nat.le_of_ble_eq_true rfl) dX0_put_12 ⟨Nat.zero_le _, Nat.zero_le _⟩ hP hS (fun _ h => h) (fun H locs hP hS _ _ => ?_)
    refine lv_iconst (v := 1) hx hb dX0_put_15 (by decide) ?_
    have e9 : S0_put ra va u = ((1 : Int32), S0_setRegister ra va u) := by rw [S0_put, if_neg c1]
    exact W.zret (v := (1 : Int32)) hx hb hr rfl (fun t ht hW => ⟨⟨(1 : Int32), (), rfl, by rw [e9], by show va_P _ _ _ t.heap; rw [e9, ht]; exact hP⟩, hS.F ht⟩) hS.2.2 dX0_put_16
  · refine lv_iconst (v := 0) hx hb dX0_put_7 (by decide) ?_
    have e9 : S0_put ra va u = ((0 : Int32), u) := by rw [S0_put, if_pos c1]
    exact W.zret (v := (0 : Int32)) hx hb hr rfl (fun t ht hW => ⟨⟨(0 : Int32), (), rfl, by rw [e9], by show va_P _ _ _ t.heap; rw [e9, ht]; exact hP⟩, hS.F ht⟩) hS.2.2 dX0_put_8
theorem iwX0_get : ∀ w ∈ wsX00, w ∈ wsX0_get := by decide +kernel
theorem flX0_get_13 : Cond.fieldLink RX0 13 "WordMachine" "registers" "[I" ∈ wsX0_get := by decide +kernel
theorem hdX0_get : yX0_get.cls = RX0 ∧ yX0_get.cls ≠ "java/lang/invoke/MethodHandle" ∧ yX0_get.cls ≠ "java/lang/invoke/VarHandle" ∧ (parseMethodDescriptor yX0_get.desc).map (fun d => d.parameters.length) = some 1 := by decide +kernel
set_option maxHeartbeats 4000000 in
set_option maxRecDepth 100000 in
theorem c0_get (l : Launch) {D : va_G} {cI : ClassId} {h q1 q2 q3 : Nat} (hap : ap4 h q1 q2 q3) (ra : Int32) (u : WS)  : Ini l yX0_get wsX0_get 1 20 D (ty0 cI) (wa0 h q1 q2 q3) [.ref h, .int ra] (ww0 cI h q1 q2 q3 u) (ww0 cI h q1 q2 q3 u) (S0_get ra u) := by
  refine Met.ofW (cc := cX0_get) (maxL := 2) (ret := (some .int)) (by decide) rfl ?_
  intro p e s m args below meth c s₁ B hml hv
  obtain ⟨rfl, hP, hK⟩ := hv
  have hx := B.exec
  have hb := B.bytes
  have hr := B.returns
  have hts := atoms_spec (ws := wsX0_get) B.pre
  have hown : s.vm.findClass RX0 = some m.cls := findClass_of_methodNamed B.named
  have hlocks := B.notSynchronized
  have hS : va_S (wa0 h q1 q2 q3) s.heap s.heap [] := va_S.rf
  have hl := lv_entry ([.ref h, .int ra]) (n := 2) (Nat.le_of_ble_eq_true rfl)
  rw [lg_entry_eq]
  generalize (lg_sl ([.ref h, .int ra]) ++ List.replicate (2 - (lg_sl ([.ref h, .int ra])).length) Slot.unset).toArray = ls at hl ⊢
  have hl : lv_has ls 2 [(0, .ref h), (1, .int ra)] := hl
  refine lv_iload_n hx hb dX0_get_0 rfl (lv_at hl 1 rfl) ?_
  refine pu_i (v := S0_isRegister ra) (As := [.int ra]) (rest := []) ⟨hx, hb, hml, hown, hts⟩ (c0_isRegister l ra ) gX0_get_X0_isRegister rfl hdX0_isRegister ⟨Nat.le_of_ble_eq_true rfl, Nat.le_of_ble_eq_true rfl⟩ hl.1 rfl (Nat.le_of_ble_eq_true rfl) dX0_get_1 ⟨Nat.zero_le _, Nat.zero_le _⟩ hP hS (fun H locs hP hS => ?_)
  refine lv_if_eq (tgt := 16) hx hb dX0_get_4 (by decide) (fun (c1 : (S0_isRegister ra) = 0) => ?_) (fun (c1 : ¬ (S0_isRegister ra) = 0) => ?_)
  · refine lv_iconst (v := 0) hx hb dX0_get_16 (by decide) ?_
    have e9 : S0_get ra u = (0 : Int32) := by rw [S0_get, if_pos c1]
    exact W.iret (v := (0 : Int32)) hx hb hr (fun t ht hW => ⟨⟨(0 : Int32), (), rfl, e9.symm, (by show va_P _ _ _ t.heap; rw [ht]; exact hP)⟩, hS.F ht⟩) hS.2.2 dX0_get_17
  · refine lv_aload_n hx hb dX0_get_7 rfl (lv_at hl 0 rfl) ?_
    refine va_get (D := D) (ci := 0) (v := .ref q2) (C := RX0) (T := TX0) (N := 6) hx hb hts iwX0_get hown hK hP 0 rfl rfl 1 (by decide) (hts (.fieldLink RX0 13 "WordMachine" "registers" "[I") flX0_get_13) (fun _ h9 => h9) rfl dX0_get_8 ?_
    refine lv_iload_n hx hb dX0_get_11 rfl (lv_at hl 1 rfl) ?_
    refine va_iald hx hb hK hP 2 0 rfl rfl (ix_isreg c1) dX0_get_12 ?_
    refine lv_goto (tgt := 17) hx hb dX0_get_13 (by decide) ?_
    have e9 : S0_get ra u = W_regs u ra.toNatClampNeg := by rw [S0_get, if_neg c1]
    exact W.iret (v := W_regs u ra.toNatClampNeg) hx hb hr (fun t ht hW => ⟨⟨W_regs u ra.toNatClampNeg, (), rfl, e9.symm, (by show va_P _ _ _ t.heap; rw [ht]; exact hP)⟩, hS.F ht⟩) hS.2.2 dX0_get_17
theorem hdX0_poke : yX0_poke.cls = RX0 ∧ yX0_poke.cls ≠ "java/lang/invoke/MethodHandle" ∧ yX0_poke.cls ≠ "java/lang/invoke/VarHandle" ∧ (parseMethodDescriptor yX0_poke.desc).map (fun d => d.parameters.length) = some 2 := by decide +kernel
set_option maxHeartbeats 4000000 in
set_option maxRecDepth 100000 in
theorem c0_poke (l : Launch) {D : va_G} {cI : ClassId} {h q1 q2 q3 : Nat} (hap : ap4 h q1 q2 q3) (aa : Int32) (va : Int32) (u : WS)  : Ini l yX0_poke wsX0_poke 2 44 D (ty0 cI) (wa0 h q1 q2 q3) [.ref h, .int aa, .int va] (ww0 cI h q1 q2 q3 u) (ww0 cI h q1 q2 q3 (S0_poke aa va u).2) (S0_poke aa va u).1 := by
  refine Met.ofW (cc := cX0_poke) (maxL := 3) (ret := (some .boolean)) (by decide) rfl ?_
  intro p e s m args below meth c s₁ B hml hv
  obtain ⟨rfl, hP, hK⟩ := hv
  have hx := B.exec
  have hb := B.bytes
  have hr := B.returns
  have hts := atoms_spec (ws := wsX0_poke) B.pre
  have hown : s.vm.findClass RX0 = some m.cls := findClass_of_methodNamed B.named
  have hlocks := B.notSynchronized
  have hS : va_S (wa0 h q1 q2 q3) s.heap s.heap [] := va_S.rf
  have hl := lv_entry ([.ref h, .int aa, .int va]) (n := 3) (Nat.le_of_ble_eq_true rfl)
  rw [lg_entry_eq]
  generalize (lg_sl ([.ref h, .int aa, .int va]) ++ List.replicate (3 - (lg_sl ([.ref h, .int aa, .int va])).length) Slot.unset).toArray = ls at hl ⊢
  have hl : lv_has ls 3 [(0, .ref h), (1, .int aa), (2, .int va)] := hl
  refine lv_iload_n hx hb dX0_poke_0 rfl (lv_at hl 1 rfl) ?_
  refine lv_iconst (v := 1) hx hb dX0_poke_1 (by decide) ?_
  refine pu_i (v := S0_isAddress aa (1)) (As := [.int aa, .int 1]) (rest := []) ⟨hx, hb, hml, hown, hts⟩ (c0_isAddress l aa (1) ) gX0_poke_X0_isAddress rfl hdX0_isAddress ⟨Nat.le_of_ble_eq_true rfl, Nat.le_of_ble_eq_true rfl⟩ hl.1 rfl (Nat.le_of_ble_eq_true rfl) dX0_poke_2 ⟨Nat.zero_le _, Nat.zero_le _⟩ hP hS (fun H locs hP hS => ?_)
  refine lv_if_ne (tgt := 10) hx hb dX0_poke_5 (by decide) (fun (c1 : ¬ (S0_isAddress aa (1)) = 0) => ?_) (fun (c1 : (S0_isAddress aa (1)) = 0) => ?_)
  · refine lv_aload_n hx hb dX0_poke_10 rfl (lv_at hl 0 rfl) ?_
    refine lv_iload_n hx hb dX0_poke_11 rfl (lv_at hl 1 rfl) ?_
    refine lv_sipush (v := 255) hx hb dX0_poke_12 (by decide) ?_
    refine lv_iload_n hx hb dX0_poke_15 rfl (lv_at hl 2 rfl) ?_
    refine in_v (As := [.int aa, .int 255, .int va]) (rest := []) (w1 := ww0 cI h q1 q2 q3 (S0_replaceBits aa (255) va u)) ⟨hx, hb, hml, hown, hts⟩ (c0_replaceBits l hap aa (255) va u (ix_addr1 c1)) gX0_poke_X0_replaceBits rfl hdX0_replaceBits ⟨Nat.le_of_ble_eq_true rfl, Nat.le_of_ble_eq_true rfl⟩ hK rfl rfl hl.1 rfl (Nat.le_of_ble_eq_true rfl) dX0_poke_16 ⟨Nat.zero_le _, Nat.zero_le _⟩ hP hS (fun _ h => h) (fun H locs hP hS _ _ => ?_)
    refine lv_iconst (v := 1) hx hb dX0_poke_19 (by decide) ?_
    have e9 : S0_poke aa va u = ((1 : Int32), S0_replaceBits aa (255) va u) := by rw [S0_poke, if_neg c1]
    exact W.zret (v := (1 : Int32)) hx hb hr rfl (fun t ht hW => ⟨⟨(1 : Int32), (), rfl, by rw [e9], by show va_P _ _ _ t.heap; rw [e9, ht]; exact hP⟩, hS.F ht⟩) hS.2.2 dX0_poke_20
  · refine lv_iconst (v := 0) hx hb dX0_poke_8 (by decide) ?_
    have e9 : S0_poke aa va u = ((0 : Int32), u) := by rw [S0_poke, if_pos c1]
    exact W.zret (v := (0 : Int32)) hx hb hr rfl (fun t ht hW => ⟨⟨(0 : Int32), (), rfl, by rw [e9], by show va_P _ _ _ t.heap; rw [e9, ht]; exact hP⟩, hS.F ht⟩) hS.2.2 dX0_poke_9
theorem hdX0_peek : yX0_peek.cls = RX0 ∧ yX0_peek.cls ≠ "java/lang/invoke/MethodHandle" ∧ yX0_peek.cls ≠ "java/lang/invoke/VarHandle" ∧ (parseMethodDescriptor yX0_peek.desc).map (fun d => d.parameters.length) = some 1 := by decide +kernel
set_option maxHeartbeats 4000000 in
set_option maxRecDepth 100000 in
theorem c0_peek (l : Launch) {D : va_G} {cI : ClassId} {h q1 q2 q3 : Nat} (hap : ap4 h q1 q2 q3) (aa : Int32) (u : WS)  : Ini l yX0_peek wsX0_peek 2 42 D (ty0 cI) (wa0 h q1 q2 q3) [.ref h, .int aa] (ww0 cI h q1 q2 q3 u) (ww0 cI h q1 q2 q3 u) (S0_peek aa u) := by
  refine Met.ofW (cc := cX0_peek) (maxL := 2) (ret := (some .int)) (by decide) rfl ?_
  intro p e s m args below meth c s₁ B hml hv
  obtain ⟨rfl, hP, hK⟩ := hv
  have hx := B.exec
  have hb := B.bytes
  have hr := B.returns
  have hts := atoms_spec (ws := wsX0_peek) B.pre
  have hown : s.vm.findClass RX0 = some m.cls := findClass_of_methodNamed B.named
  have hlocks := B.notSynchronized
  have hS : va_S (wa0 h q1 q2 q3) s.heap s.heap [] := va_S.rf
  have hl := lv_entry ([.ref h, .int aa]) (n := 2) (Nat.le_of_ble_eq_true rfl)
  rw [lg_entry_eq]
  generalize (lg_sl ([.ref h, .int aa]) ++ List.replicate (2 - (lg_sl ([.ref h, .int aa])).length) Slot.unset).toArray = ls at hl ⊢
  have hl : lv_has ls 2 [(0, .ref h), (1, .int aa)] := hl
  refine lv_iload_n hx hb dX0_peek_0 rfl (lv_at hl 1 rfl) ?_
  refine lv_iconst (v := 1) hx hb dX0_peek_1 (by decide) ?_
  refine pu_i (v := S0_isAddress aa (1)) (As := [.int aa, .int 1]) (rest := []) ⟨hx, hb, hml, hown, hts⟩ (c0_isAddress l aa (1) ) gX0_peek_X0_isAddress rfl hdX0_isAddress ⟨Nat.le_of_ble_eq_true rfl, Nat.le_of_ble_eq_true rfl⟩ hl.1 rfl (Nat.le_of_ble_eq_true rfl) dX0_peek_2 ⟨Nat.zero_le _, Nat.zero_le _⟩ hP hS (fun H locs hP hS => ?_)
  refine lv_if_eq (tgt := 20) hx hb dX0_peek_5 (by decide) (fun (c1 : (S0_isAddress aa (1)) = 0) => ?_) (fun (c1 : ¬ (S0_isAddress aa (1)) = 0) => ?_)
  · refine lv_iconst (v := (-1)) hx hb dX0_peek_20 (by decide) ?_
    have e9 : S0_peek aa u = ((-1) : Int32) := by rw [S0_peek, if_pos c1]
    exact W.iret (v := ((-1) : Int32)) hx hb hr (fun t ht hW => ⟨⟨((-1) : Int32), (), rfl, e9.symm, (by show va_P _ _ _ t.heap; rw [ht]; exact hP)⟩, hS.F ht⟩) hS.2.2 dX0_peek_21
  · refine lv_aload_n hx hb dX0_peek_8 rfl (lv_at hl 0 rfl) ?_
    refine lv_iload_n hx hb dX0_peek_9 rfl (lv_at hl 1 rfl) ?_
    refine in_i (v := S0_bitsFrom aa u) (As := [.int aa]) (rest := []) (w1 := ww0 cI h q1 q2 q3 u) ⟨hx, hb, hml, hown, hts⟩ (c0_bitsFrom l hap aa u (ix_addr1 c1)) gX0_peek_X0_bitsFrom rfl hdX0_bitsFrom ⟨Nat.le_of_ble_eq_true rfl, Nat.le_of_ble_eq_true rfl⟩ hK rfl rfl hl.1 rfl (Nat.le_of_ble_eq_true rfl) dX0_peek_10 ⟨Nat.zero_le _, Nat.zero_le _⟩ hP hS (fun _ h => h) (fun H locs hP hS _ _ => ?_)
    refine lv_sipush (v := 255) hx hb dX0_peek_13 (by decide) ?_
    refine lv_iand hx hb dX0_peek_16 ?_
    refine lv_goto (tgt := 21) hx hb dX0_peek_17 (by decide) ?_
    have e9 : S0_peek aa u = (S0_bitsFrom aa u) &&& 255 := by rw [S0_peek, if_neg c1]
    exact W.iret (v := (S0_bitsFrom aa u) &&& 255) hx hb hr (fun t ht hW => ⟨⟨(S0_bitsFrom aa u) &&& 255, (), rfl, e9.symm, (by show va_P _ _ _ t.heap; rw [ht]; exact hP)⟩, hS.F ht⟩) hS.2.2 dX0_peek_21
theorem iwX0_go : ∀ w ∈ wsX00, w ∈ wsX0_go := by decide +kernel
theorem flX0_go_23 : Cond.fieldLink RX0 23 "WordMachine" "pc" "I" ∈ wsX0_go := by decide +kernel
theorem hdX0_go : yX0_go.cls = RX0 ∧ yX0_go.cls ≠ "java/lang/invoke/MethodHandle" ∧ yX0_go.cls ≠ "java/lang/invoke/VarHandle" ∧ (parseMethodDescriptor yX0_go.desc).map (fun d => d.parameters.length) = some 1 := by decide +kernel
set_option maxHeartbeats 4000000 in
set_option maxRecDepth 100000 in
theorem c0_go (l : Launch) {D : va_G} {cI : ClassId} {h q1 q2 q3 : Nat} (hap : ap4 h q1 q2 q3) (aa : Int32) (u : WS)  : Ini l yX0_go wsX0_go 1 21 D (ty0 cI) (wa0 h q1 q2 q3) [.ref h, .int aa] (ww0 cI h q1 q2 q3 u) (ww0 cI h q1 q2 q3 (S0_go aa u).2) (S0_go aa u).1 := by
  refine Met.ofW (cc := cX0_go) (maxL := 2) (ret := (some .boolean)) (by decide) rfl ?_
  intro p e s m args below meth c s₁ B hml hv
  obtain ⟨rfl, hP, hK⟩ := hv
  have hx := B.exec
  have hb := B.bytes
  have hr := B.returns
  have hts := atoms_spec (ws := wsX0_go) B.pre
  have hown : s.vm.findClass RX0 = some m.cls := findClass_of_methodNamed B.named
  have hlocks := B.notSynchronized
  have hS : va_S (wa0 h q1 q2 q3) s.heap s.heap [] := va_S.rf
  have hl := lv_entry ([.ref h, .int aa]) (n := 2) (Nat.le_of_ble_eq_true rfl)
  rw [lg_entry_eq]
  generalize (lg_sl ([.ref h, .int aa]) ++ List.replicate (2 - (lg_sl ([.ref h, .int aa])).length) Slot.unset).toArray = ls at hl ⊢
  have hl : lv_has ls 2 [(0, .ref h), (1, .int aa)] := hl
  refine lv_iload_n hx hb dX0_go_0 rfl (lv_at hl 1 rfl) ?_
  refine lv_iconst (v := 4) hx hb dX0_go_1 (by decide) ?_
  refine pu_i (v := S0_isMultiple aa (4)) (As := [.int aa, .int 4]) (rest := []) ⟨hx, hb, hml, hown, hts⟩ (c0_isMultiple l aa (4) ) gX0_go_X0_isMultiple rfl hdX0_isMultiple ⟨Nat.le_of_ble_eq_true rfl, Nat.le_of_ble_eq_true rfl⟩ hl.1 rfl (Nat.le_of_ble_eq_true rfl) dX0_go_2 ⟨Nat.zero_le _, Nat.zero_le _⟩ hP hS (fun H locs hP hS => ?_)
  refine lv_if_ne (tgt := 10) hx hb dX0_go_5 (by decide) (fun (c1 : ¬ (S0_isMultiple aa (4)) = 0) => ?_) (fun (c1 : (S0_isMultiple aa (4)) = 0) => ?_)
  · refine lv_aload_n hx hb dX0_go_10 rfl (lv_at hl 0 rfl) ?_
    refine lv_iload_n hx hb dX0_go_11 rfl (lv_at hl 1 rfl) ?_
    refine va_put (D := D) (ci := 0) (v := .int aa) (ty := .int) (C := RX0) (T := TX0) (N := 6) hx hb hts iwX0_go tyX0 tyX0_ok nmX0 hown hK hP (ap4_D hap) hS 0 rfl rfl 4 (by decide) (hts (.fieldLink RX0 23 "WordMachine" "pc" "I") flX0_go_23) (fun _ h9 => h9) rfl (by decide +kernel) rfl rfl (Nat.le_of_ble_eq_true rfl) dX0_go_12 (fun H locs hP _ hS => ?_)
    have hP : va_P D vwCl (ww0 cI h q1 q2 q3 (Wp_pc aa u)) H := hP
    refine lv_iconst (v := 1) hx hb dX0_go_15 (by decide) ?_
    have e9 : S0_go aa u = ((1 : Int32), Wp_pc aa u) := by rw [S0_go, if_neg c1]
    exact W.zret (v := (1 : Int32)) hx hb hr rfl (fun t ht hW => ⟨⟨(1 : Int32), (), rfl, by rw [e9], by show va_P _ _ _ t.heap; rw [e9, ht]; exact hP⟩, hS.F ht⟩) hS.2.2 dX0_go_16
  · refine lv_iconst (v := 0) hx hb dX0_go_8 (by decide) ?_
    have e9 : S0_go aa u = ((0 : Int32), u) := by rw [S0_go, if_pos c1]
    exact W.zret (v := (0 : Int32)) hx hb hr rfl (fun t ht hW => ⟨⟨(0 : Int32), (), rfl, by rw [e9], by show va_P _ _ _ t.heap; rw [e9, ht]; exact hP⟩, hS.F ht⟩) hS.2.2 dX0_go_9
theorem iwX0_pc : ∀ w ∈ wsX00, w ∈ wsX0_pc := by decide +kernel
theorem flX0_pc_23 : Cond.fieldLink RX0 23 "WordMachine" "pc" "I" ∈ wsX0_pc := by decide +kernel
theorem hdX0_pc : yX0_pc.cls = RX0 ∧ yX0_pc.cls ≠ "java/lang/invoke/MethodHandle" ∧ yX0_pc.cls ≠ "java/lang/invoke/VarHandle" ∧ (parseMethodDescriptor yX0_pc.desc).map (fun d => d.parameters.length) = some 0 := by decide +kernel
set_option maxHeartbeats 4000000 in
set_option maxRecDepth 100000 in
theorem c0_pc (l : Launch) {D : va_G} {cI : ClassId} {h q1 q2 q3 : Nat} (hap : ap4 h q1 q2 q3)  (u : WS)  : Ini l yX0_pc wsX0_pc 0 0 D (ty0 cI) (wa0 h q1 q2 q3) [.ref h] (ww0 cI h q1 q2 q3 u) (ww0 cI h q1 q2 q3 u) (S0_pc u) := by
  refine Met.ofW (cc := cX0_pc) (maxL := 1) (ret := (some .int)) (by decide) rfl ?_
  intro p e s m args below meth c s₁ B hml hv
  obtain ⟨rfl, hP, hK⟩ := hv
  have hx := B.exec
  have hb := B.bytes
  have hr := B.returns
  have hts := atoms_spec (ws := wsX0_pc) B.pre
  have hown : s.vm.findClass RX0 = some m.cls := findClass_of_methodNamed B.named
  have hlocks := B.notSynchronized
  have hS : va_S (wa0 h q1 q2 q3) s.heap s.heap [] := va_S.rf
  have hl := lv_entry ([.ref h]) (n := 1) (Nat.le_of_ble_eq_true rfl)
  rw [lg_entry_eq]
  generalize (lg_sl ([.ref h]) ++ List.replicate (1 - (lg_sl ([.ref h])).length) Slot.unset).toArray = ls at hl ⊢
  have hl : lv_has ls 1 [(0, .ref h)] := hl
  refine lv_aload_n hx hb dX0_pc_0 rfl (lv_at hl 0 rfl) ?_
  refine va_get (D := D) (ci := 0) (v := .int (W_pc u)) (C := RX0) (T := TX0) (N := 6) hx hb hts iwX0_pc hown hK hP 0 rfl rfl 4 (by decide) (hts (.fieldLink RX0 23 "WordMachine" "pc" "I") flX0_pc_23) (fun _ h9 => h9) rfl dX0_pc_1 ?_
  have e9 : S0_pc u = W_pc u := by rw [S0_pc]
  exact W.iret (v := W_pc u) hx hb hr (fun t ht hW => ⟨⟨W_pc u, (), rfl, e9.symm, (by show va_P _ _ _ t.heap; rw [ht]; exact hP)⟩, hS.F ht⟩) hS.2.2 dX0_pc_4
theorem iwX0_steps : ∀ w ∈ wsX00, w ∈ wsX0_steps := by decide +kernel
theorem flX0_steps_26 : Cond.fieldLink RX0 26 "WordMachine" "stepsDone" "I" ∈ wsX0_steps := by decide +kernel
theorem hdX0_steps : yX0_steps.cls = RX0 ∧ yX0_steps.cls ≠ "java/lang/invoke/MethodHandle" ∧ yX0_steps.cls ≠ "java/lang/invoke/VarHandle" ∧ (parseMethodDescriptor yX0_steps.desc).map (fun d => d.parameters.length) = some 0 := by decide +kernel
set_option maxHeartbeats 4000000 in
set_option maxRecDepth 100000 in
theorem c0_steps (l : Launch) {D : va_G} {cI : ClassId} {h q1 q2 q3 : Nat} (hap : ap4 h q1 q2 q3)  (u : WS)  : Ini l yX0_steps wsX0_steps 0 0 D (ty0 cI) (wa0 h q1 q2 q3) [.ref h] (ww0 cI h q1 q2 q3 u) (ww0 cI h q1 q2 q3 u) (S0_steps u) := by
  refine Met.ofW (cc := cX0_steps) (maxL := 1) (ret := (some .int)) (by decide) rfl ?_
  intro p e s m args below meth c s₁ B hml hv
  obtain ⟨rfl, hP, hK⟩ := hv
  have hx := B.exec
  have hb := B.bytes
  have hr := B.returns
  have hts := atoms_spec (ws := wsX0_steps) B.pre
  have hown : s.vm.findClass RX0 = some m.cls := findClass_of_methodNamed B.named
  have hlocks := B.notSynchronized
  have hS : va_S (wa0 h q1 q2 q3) s.heap s.heap [] := va_S.rf
  have hl := lv_entry ([.ref h]) (n := 1) (Nat.le_of_ble_eq_true rfl)
  rw [lg_entry_eq]
  generalize (lg_sl ([.ref h]) ++ List.replicate (1 - (lg_sl ([.ref h])).length) Slot.unset).toArray = ls at hl ⊢
  have hl : lv_has ls 1 [(0, .ref h)] := hl
  refine lv_aload_n hx hb dX0_steps_0 rfl (lv_at hl 0 rfl) ?_
  refine va_get (D := D) (ci := 0) (v := .int (W_st u)) (C := RX0) (T := TX0) (N := 6) hx hb hts iwX0_steps hown hK hP 0 rfl rfl 5 (by decide) (hts (.fieldLink RX0 26 "WordMachine" "stepsDone" "I") flX0_steps_26) (fun _ h9 => h9) rfl dX0_steps_1 ?_
  have e9 : S0_steps u = W_st u := by rw [S0_steps]
  exact W.iret (v := W_st u) hx hb hr (fun t ht hW => ⟨⟨W_st u, (), rfl, e9.symm, (by show va_P _ _ _ t.heap; rw [ht]; exact hP)⟩, hS.F ht⟩) hS.2.2 dX0_steps_4
theorem hdX0_run : yX0_run.cls = RX0 ∧ yX0_run.cls ≠ "java/lang/invoke/MethodHandle" ∧ yX0_run.cls ≠ "java/lang/invoke/VarHandle" ∧ (parseMethodDescriptor yX0_run.desc).map (fun d => d.parameters.length) = some 1 := by decide +kernel
set_option maxHeartbeats 4000000 in
set_option maxRecDepth 100000 in
theorem c0_run (l : Launch) {D : va_G} {cI : ClassId} {h q1 q2 q3 : Nat} (hap : ap4 h q1 q2 q3) (na : Int32) (u : WS) (hw : W_wc u ≤ 1024) : Ini l yX0_run wsX0_run 5 111 D (ty0 cI) (wa0 h q1 q2 q3) [.ref h, .int na] (ww0 cI h q1 q2 q3 u) (ww0 cI h q1 q2 q3 (S0_run na u).2) (S0_run na u).1 := by
  refine Met.ofW (cc := cX0_run) (maxL := 4) (ret := (some .int)) (by decide) rfl ?_
  intro p e s m args below meth c s₁ B hml hv
  obtain ⟨rfl, hP, hK⟩ := hv
  have hx := B.exec
  have hb := B.bytes
  have hr := B.returns
  have hts := atoms_spec (ws := wsX0_run) B.pre
  have hown : s.vm.findClass RX0 = some m.cls := findClass_of_methodNamed B.named
  have hlocks := B.notSynchronized
  have hS : va_S (wa0 h q1 q2 q3) s.heap s.heap [] := va_S.rf
  have hl := lv_entry ([.ref h, .int na]) (n := 4) (Nat.le_of_ble_eq_true rfl)
  rw [lg_entry_eq]
  generalize (lg_sl ([.ref h, .int na]) ++ List.replicate (4 - (lg_sl ([.ref h, .int na])).length) Slot.unset).toArray = ls at hl ⊢
  have hl : lv_has ls 4 [(0, .ref h), (1, .int na)] := hl
  have J : ∀ (n9 j : Nat) (w : WS) (H : Heap) (locs : List Loc), va_P D vwCl (ww0 cI h q1 q2 q3 w) H → va_S (wa0 h q1 q2 q3) s.heap H locs → ∀ ls : Array Slot, lv_has ls 4 [(2, .int (nI j)), (1, .int na), (0, .ref h)] → j + n9 = na.toNatClampNeg → ¬ na < 0 → S0_run na u = S0_loop n9 w → W_wc w ≤ 1024 → W p l e (headSpec wsX0_run ({ frames := 5, cells := 0, slots := 0, locals := 111 })).room s m ([.ref h, .int na] : List Value).toArray below meth c H locs 0 0 (MQ below (va_Qi (fun (r : Int32) (_ : Unit) => r = (S0_run na u).1) (fun _ t => va_P D vwCl (ww0 cI h q1 q2 q3 (S0_run na u).2) t.heap) (wa0 h q1 q2 q3)) ([.ref h, .int na] : List Value).toArray s 0 0 (wa0 h q1 q2 q3)) (F0 m 15 ls []) := by
    intro n9
    induction n9 with
    | zero =>
      intro j w H locs hP hS ls hl hj h0 hs hww
      refine lv_iload_n hx hb dX0_run_15 rfl (lv_at hl 0 rfl) ?_
      refine lv_iload_n hx hb dX0_run_16 rfl (lv_at hl 1 rfl) ?_
      refine lv_icmp_ge (tgt := 37) hx hb dX0_run_17 (by decide) (fun (c1 : na ≤ (nI j)) => ?_) (fun (c1 : ¬ na ≤ (nI j)) => ?_)
      · refine lv_iconst (v := 0) hx hb dX0_run_37 (by decide) ?_
        have e9 : S0_run na u = ((0 : Int32), w) := by rw [hs, S0_loop]
        exact W.iret (v := (0 : Int32)) hx hb hr (fun t ht hW => ⟨⟨(0 : Int32), (), rfl, by rw [e9], by show va_P _ _ _ t.heap; rw [e9, ht]; exact hP⟩, hS.F ht⟩) hS.2.2 dX0_run_38
      · exact absurd (rn_ge h0 hj) c1
    | succ n9 ih =>
      intro j w H locs hP hS ls hl hj h0 hs hww
      refine lv_iload_n hx hb dX0_run_15 rfl (lv_at hl 0 rfl) ?_
      refine lv_iload_n hx hb dX0_run_16 rfl (lv_at hl 1 rfl) ?_
      refine lv_icmp_ge (tgt := 37) hx hb dX0_run_17 (by decide) (fun (c2 : na ≤ (nI j)) => ?_) (fun (c2 : ¬ na ≤ (nI j)) => ?_)
      · exact absurd c2 (rn_lt h0 (by omega))
      · refine lv_aload_n hx hb dX0_run_20 rfl (lv_at hl 2 rfl) ?_
        refine in_i (v := (S0_step w).1) (As := []) (rest := []) (w1 := ww0 cI h q1 q2 q3 ((S0_step w).2)) ⟨hx, hb, hml, hown, hts⟩ (c0_step l hap  w hww) gX0_run_X0_step rfl hdX0_step ⟨Nat.le_of_ble_eq_true rfl, Nat.le_of_ble_eq_true rfl⟩ hK rfl rfl hl.1 rfl (Nat.le_of_ble_eq_true rfl) dX0_run_21 ⟨Nat.zero_le _, Nat.zero_le _⟩ hP hS (fun _ h => h) (fun H locs hP hS _ _ => ?_)
        refine lv_istore_n (lv' := [(3, .int ((S0_step w).1)), (2, .int (nI j)), (1, .int na), (0, .ref h)]) hx hb dX0_run_24 rfl hl (by decide) rfl (fun ls hl => ?_)
        refine lv_iload_n hx hb dX0_run_25 rfl (lv_at hl 0 rfl) ?_
        refine lv_if_eq (tgt := 31) hx hb dX0_run_26 (by decide) (fun (c3 : ((S0_step w).1) = 0) => ?_) (fun (c3 : ¬ ((S0_step w).1) = 0) => ?_)
        · refine lv_iinc (v := (nI j) + 1) (lv' := [(2, .int ((nI j) + 1)), (3, .int ((S0_step w).1)), (1, .int na), (0, .ref h)]) hx hb dX0_run_31 hl (k := 1) rfl (by rfl) (by decide) rfl (fun ls hl => ?_)
          refine lv_goto (tgt := 15) hx hb dX0_run_34 (by decide) ?_
          rw [nI_1] at hl
          exact ih (j + 1) _ H locs hP hS ls (lv_sub hl [0, 2, 3] rfl) (by omega) h0 (by rw [hs, S0_loop, if_pos c3]) (by rw [wc0_step]; exact hww)
        · refine lv_iload_n hx hb dX0_run_29 rfl (lv_at hl 0 rfl) ?_
          have e9 : S0_run na u = ((S0_step w).1, (S0_step w).2) := by rw [hs, S0_loop, if_neg c3]
          exact W.iret (v := (S0_step w).1) hx hb hr (fun t ht hW => ⟨⟨(S0_step w).1, (), rfl, by rw [e9], by show va_P _ _ _ t.heap; rw [e9, ht]; exact hP⟩, hS.F ht⟩) hS.2.2 dX0_run_30
  refine lv_iload_n hx hb dX0_run_0 rfl (lv_at hl 1 rfl) ?_
  refine lv_if_lt (tgt := 11) hx hb dX0_run_1 (by decide) (fun (c4 : na < 0) => ?_) (fun (c4 : ¬ na < 0) => ?_)
  · refine lv_iconst (v := (-1)) hx hb dX0_run_11 (by decide) ?_
    have e9 : S0_run na u = (((-1) : Int32), u) := by rw [S0_run, if_pos c4]
    exact W.iret (v := ((-1) : Int32)) hx hb hr (fun t ht hW => ⟨⟨((-1) : Int32), (), rfl, by rw [e9], by show va_P _ _ _ t.heap; rw [e9, ht]; exact hP⟩, hS.F ht⟩) hS.2.2 dX0_run_12
  · refine lv_iload_n hx hb dX0_run_4 rfl (lv_at hl 1 rfl) ?_
    refine lv_sipush (v := 1000) hx hb dX0_run_5 (by decide) ?_
    refine lv_icmp_le (tgt := 13) hx hb dX0_run_8 (by decide) (fun (c5 : na ≤ 1000) => ?_) (fun (c5 : ¬ na ≤ 1000) => ?_)
    · refine lv_iconst (v := 0) hx hb dX0_run_13 (by decide) ?_
      refine lv_istore_n (lv' := [(2, .int 0), (0, .ref h), (1, .int na)]) hx hb dX0_run_14 rfl hl (by decide) rfl (fun ls hl => ?_)
      exact J na.toNatClampNeg 0 u _ _ hP hS ls (lv_sub hl [0, 2, 1] rfl) (by omega) c4 (by rw [S0_run, if_neg c4, if_pos c5]) hw
    · refine lv_iconst (v := (-1)) hx hb dX0_run_11 (by decide) ?_
      have e9 : S0_run na u = (((-1) : Int32), u) := by rw [S0_run, if_neg c4, if_neg c5]
      exact W.iret (v := ((-1) : Int32)) hx hb hr (fun t ht hW => ⟨⟨((-1) : Int32), (), rfl, by rw [e9], by show va_P _ _ _ t.heap; rw [e9, ht]; exact hP⟩, hS.F ht⟩) hS.2.2 dX0_run_12
end
section
theorem ctX1_plain_25 : Cond.constantLong RX1 25 (4294967295) ∈ wsX1_plain := by decide +kernel
theorem hdX1_plain : yX1_plain.cls ≠ "java/lang/invoke/MethodHandle" ∧ yX1_plain.cls ≠ "java/lang/invoke/VarHandle" ∧ (parseMethodDescriptor yX1_plain.desc).map (fun d => d.parameters.length) = some 1 := by decide +kernel
set_option maxHeartbeats 4000000 in
set_option maxRecDepth 100000 in
theorem c1_plain (l : Launch) (va : Int64)  : Pul l yX1_plain wsX1_plain 0 0 [.long va] (S1_plain va) := by
  refine Met.ofW (cc := cX1_plain) (maxL := 2) (ret := (some .long)) (by decide) rfl ?_
  intro p e s m args below meth c s₁ B hml hv
  obtain ⟨rfl, -⟩ := hv
  have hx := B.exec
  have hb := B.bytes
  have hr := B.returns
  have hts := atoms_spec (ws := wsX1_plain) B.pre
  have hown : s.vm.findClass RX1 = some m.cls := findClass_of_methodNamed B.named
  have hlocks := B.notSynchronized
  have hP : va_P ((fun _ => 0), (fun _ _ => 0)) [] [] s.heap := fun k q h => by simp at h
  have hS : va_S (fun _ => False) s.heap s.heap [] := va_S.rf
  have hl := lv_entry ([.long va]) (n := 2) (Nat.le_of_ble_eq_true rfl)
  rw [lg_entry_eq]
  generalize (lg_sl ([.long va]) ++ List.replicate (2 - (lg_sl ([.long va])).length) Slot.unset).toArray = ls at hl ⊢
  have hl : lv_has ls 2 [(0, .long va)] := hl
  refine lv_lload_n hx hb dX1_plain_0 rfl (lv_at hl 0 rfl) ?_
  refine lv_ldc2 hx hb hown (hts (.constantLong RX1 25 (4294967295)) ctX1_plain_25) dX1_plain_1 ?_
  refine lv_land hx hb dX1_plain_4 ?_
  have e9 : S1_plain va = va &&& 4294967295 := by rw [S1_plain]
  exact W.lret (v := va &&& 4294967295) hx hb hr (fun t ht hW => ⟨⟨va &&& 4294967295, (), rfl, e9.symm, trivial⟩, hS.F ht⟩) hS.2.2 dX1_plain_5
theorem ctX1_signed_27 : Cond.constantLong RX1 27 (2147483648) ∈ wsX1_signed := by decide +kernel
theorem ctX1_signed_29 : Cond.constantLong RX1 29 (4294967296) ∈ wsX1_signed := by decide +kernel
theorem hdX1_signed : yX1_signed.cls ≠ "java/lang/invoke/MethodHandle" ∧ yX1_signed.cls ≠ "java/lang/invoke/VarHandle" ∧ (parseMethodDescriptor yX1_signed.desc).map (fun d => d.parameters.length) = some 1 := by decide +kernel
set_option maxHeartbeats 4000000 in
set_option maxRecDepth 100000 in
theorem c1_signed (l : Launch) (va : Int64)  : Pul l yX1_signed wsX1_signed 0 0 [.long va] (S1_signed va) := by
  refine Met.ofW (cc := cX1_signed) (maxL := 2) (ret := (some .long)) (by decide) rfl ?_
  intro p e s m args below meth c s₁ B hml hv
  obtain ⟨rfl, -⟩ := hv
  have hx := B.exec
  have hb := B.bytes
  have hr := B.returns
  have hts := atoms_spec (ws := wsX1_signed) B.pre
  have hown : s.vm.findClass RX1 = some m.cls := findClass_of_methodNamed B.named
  have hlocks := B.notSynchronized
  have hP : va_P ((fun _ => 0), (fun _ _ => 0)) [] [] s.heap := fun k q h => by simp at h
  have hS : va_S (fun _ => False) s.heap s.heap [] := va_S.rf
  have hl := lv_entry ([.long va]) (n := 2) (Nat.le_of_ble_eq_true rfl)
  rw [lg_entry_eq]
  generalize (lg_sl ([.long va]) ++ List.replicate (2 - (lg_sl ([.long va])).length) Slot.unset).toArray = ls at hl ⊢
  have hl : lv_has ls 2 [(0, .long va)] := hl
  refine lv_lload_n hx hb dX1_signed_0 rfl (lv_at hl 0 rfl) ?_
  refine lv_ldc2 hx hb hown (hts (.constantLong RX1 27 (2147483648)) ctX1_signed_27) dX1_signed_1 ?_
  refine W.lcmp hx hb dX1_signed_4 ?_
  refine lv_if_lt (tgt := 16) hx hb dX1_signed_5 (by decide) (fun (c1 : (lg_cmp va 2147483648) < 0) => ?_) (fun (c1 : ¬ (lg_cmp va 2147483648) < 0) => ?_)
  · refine lv_lload_n hx hb dX1_signed_16 rfl (lv_at hl 0 rfl) ?_
    have e9 : S1_signed va = va := by rw [S1_signed, if_pos c1]
    exact W.lret (v := va) hx hb hr (fun t ht hW => ⟨⟨va, (), rfl, e9.symm, trivial⟩, hS.F ht⟩) hS.2.2 dX1_signed_17
  · refine lv_lload_n hx hb dX1_signed_8 rfl (lv_at hl 0 rfl) ?_
    refine lv_ldc2 hx hb hown (hts (.constantLong RX1 29 (4294967296)) ctX1_signed_29) dX1_signed_9 ?_
    refine lv_lsub hx hb dX1_signed_12 ?_
    refine lv_goto (tgt := 17) hx hb dX1_signed_13 (by decide) ?_
    have e9 : S1_signed va = va - 4294967296 := by rw [S1_signed, if_neg c1]
    exact W.lret (v := va - 4294967296) hx hb hr (fun t ht hW => ⟨⟨va - 4294967296, (), rfl, e9.symm, trivial⟩, hS.F ht⟩) hS.2.2 dX1_signed_17
theorem hdX1_bits : yX1_bits.cls ≠ "java/lang/invoke/MethodHandle" ∧ yX1_bits.cls ≠ "java/lang/invoke/VarHandle" ∧ (parseMethodDescriptor yX1_bits.desc).map (fun d => d.parameters.length) = some 3 := by decide +kernel
set_option maxHeartbeats 4000000 in
set_option maxRecDepth 100000 in
theorem c1_bits (l : Launch) (wa : Int32) (fa : Int32) (na : Int32)  : Pui l yX1_bits wsX1_bits 1 21 [.int wa, .int fa, .int na] (S1_bits wa fa na) := by
  refine Met.ofW (cc := cX1_bits) (maxL := 3) (ret := (some .int)) (by decide) rfl ?_
  intro p e s m args below meth c s₁ B hml hv
  obtain ⟨rfl, -⟩ := hv
  have hx := B.exec
  have hb := B.bytes
  have hr := B.returns
  have hts := atoms_spec (ws := wsX1_bits) B.pre
  have hown : s.vm.findClass RX1 = some m.cls := findClass_of_methodNamed B.named
  have hlocks := B.notSynchronized
  have hP : va_P ((fun _ => 0), (fun _ _ => 0)) [] [] s.heap := fun k q h => by simp at h
  have hS : va_S (fun _ => False) s.heap s.heap [] := va_S.rf
  have hl := lv_entry ([.int wa, .int fa, .int na]) (n := 3) (Nat.le_of_ble_eq_true rfl)
  rw [lg_entry_eq]
  generalize (lg_sl ([.int wa, .int fa, .int na]) ++ List.replicate (3 - (lg_sl ([.int wa, .int fa, .int na])).length) Slot.unset).toArray = ls at hl ⊢
  have hl : lv_has ls 3 [(0, .int wa), (1, .int fa), (2, .int na)] := hl
  refine lv_iload_n hx hb dX1_bits_0 rfl (lv_at hl 0 rfl) ?_
  refine lv_i2l (v := wa.toInt64) hx hb dX1_bits_1 rfl ?_
  refine pu_l (v := S1_plain wa.toInt64) (As := [.long wa.toInt64]) (rest := []) ⟨hx, hb, hml, hown, hts⟩ (c1_plain l wa.toInt64 ) gX1_bits_X1_plain rfl hdX1_plain ⟨Nat.le_of_ble_eq_true rfl, Nat.le_of_ble_eq_true rfl⟩ hl.1 rfl (Nat.le_of_ble_eq_true rfl) dX1_bits_2 ⟨Nat.zero_le _, Nat.zero_le _⟩ hP hS (fun H locs hP hS => ?_)
  refine lv_iload_n hx hb dX1_bits_5 rfl (lv_at hl 1 rfl) ?_
  refine lv_lshr (v := l_shr (S1_plain wa.toInt64) fa) hx hb dX1_bits_6 rfl ?_
  refine lv_l2i (v := (l_shr (S1_plain wa.toInt64) fa).toInt32) hx hb dX1_bits_7 rfl ?_
  refine lv_iconst (v := 1) hx hb dX1_bits_8 (by decide) ?_
  refine lv_iload_n hx hb dX1_bits_9 rfl (lv_at hl 2 rfl) ?_
  refine lv_ishl hx hb dX1_bits_10 ?_
  refine lv_iconst (v := 1) hx hb dX1_bits_11 (by decide) ?_
  refine lv_isub hx hb dX1_bits_12 ?_
  refine lv_iand hx hb dX1_bits_13 ?_
  have e9 : S1_bits wa fa na = ((l_shr (S1_plain wa.toInt64) fa).toInt32) &&& (((1 : Int32) <<< (na &&& 31)) - 1) := by rw [S1_bits]
  exact W.iret (v := ((l_shr (S1_plain wa.toInt64) fa).toInt32) &&& (((1 : Int32) <<< (na &&& 31)) - 1)) hx hb hr (fun t ht hW => ⟨⟨((l_shr (S1_plain wa.toInt64) fa).toInt32) &&& (((1 : Int32) <<< (na &&& 31)) - 1), (), rfl, e9.symm, trivial⟩, hS.F ht⟩) hS.2.2 dX1_bits_14
theorem hdX1_withSign : yX1_withSign.cls ≠ "java/lang/invoke/MethodHandle" ∧ yX1_withSign.cls ≠ "java/lang/invoke/VarHandle" ∧ (parseMethodDescriptor yX1_withSign.desc).map (fun d => d.parameters.length) = some 2 := by decide +kernel
set_option maxHeartbeats 4000000 in
set_option maxRecDepth 100000 in
theorem c1_withSign (l : Launch) (va : Int32) (na : Int32)  : Pui l yX1_withSign wsX1_withSign 0 0 [.int va, .int na] (S1_withSign va na) := by
  refine Met.ofW (cc := cX1_withSign) (maxL := 2) (ret := (some .int)) (by decide) rfl ?_
  intro p e s m args below meth c s₁ B hml hv
  obtain ⟨rfl, -⟩ := hv
  have hx := B.exec
  have hb := B.bytes
  have hr := B.returns
  have hts := atoms_spec (ws := wsX1_withSign) B.pre
  have hown : s.vm.findClass RX1 = some m.cls := findClass_of_methodNamed B.named
  have hlocks := B.notSynchronized
  have hP : va_P ((fun _ => 0), (fun _ _ => 0)) [] [] s.heap := fun k q h => by simp at h
  have hS : va_S (fun _ => False) s.heap s.heap [] := va_S.rf
  have hl := lv_entry ([.int va, .int na]) (n := 2) (Nat.le_of_ble_eq_true rfl)
  rw [lg_entry_eq]
  generalize (lg_sl ([.int va, .int na]) ++ List.replicate (2 - (lg_sl ([.int va, .int na])).length) Slot.unset).toArray = ls at hl ⊢
  have hl : lv_has ls 2 [(0, .int va), (1, .int na)] := hl
  refine lv_iload_n hx hb dX1_withSign_0 rfl (lv_at hl 0 rfl) ?_
  refine lv_iconst (v := 1) hx hb dX1_withSign_1 (by decide) ?_
  refine lv_iload_n hx hb dX1_withSign_2 rfl (lv_at hl 1 rfl) ?_
  refine lv_iconst (v := 1) hx hb dX1_withSign_3 (by decide) ?_
  refine lv_isub hx hb dX1_withSign_4 ?_
  refine lv_ishl hx hb dX1_withSign_5 ?_
  refine lv_icmp_lt (tgt := 17) hx hb dX1_withSign_6 (by decide) (fun (c1 : va < ((1 : Int32) <<< ((na - 1) &&& 31))) => ?_) (fun (c1 : ¬ va < ((1 : Int32) <<< ((na - 1) &&& 31))) => ?_)
  · refine lv_iload_n hx hb dX1_withSign_17 rfl (lv_at hl 0 rfl) ?_
    have e9 : S1_withSign va na = va := by rw [S1_withSign, if_pos c1]
    exact W.iret (v := va) hx hb hr (fun t ht hW => ⟨⟨va, (), rfl, e9.symm, trivial⟩, hS.F ht⟩) hS.2.2 dX1_withSign_18
  · refine lv_iload_n hx hb dX1_withSign_9 rfl (lv_at hl 0 rfl) ?_
    refine lv_iconst (v := 1) hx hb dX1_withSign_10 (by decide) ?_
    refine lv_iload_n hx hb dX1_withSign_11 rfl (lv_at hl 1 rfl) ?_
    refine lv_ishl hx hb dX1_withSign_12 ?_
    refine lv_isub hx hb dX1_withSign_13 ?_
    refine lv_goto (tgt := 18) hx hb dX1_withSign_14 (by decide) ?_
    have e9 : S1_withSign va na = va - ((1 : Int32) <<< (na &&& 31)) := by rw [S1_withSign, if_neg c1]
    exact W.iret (v := va - ((1 : Int32) <<< (na &&& 31))) hx hb hr (fun t ht hW => ⟨⟨va - ((1 : Int32) <<< (na &&& 31)), (), rfl, e9.symm, trivial⟩, hS.F ht⟩) hS.2.2 dX1_withSign_18
theorem ctX1_power_108 : Cond.constantLong RX1 108 (2) ∈ wsX1_power := by decide +kernel
theorem hdX1_power : yX1_power.cls ≠ "java/lang/invoke/MethodHandle" ∧ yX1_power.cls ≠ "java/lang/invoke/VarHandle" ∧ (parseMethodDescriptor yX1_power.desc).map (fun d => d.parameters.length) = some 1 := by decide +kernel
set_option maxHeartbeats 4000000 in
set_option maxRecDepth 100000 in
theorem c1_power (l : Launch) (na : Int64)  : Pul l yX1_power wsX1_power 0 0 [.long na] (S1_power na) := by
  refine Met.ofW (cc := cX1_power) (maxL := 6) (ret := (some .long)) (by decide) rfl ?_
  intro p e s m args below meth c s₁ B hml hv
  obtain ⟨rfl, -⟩ := hv
  have hx := B.exec
  have hb := B.bytes
  have hr := B.returns
  have hts := atoms_spec (ws := wsX1_power) B.pre
  have hown : s.vm.findClass RX1 = some m.cls := findClass_of_methodNamed B.named
  have hlocks := B.notSynchronized
  have hP : va_P ((fun _ => 0), (fun _ _ => 0)) [] [] s.heap := fun k q h => by simp at h
  have hS : va_S (fun _ => False) s.heap s.heap [] := va_S.rf
  have hl := lv_entry ([.long na]) (n := 6) (Nat.le_of_ble_eq_true rfl)
  rw [lg_entry_eq]
  generalize (lg_sl ([.long na]) ++ List.replicate (6 - (lg_sl ([.long na])).length) Slot.unset).toArray = ls at hl ⊢
  have hl : lv_has ls 6 [(0, .long na)] := hl
  have J : ∀ (n9 j : Nat) (H : Heap) (locs : List Loc), va_P ((fun _ => 0), (fun _ _ => 0)) [] [] H → va_S (fun _ => False) s.heap H locs → ∀ ls : Array Slot, lv_has ls 6 [(4, .long (lN j)), (2, .long (lN (2 ^ j))), (0, .long na)] → j + n9 = na.toNatClampNeg → W p l e (headSpec wsX1_power ({ frames := 0, cells := 0, slots := 0, locals := 0 })).room s m ([.long na] : List Value).toArray below meth c H locs 0 0 (MQ below (va_Ql (fun (r : Int64) (_ : Unit) => r = S1_power na) (fun _ _ => True) (fun _ => False)) ([.long na] : List Value).toArray s 0 0 (fun _ => False)) (F0 m 5 ls []) := by
    intro n9
    induction n9 with
    | zero =>
      intro j H locs hP hS ls hl hj
      refine lv_lload hx hb dX1_power_5 (lv_at hl 0 rfl) ?_
      refine lv_lload_n hx hb dX1_power_7 rfl (lv_at hl 2 rfl) ?_
      refine W.lcmp hx hb dX1_power_8 ?_
      refine lv_if_ge (tgt := 27) hx hb dX1_power_9 (by decide) (fun (c1 : 0 ≤ (lg_cmp (lN j) na)) => ?_) (fun (c1 : ¬ 0 ≤ (lg_cmp (lN j) na)) => ?_)
      · refine lv_lload_n hx hb dX1_power_27 rfl (lv_at hl 1 rfl) ?_
        have e9 : S1_power na = lN (2 ^ j) := by rw [S1_power, ← hj]; rfl
        exact W.lret (v := lN (2 ^ j)) hx hb hr (fun t ht hW => ⟨⟨lN (2 ^ j), (), rfl, e9.symm, trivial⟩, hS.F ht⟩) hS.2.2 dX1_power_28
      · exact absurd (pw_ge hj) c1
    | succ n9 ih =>
      intro j H locs hP hS ls hl hj
      refine lv_lload hx hb dX1_power_5 (lv_at hl 0 rfl) ?_
      refine lv_lload_n hx hb dX1_power_7 rfl (lv_at hl 2 rfl) ?_
      refine W.lcmp hx hb dX1_power_8 ?_
      refine lv_if_ge (tgt := 27) hx hb dX1_power_9 (by decide) (fun (c2 : 0 ≤ (lg_cmp (lN j) na)) => ?_) (fun (c2 : ¬ 0 ≤ (lg_cmp (lN j) na)) => ?_)
      · exact absurd c2 (pw_lt (by omega))
      · refine lv_lload_n hx hb dX1_power_12 rfl (lv_at hl 1 rfl) ?_
        refine lv_ldc2 hx hb hown (hts (.constantLong RX1 108 (2)) ctX1_power_108) dX1_power_13 ?_
        refine lv_lmul hx hb dX1_power_16 ?_
        refine lv_lstore_n (lv' := [(2, .long ((lN (2 ^ j)) * 2)), (4, .long (lN j)), (0, .long na)]) hx hb dX1_power_17 rfl hl (by decide) rfl (fun ls hl => ?_)
        refine lv_lload hx hb dX1_power_18 (lv_at hl 1 rfl) ?_
        refine lv_lconst (v := 1) hx hb dX1_power_20 (by decide) ?_
        refine lv_ladd hx hb dX1_power_21 ?_
        refine lv_lstore (lv' := [(4, .long ((lN j) + 1)), (2, .long ((lN (2 ^ j)) * 2)), (0, .long na)]) hx hb dX1_power_22 hl (by decide) rfl (fun ls hl => ?_)
        refine lv_goto (tgt := 5) hx hb dX1_power_24 (by decide) ?_
        rw [lN_1, pw_dbl] at hl
        exact ih (j + 1) H locs hP hS ls (lv_sub hl [0, 1, 2] rfl) (by omega)
  refine lv_lconst (v := 1) hx hb dX1_power_0 (by decide) ?_
  refine lv_lstore_n (lv' := [(2, .long 1), (0, .long na)]) hx hb dX1_power_1 rfl hl (by decide) rfl (fun ls hl => ?_)
  refine lv_lconst (v := 0) hx hb dX1_power_2 (by decide) ?_
  refine lv_lstore (lv' := [(4, .long 0), (2, .long 1), (0, .long na)]) hx hb dX1_power_3 hl (by decide) rfl (fun ls hl => ?_)
  exact J na.toNatClampNeg 0 _ _ hP hS ls (lv_sub hl [0, 1, 2] rfl) (by omega)
theorem hdX1_down : yX1_down.cls ≠ "java/lang/invoke/MethodHandle" ∧ yX1_down.cls ≠ "java/lang/invoke/VarHandle" ∧ (parseMethodDescriptor yX1_down.desc).map (fun d => d.parameters.length) = some 2 := by decide +kernel
set_option maxHeartbeats 4000000 in
set_option maxRecDepth 100000 in
theorem c1_down (l : Launch) (aa : Int64) (ba : Int64) (hb0 : ¬ ba = 0) : Pul l yX1_down wsX1_down 0 0 [.long aa, .long ba] (S1_down aa ba) := by
  refine Met.ofW (cc := cX1_down) (maxL := 6) (ret := (some .long)) (by decide) rfl ?_
  intro p e s m args below meth c s₁ B hml hv
  obtain ⟨rfl, -⟩ := hv
  have hx := B.exec
  have hb := B.bytes
  have hr := B.returns
  have hts := atoms_spec (ws := wsX1_down) B.pre
  have hown : s.vm.findClass RX1 = some m.cls := findClass_of_methodNamed B.named
  have hlocks := B.notSynchronized
  have hP : va_P ((fun _ => 0), (fun _ _ => 0)) [] [] s.heap := fun k q h => by simp at h
  have hS : va_S (fun _ => False) s.heap s.heap [] := va_S.rf
  have hl := lv_entry ([.long aa, .long ba]) (n := 6) (Nat.le_of_ble_eq_true rfl)
  rw [lg_entry_eq]
  generalize (lg_sl ([.long aa, .long ba]) ++ List.replicate (6 - (lg_sl ([.long aa, .long ba])).length) Slot.unset).toArray = ls at hl ⊢
  have hl : lv_has ls 6 [(0, .long aa), (2, .long ba)] := hl
  refine lv_lload_n hx hb dX1_down_0 rfl (lv_at hl 0 rfl) ?_
  refine lv_lload_n hx hb dX1_down_1 rfl (lv_at hl 1 rfl) ?_
  refine lv_ldiv hx hb dX1_down_2 hb0 ?_
  refine lv_lstore (lv' := [(4, .long (aa / ba)), (0, .long aa), (2, .long ba)]) hx hb dX1_down_3 hl (by decide) rfl (fun ls hl => ?_)
  refine lv_lload hx hb dX1_down_5 (lv_at hl 0 rfl) ?_
  refine lv_lload_n hx hb dX1_down_7 rfl (lv_at hl 2 rfl) ?_
  refine lv_lmul hx hb dX1_down_8 ?_
  refine lv_lload_n hx hb dX1_down_9 rfl (lv_at hl 1 rfl) ?_
  refine W.lcmp hx hb dX1_down_10 ?_
  refine lv_if_le (tgt := 21) hx hb dX1_down_11 (by decide) (fun (c1 : (lg_cmp ((aa / ba) * ba) aa) ≤ 0) => ?_) (fun (c1 : ¬ (lg_cmp ((aa / ba) * ba) aa) ≤ 0) => ?_)
  · refine lv_lload hx hb dX1_down_21 (lv_at hl 0 rfl) ?_
    have e9 : S1_down aa ba = aa / ba := by rw [S1_down, if_pos c1]
    exact W.lret (v := aa / ba) hx hb hr (fun t ht hW => ⟨⟨aa / ba, (), rfl, e9.symm, trivial⟩, hS.F ht⟩) hS.2.2 dX1_down_23
  · refine lv_lload hx hb dX1_down_14 (lv_at hl 0 rfl) ?_
    refine lv_lconst (v := 1) hx hb dX1_down_16 (by decide) ?_
    refine lv_lsub hx hb dX1_down_17 ?_
    refine lv_goto (tgt := 23) hx hb dX1_down_18 (by decide) ?_
    have e9 : S1_down aa ba = (aa / ba) - 1 := by rw [S1_down, if_neg c1]
    exact W.lret (v := (aa / ba) - 1) hx hb hr (fun t ht hW => ⟨⟨(aa / ba) - 1, (), rfl, e9.symm, trivial⟩, hS.F ht⟩) hS.2.2 dX1_down_23
theorem ctX1_made_118 : Cond.constantLong RX1 118 (32) ∈ wsX1_made := by decide +kernel
theorem hdX1_made : yX1_made.cls ≠ "java/lang/invoke/MethodHandle" ∧ yX1_made.cls ≠ "java/lang/invoke/VarHandle" ∧ (parseMethodDescriptor yX1_made.desc).map (fun d => d.parameters.length) = some 4 := by decide +kernel
set_option maxHeartbeats 4000000 in
set_option maxRecDepth 100000 in
theorem c1_made (l : Launch) (ta : Int32) (sa : Int32) (aa : Int64) (ba : Int64)  : Pul l yX1_made wsX1_made 1 25 [.int ta, .int sa, .long aa, .long ba] (S1_made ta sa aa ba) := by
  refine Met.ofW (cc := cX1_made) (maxL := 6) (ret := (some .long)) (by decide) rfl ?_
  intro p e s m args below meth c s₁ B hml hv
  obtain ⟨rfl, -⟩ := hv
  have hx := B.exec
  have hb := B.bytes
  have hr := B.returns
  have hts := atoms_spec (ws := wsX1_made) B.pre
  have hown : s.vm.findClass RX1 = some m.cls := findClass_of_methodNamed B.named
  have hlocks := B.notSynchronized
  have hP : va_P ((fun _ => 0), (fun _ _ => 0)) [] [] s.heap := fun k q h => by simp at h
  have hS : va_S (fun _ => False) s.heap s.heap [] := va_S.rf
  have hl := lv_entry ([.int ta, .int sa, .long aa, .long ba]) (n := 6) (Nat.le_of_ble_eq_true rfl)
  rw [lg_entry_eq]
  generalize (lg_sl ([.int ta, .int sa, .long aa, .long ba]) ++ List.replicate (6 - (lg_sl ([.int ta, .int sa, .long aa, .long ba])).length) Slot.unset).toArray = ls at hl ⊢
  have hl : lv_has ls 6 [(0, .int ta), (1, .int sa), (2, .long aa), (4, .long ba)] := hl
  refine lv_iload_n hx hb dX1_made_0 rfl (lv_at hl 0 rfl) ?_
  by_cases c1 : ta = 0
  · refine lv_tableIn (tgt := 44) hx hb dX1_made_1 (by rw [c1]; decide) (by rw [c1]; decide) (by rw [c1]; rfl) (by decide) ?_
    refine lv_iload_n hx hb dX1_made_44 rfl (lv_at hl 1 rfl) ?_
    refine lv_bipush (v := 32) hx hb dX1_made_45 (by decide) ?_
    refine lv_icmp_ne (tgt := 57) hx hb dX1_made_47 (by decide) (fun (c2 : ¬ sa = 32) => ?_) (fun (c2 : sa = 32) => ?_)
    · refine lv_lload_n hx hb dX1_made_57 rfl (lv_at hl 2 rfl) ?_
      refine lv_lload hx hb dX1_made_58 (lv_at hl 3 rfl) ?_
      refine lv_ladd hx hb dX1_made_60 ?_
      have e9 : S1_made ta sa aa ba = aa + ba := by rw [S1_made, if_pos c1, if_neg c2]
      exact W.lret (v := aa + ba) hx hb hr (fun t ht hW => ⟨⟨aa + ba, (), rfl, e9.symm, trivial⟩, hS.F ht⟩) hS.2.2 dX1_made_61
    · refine lv_lload_n hx hb dX1_made_50 rfl (lv_at hl 2 rfl) ?_
      refine lv_lload hx hb dX1_made_51 (lv_at hl 3 rfl) ?_
      refine lv_lsub hx hb dX1_made_53 ?_
      refine lv_goto (tgt := 61) hx hb dX1_made_54 (by decide) ?_
      have e9 : S1_made ta sa aa ba = aa - ba := by rw [S1_made, if_pos c1, if_pos c2]
      exact W.lret (v := aa - ba) hx hb hr (fun t ht hW => ⟨⟨aa - ba, (), rfl, e9.symm, trivial⟩, hS.F ht⟩) hS.2.2 dX1_made_61
  · skip
    by_cases c3 : ta = 1
    · refine lv_tableIn (tgt := 62) hx hb dX1_made_1 (by rw [c3]; decide) (by rw [c3]; decide) (by rw [c3]; rfl) (by decide) ?_
      refine lv_lload_n hx hb dX1_made_62 rfl (lv_at hl 2 rfl) ?_
      refine lv_lload hx hb dX1_made_63 (lv_at hl 3 rfl) ?_
      refine lv_ldc2 hx hb hown (hts (.constantLong RX1 118 (32)) ctX1_made_118) dX1_made_65 ?_
      refine lv_lrem hx hb dX1_made_68 (by decide) ?_
      refine pu_l (v := S1_power (ba - ba / 32 * 32)) (As := [.long (ba - ba / 32 * 32)]) (rest := [.long aa]) ⟨hx, hb, hml, hown, hts⟩ (c1_power l (ba - ba / 32 * 32) ) gX1_made_X1_power rfl hdX1_power ⟨Nat.le_of_ble_eq_true rfl, Nat.le_of_ble_eq_true rfl⟩ hl.1 rfl (Nat.le_of_ble_eq_true rfl) dX1_made_69 ⟨Nat.zero_le _, Nat.zero_le _⟩ hP hS (fun H locs hP hS => ?_)
      refine lv_lmul hx hb dX1_made_72 ?_
      have e9 : S1_made ta sa aa ba = aa * (S1_power (ba - ba / 32 * 32)) := by rw [S1_made, if_neg c1, if_pos c3]
      exact W.lret (v := aa * (S1_power (ba - ba / 32 * 32))) hx hb hr (fun t ht hW => ⟨⟨aa * (S1_power (ba - ba / 32 * 32)), (), rfl, e9.symm, trivial⟩, hS.F ht⟩) hS.2.2 dX1_made_73
    · skip
      by_cases c4 : ta = 2
      · refine lv_tableIn (tgt := 74) hx hb dX1_made_1 (by rw [c4]; decide) (by rw [c4]; decide) (by rw [c4]; rfl) (by decide) ?_
        refine lv_lload_n hx hb dX1_made_74 rfl (lv_at hl 2 rfl) ?_
        refine pu_l (v := S1_signed aa) (As := [.long aa]) (rest := []) ⟨hx, hb, hml, hown, hts⟩ (c1_signed l aa ) gX1_made_X1_signed rfl hdX1_signed ⟨Nat.le_of_ble_eq_true rfl, Nat.le_of_ble_eq_true rfl⟩ hl.1 rfl (Nat.le_of_ble_eq_true rfl) dX1_made_75 ⟨Nat.zero_le _, Nat.zero_le _⟩ hP hS (fun H locs hP hS => ?_)
        refine lv_lload hx hb dX1_made_78 (lv_at hl 3 rfl) ?_
        refine pu_l (v := S1_signed ba) (As := [.long ba]) (rest := [.long (S1_signed aa)]) ⟨hx, hb, hml, hown, hts⟩ (c1_signed l ba ) gX1_made_X1_signed rfl hdX1_signed ⟨Nat.le_of_ble_eq_true rfl, Nat.le_of_ble_eq_true rfl⟩ hl.1 rfl (Nat.le_of_ble_eq_true rfl) dX1_made_80 ⟨Nat.zero_le _, Nat.zero_le _⟩ hP hS (fun H locs hP hS => ?_)
        refine W.lcmp hx hb dX1_made_83 ?_
        refine lv_if_ge (tgt := 91) hx hb dX1_made_84 (by decide) (fun (c5 : 0 ≤ (lg_cmp (S1_signed aa) (S1_signed ba))) => ?_) (fun (c5 : ¬ 0 ≤ (lg_cmp (S1_signed aa) (S1_signed ba))) => ?_)
        · refine lv_lconst (v := 0) hx hb dX1_made_91 (by decide) ?_
          have e9 : S1_made ta sa aa ba = (0 : Int64) := by rw [S1_made, if_neg c1, if_neg c3, if_pos c4, if_pos c5]
          exact W.lret (v := (0 : Int64)) hx hb hr (fun t ht hW => ⟨⟨(0 : Int64), (), rfl, e9.symm, trivial⟩, hS.F ht⟩) hS.2.2 dX1_made_92
        · refine lv_lconst (v := 1) hx hb dX1_made_87 (by decide) ?_
          refine lv_goto (tgt := 92) hx hb dX1_made_88 (by decide) ?_
          have e9 : S1_made ta sa aa ba = (1 : Int64) := by rw [S1_made, if_neg c1, if_neg c3, if_pos c4, if_neg c5]
          exact W.lret (v := (1 : Int64)) hx hb hr (fun t ht hW => ⟨⟨(1 : Int64), (), rfl, e9.symm, trivial⟩, hS.F ht⟩) hS.2.2 dX1_made_92
      · skip
        by_cases c6 : ta = 3
        · refine lv_tableIn (tgt := 93) hx hb dX1_made_1 (by rw [c6]; decide) (by rw [c6]; decide) (by rw [c6]; rfl) (by decide) ?_
          refine lv_lload_n hx hb dX1_made_93 rfl (lv_at hl 2 rfl) ?_
          refine lv_lload hx hb dX1_made_94 (lv_at hl 3 rfl) ?_
          refine W.lcmp hx hb dX1_made_96 ?_
          refine lv_if_ge (tgt := 104) hx hb dX1_made_97 (by decide) (fun (c7 : 0 ≤ (lg_cmp aa ba)) => ?_) (fun (c7 : ¬ 0 ≤ (lg_cmp aa ba)) => ?_)
          · refine lv_lconst (v := 0) hx hb dX1_made_104 (by decide) ?_
            have e9 : S1_made ta sa aa ba = (0 : Int64) := by rw [S1_made, if_neg c1, if_neg c3, if_neg c4, if_pos c6, if_pos c7]
            exact W.lret (v := (0 : Int64)) hx hb hr (fun t ht hW => ⟨⟨(0 : Int64), (), rfl, e9.symm, trivial⟩, hS.F ht⟩) hS.2.2 dX1_made_105
          · refine lv_lconst (v := 1) hx hb dX1_made_100 (by decide) ?_
            refine lv_goto (tgt := 105) hx hb dX1_made_101 (by decide) ?_
            have e9 : S1_made ta sa aa ba = (1 : Int64) := by rw [S1_made, if_neg c1, if_neg c3, if_neg c4, if_pos c6, if_neg c7]
            exact W.lret (v := (1 : Int64)) hx hb hr (fun t ht hW => ⟨⟨(1 : Int64), (), rfl, e9.symm, trivial⟩, hS.F ht⟩) hS.2.2 dX1_made_105
        · skip
          by_cases c8 : ta = 4
          · refine lv_tableIn (tgt := 106) hx hb dX1_made_1 (by rw [c8]; decide) (by rw [c8]; decide) (by rw [c8]; rfl) (by decide) ?_
            refine lv_lload_n hx hb dX1_made_106 rfl (lv_at hl 2 rfl) ?_
            refine lv_lload hx hb dX1_made_107 (lv_at hl 3 rfl) ?_
            refine lv_lxor hx hb dX1_made_109 ?_
            have e9 : S1_made ta sa aa ba = aa ^^^ ba := by rw [S1_made, if_neg c1, if_neg c3, if_neg c4, if_neg c6, if_pos c8]
            exact W.lret (v := aa ^^^ ba) hx hb hr (fun t ht hW => ⟨⟨aa ^^^ ba, (), rfl, e9.symm, trivial⟩, hS.F ht⟩) hS.2.2 dX1_made_110
          · skip
            by_cases c9 : ta = 5
            · refine lv_tableIn (tgt := 111) hx hb dX1_made_1 (by rw [c9]; decide) (by rw [c9]; decide) (by rw [c9]; rfl) (by decide) ?_
              refine lv_iload_n hx hb dX1_made_111 rfl (lv_at hl 1 rfl) ?_
              refine lv_if_ne (tgt := 129) hx hb dX1_made_112 (by decide) (fun (c10 : ¬ sa = 0) => ?_) (fun (c10 : sa = 0) => ?_)
              · refine lv_lload_n hx hb dX1_made_129 rfl (lv_at hl 2 rfl) ?_
                refine pu_l (v := S1_signed aa) (As := [.long aa]) (rest := []) ⟨hx, hb, hml, hown, hts⟩ (c1_signed l aa ) gX1_made_X1_signed rfl hdX1_signed ⟨Nat.le_of_ble_eq_true rfl, Nat.le_of_ble_eq_true rfl⟩ hl.1 rfl (Nat.le_of_ble_eq_true rfl) dX1_made_130 ⟨Nat.zero_le _, Nat.zero_le _⟩ hP hS (fun H locs hP hS => ?_)
                refine lv_lload hx hb dX1_made_133 (lv_at hl 3 rfl) ?_
                refine lv_ldc2 hx hb hown (hts (.constantLong RX1 118 (32)) ctX1_made_118) dX1_made_135 ?_
                refine lv_lrem hx hb dX1_made_138 (by decide) ?_
                refine pu_l (v := S1_power (ba - ba / 32 * 32)) (As := [.long (ba - ba / 32 * 32)]) (rest := [.long (S1_signed aa)]) ⟨hx, hb, hml, hown, hts⟩ (c1_power l (ba - ba / 32 * 32) ) gX1_made_X1_power rfl hdX1_power ⟨Nat.le_of_ble_eq_true rfl, Nat.le_of_ble_eq_true rfl⟩ hl.1 rfl (Nat.le_of_ble_eq_true rfl) dX1_made_139 ⟨Nat.zero_le _, Nat.zero_le _⟩ hP hS (fun H locs hP hS => ?_)
                refine pu_l (v := S1_down (S1_signed aa) (S1_power (ba - ba / 32 * 32))) (As := [.long (S1_signed aa), .long (S1_power (ba - ba / 32 * 32))]) (rest := []) ⟨hx, hb, hml, hown, hts⟩ (c1_down l (S1_signed aa) (S1_power (ba - ba / 32 * 32)) (pw_ne _)) gX1_made_X1_down rfl hdX1_down ⟨Nat.le_of_ble_eq_true rfl, Nat.le_of_ble_eq_true rfl⟩ hl.1 rfl (Nat.le_of_ble_eq_true rfl) dX1_made_142 ⟨Nat.zero_le _, Nat.zero_le _⟩ hP hS (fun H locs hP hS => ?_)
                have e9 : S1_made ta sa aa ba = S1_down (S1_signed aa) (S1_power (ba - ba / 32 * 32)) := by rw [S1_made, if_neg c1, if_neg c3, if_neg c4, if_neg c6, if_neg c8, if_pos c9, if_neg c10]
                exact W.lret (v := S1_down (S1_signed aa) (S1_power (ba - ba / 32 * 32))) hx hb hr (fun t ht hW => ⟨⟨S1_down (S1_signed aa) (S1_power (ba - ba / 32 * 32)), (), rfl, e9.symm, trivial⟩, hS.F ht⟩) hS.2.2 dX1_made_145
              · refine lv_lload_n hx hb dX1_made_115 rfl (lv_at hl 2 rfl) ?_
                refine lv_lload hx hb dX1_made_116 (lv_at hl 3 rfl) ?_
                refine lv_ldc2 hx hb hown (hts (.constantLong RX1 118 (32)) ctX1_made_118) dX1_made_118 ?_
                refine lv_lrem hx hb dX1_made_121 (by decide) ?_
                refine pu_l (v := S1_power (ba - ba / 32 * 32)) (As := [.long (ba - ba / 32 * 32)]) (rest := [.long aa]) ⟨hx, hb, hml, hown, hts⟩ (c1_power l (ba - ba / 32 * 32) ) gX1_made_X1_power rfl hdX1_power ⟨Nat.le_of_ble_eq_true rfl, Nat.le_of_ble_eq_true rfl⟩ hl.1 rfl (Nat.le_of_ble_eq_true rfl) dX1_made_122 ⟨Nat.zero_le _, Nat.zero_le _⟩ hP hS (fun H locs hP hS => ?_)
                refine lv_ldiv hx hb dX1_made_125 (pw_ne _) ?_
                refine lv_goto (tgt := 145) hx hb dX1_made_126 (by decide) ?_
                have e9 : S1_made ta sa aa ba = aa / (S1_power (ba - ba / 32 * 32)) := by rw [S1_made, if_neg c1, if_neg c3, if_neg c4, if_neg c6, if_neg c8, if_pos c9, if_pos c10]
                exact W.lret (v := aa / (S1_power (ba - ba / 32 * 32))) hx hb hr (fun t ht hW => ⟨⟨aa / (S1_power (ba - ba / 32 * 32)), (), rfl, e9.symm, trivial⟩, hS.F ht⟩) hS.2.2 dX1_made_145
            · skip
              by_cases c11 : ta = 6
              · refine lv_tableIn (tgt := 146) hx hb dX1_made_1 (by rw [c11]; decide) (by rw [c11]; decide) (by rw [c11]; rfl) (by decide) ?_
                refine lv_lload_n hx hb dX1_made_146 rfl (lv_at hl 2 rfl) ?_
                refine lv_lload hx hb dX1_made_147 (lv_at hl 3 rfl) ?_
                refine lv_lor hx hb dX1_made_149 ?_
                have e9 : S1_made ta sa aa ba = aa ||| ba := by rw [S1_made, if_neg c1, if_neg c3, if_neg c4, if_neg c6, if_neg c8, if_neg c9, if_pos c11]
                exact W.lret (v := aa ||| ba) hx hb hr (fun t ht hW => ⟨⟨aa ||| ba, (), rfl, e9.symm, trivial⟩, hS.F ht⟩) hS.2.2 dX1_made_150
              · skip
                refine lv_tableOut (tgt := 151) hx hb dX1_made_1 (by have nc1 := lv_neT c1 (show (0 : Int32).toInt = 0 from by decide); have nc3 := lv_neT c3 (show (1 : Int32).toInt = 1 from by decide); have nc4 := lv_neT c4 (show (2 : Int32).toInt = 2 from by decide); have nc6 := lv_neT c6 (show (3 : Int32).toInt = 3 from by decide); have nc8 := lv_neT c8 (show (4 : Int32).toInt = 4 from by decide); have nc9 := lv_neT c9 (show (5 : Int32).toInt = 5 from by decide); have nc11 := lv_neT c11 (show (6 : Int32).toInt = 6 from by decide); omega) (by decide) ?_
                refine lv_lload_n hx hb dX1_made_151 rfl (lv_at hl 2 rfl) ?_
                refine lv_lload hx hb dX1_made_152 (lv_at hl 3 rfl) ?_
                refine lv_land hx hb dX1_made_154 ?_
                have e9 : S1_made ta sa aa ba = aa &&& ba := by rw [S1_made, if_neg c1, if_neg c3, if_neg c4, if_neg c6, if_neg c8, if_neg c9, if_neg c11]
                exact W.lret (v := aa &&& ba) hx hb hr (fun t ht hW => ⟨⟨aa &&& ba, (), rfl, e9.symm, trivial⟩, hS.F ht⟩) hS.2.2 dX1_made_155
end
section
theorem iwX1_give : ∀ w ∈ wsX10, w ∈ wsX1_give := by decide +kernel
theorem flX1_give_13 : Cond.fieldLink RX1 13 "WordMachineModel" "registers" "[J" ∈ wsX1_give := by decide +kernel
theorem hdX1_give : yX1_give.cls = RX1 ∧ yX1_give.cls ≠ "java/lang/invoke/MethodHandle" ∧ yX1_give.cls ≠ "java/lang/invoke/VarHandle" ∧ (parseMethodDescriptor yX1_give.desc).map (fun d => d.parameters.length) = some 2 := by decide +kernel
set_option maxHeartbeats 4000000 in
set_option maxRecDepth 100000 in
theorem c1_give (l : Launch) {D : va_G} {cI cJ cB : ClassId} {h q1 q2 q3 : Nat} (hap : ap4 h q1 q2 q3) (ra : Int32) (va : Int64) (u : MS) (hr32 : ra < 32) : Inv l yX1_give wsX1_give 1 21 D (ty1 cI cJ cB) (wa0 h q1 q2 q3) [.ref h, .int ra, .long va] (ww1 cI cJ cB h q1 q2 q3 u) (ww1 cI cJ cB h q1 q2 q3 (S1_give ra va u))  := by
  refine Met.ofW (cc := cX1_give) (maxL := 4) (ret := none) (by decide) rfl ?_
  intro p e s m args below meth c s₁ B hml hv
  obtain ⟨rfl, hP, hK⟩ := hv
  have hx := B.exec
  have hb := B.bytes
  have hr := B.returns
  have hts := atoms_spec (ws := wsX1_give) B.pre
  have hown : s.vm.findClass RX1 = some m.cls := findClass_of_methodNamed B.named
  have hlocks := B.notSynchronized
  have hS : va_S (wa0 h q1 q2 q3) s.heap s.heap [] := va_S.rf
  have hl := lv_entry ([.ref h, .int ra, .long va]) (n := 4) (Nat.le_of_ble_eq_true rfl)
  rw [lg_entry_eq]
  generalize (lg_sl ([.ref h, .int ra, .long va]) ++ List.replicate (4 - (lg_sl ([.ref h, .int ra, .long va])).length) Slot.unset).toArray = ls at hl ⊢
  have hl : lv_has ls 4 [(0, .ref h), (1, .int ra), (2, .long va)] := hl
  refine lv_iload_n hx hb dX1_give_0 rfl (lv_at hl 1 rfl) ?_
  refine lv_if_le (tgt := 14) hx hb dX1_give_1 (by decide) (fun (c1 : ra ≤ 0) => ?_) (fun (c1 : ¬ ra ≤ 0) => ?_)
  · have e9 : S1_give ra va u = u := by rw [S1_give, if_pos c1]
    exact W.vret hx hb hr (fun t ht hW => ⟨⟨(), rfl, trivial, by show va_P _ _ _ t.heap; rw [e9, ht]; exact hP⟩, hS.F ht⟩) hS.2.2 dX1_give_14
  · refine lv_aload_n hx hb dX1_give_4 rfl (lv_at hl 0 rfl) ?_
    refine va_get (D := D) (ci := 1) (v := .ref q2) (C := RX1) (T := TX1) (N := 12) hx hb hts iwX1_give hown hK hP 0 rfl rfl 4 (by decide) (hts (.fieldLink RX1 13 "WordMachineModel" "registers" "[J") flX1_give_13) (fun _ h9 => h9) rfl dX1_give_5 ?_
    refine lv_iload_n hx hb dX1_give_8 rfl (lv_at hl 1 rfl) ?_
    refine lv_lload_n hx hb dX1_give_9 rfl (lv_at hl 2 rfl) ?_
    refine pu_l (v := S1_plain va) (As := [.long va]) (rest := [.int ra, .ref q2]) ⟨hx, hb, hml, hown, hts⟩ (c1_plain l va ) gX1_give_X1_plain rfl hdX1_plain ⟨Nat.le_of_ble_eq_true rfl, Nat.le_of_ble_eq_true rfl⟩ hl.1 rfl (Nat.le_of_ble_eq_true rfl) dX1_give_10 ⟨Nat.zero_le _, Nat.zero_le _⟩ hP hS (fun H locs hP hS => ?_)
    refine va_last hx hb hK hP (ap4_D hap) hS 2 1 rfl rfl (ix_give c1 hr32) dX1_give_13 (fun H locs hP _ hS => ?_)
    have hP : va_P D vwCl (ww1 cI cJ cB h q1 q2 q3 (Mp_regs (vp_updL (M_regs u) ra.toNatClampNeg (S1_plain va)) u)) H := hP
    have e9 : S1_give ra va u = Mp_regs (vp_updL (M_regs u) ra.toNatClampNeg (S1_plain va)) u := by rw [S1_give, if_neg c1]
    exact W.vret hx hb hr (fun t ht hW => ⟨⟨(), rfl, trivial, by show va_P _ _ _ t.heap; rw [e9, ht]; exact hP⟩, hS.F ht⟩) hS.2.2 dX1_give_14
theorem iwX1_word : ∀ w ∈ wsX10, w ∈ wsX1_word := by decide +kernel
theorem flX1_word_7 : Cond.fieldLink RX1 7 "WordMachineModel" "code" "[I" ∈ wsX1_word := by decide +kernel
theorem flX1_word_21 : Cond.fieldLink RX1 21 "WordMachineModel" "words" "I" ∈ wsX1_word := by decide +kernel
theorem hdX1_word : yX1_word.cls = RX1 ∧ yX1_word.cls ≠ "java/lang/invoke/MethodHandle" ∧ yX1_word.cls ≠ "java/lang/invoke/VarHandle" ∧ (parseMethodDescriptor yX1_word.desc).map (fun d => d.parameters.length) = some 1 := by decide +kernel
set_option maxHeartbeats 4000000 in
set_option maxRecDepth 100000 in
theorem c1_word (l : Launch) {D : va_G} {cI cJ cB : ClassId} {h q1 q2 q3 : Nat} (hap : ap4 h q1 q2 q3) (wa : Int32) (u : MS) (h0 : 0 ≤ M_wc u) (h1 : M_wc u ≤ 1024) : Ini l yX1_word wsX1_word 0 0 D (ty1 cI cJ cB) (wa0 h q1 q2 q3) [.ref h, .int wa] (ww1 cI cJ cB h q1 q2 q3 u) (ww1 cI cJ cB h q1 q2 q3 (S1_word wa u).2) (S1_word wa u).1 := by
  refine Met.ofW (cc := cX1_word) (maxL := 2) (ret := (some .int)) (by decide) rfl ?_
  intro p e s m args below meth c s₁ B hml hv
  obtain ⟨rfl, hP, hK⟩ := hv
  have hx := B.exec
  have hb := B.bytes
  have hr := B.returns
  have hts := atoms_spec (ws := wsX1_word) B.pre
  have hown : s.vm.findClass RX1 = some m.cls := findClass_of_methodNamed B.named
  have hlocks := B.notSynchronized
  have hS : va_S (wa0 h q1 q2 q3) s.heap s.heap [] := va_S.rf
  have hl := lv_entry ([.ref h, .int wa]) (n := 2) (Nat.le_of_ble_eq_true rfl)
  rw [lg_entry_eq]
  generalize (lg_sl ([.ref h, .int wa]) ++ List.replicate (2 - (lg_sl ([.ref h, .int wa])).length) Slot.unset).toArray = ls at hl ⊢
  have hl : lv_has ls 2 [(0, .ref h), (1, .int wa)] := hl
  refine lv_aload_n hx hb dX1_word_0 rfl (lv_at hl 0 rfl) ?_
  refine va_get (D := D) (ci := 1) (v := .int (M_wc u)) (C := RX1) (T := TX1) (N := 12) hx hb hts iwX1_word hown hK hP 0 rfl rfl 1 (by decide) (hts (.fieldLink RX1 21 "WordMachineModel" "words" "I") flX1_word_21) (fun _ h9 => h9) rfl dX1_word_1 ?_
  refine lv_sipush (v := 1024) hx hb dX1_word_4 (by decide) ?_
  refine lv_icmp_ne (tgt := 12) hx hb dX1_word_7 (by decide) (fun (c1 : ¬ (M_wc u) = 1024) => ?_) (fun (c1 : (M_wc u) = 1024) => ?_)
  · refine lv_aload_n hx hb dX1_word_12 rfl (lv_at hl 0 rfl) ?_
    refine va_get (D := D) (ci := 1) (v := .ref q1) (C := RX1) (T := TX1) (N := 12) hx hb hts iwX1_word hown hK hP 0 rfl rfl 0 (by decide) (hts (.fieldLink RX1 7 "WordMachineModel" "code" "[I") flX1_word_7) (fun _ h9 => h9) rfl dX1_word_13 ?_
    refine lv_aload_n hx hb dX1_word_16 rfl (lv_at hl 0 rfl) ?_
    refine va_get (D := D) (ci := 1) (v := .int (M_wc u)) (C := RX1) (T := TX1) (N := 12) hx hb hts iwX1_word hown hK hP 0 rfl rfl 1 (by decide) (hts (.fieldLink RX1 21 "WordMachineModel" "words" "I") flX1_word_21) (fun _ h9 => h9) rfl dX1_word_17 ?_
    refine lv_iload_n hx hb dX1_word_20 rfl (lv_at hl 1 rfl) ?_
    refine va_iast hx hb hK hP (ap4_D hap) hS 1 0 rfl rfl (ix_word1 h0 h1 c1) dX1_word_21 (fun H locs hP _ hS => ?_)
    have hP : va_P D vwCl (ww1 cI cJ cB h q1 q2 q3 (Mp_code (upd (M_code u) (M_wc u).toNatClampNeg wa) u)) H := hP
    refine lv_aload_n hx hb dX1_word_22 rfl (lv_at hl 0 rfl) ?_
    refine lv_dup hx hb dX1_word_23 rfl ?_
    refine va_get (D := D) (ci := 1) (v := .int (M_wc (Mp_code (upd (M_code u) (M_wc u).toNatClampNeg wa) u))) (C := RX1) (T := TX1) (N := 12) hx hb hts iwX1_word hown hK hP 0 rfl rfl 1 (by decide) (hts (.fieldLink RX1 21 "WordMachineModel" "words" "I") flX1_word_21) (fun _ h9 => h9) rfl dX1_word_24 ?_
    refine lv_iconst (v := 1) hx hb dX1_word_27 (by decide) ?_
    refine lv_iadd hx hb dX1_word_28 ?_
    refine va_put (D := D) (ci := 1) (v := .int ((M_wc (Mp_code (upd (M_code u) (M_wc u).toNatClampNeg wa) u)) + 1)) (ty := .int) (C := RX1) (T := TX1) (N := 12) hx hb hts iwX1_word tyX1 tyX1_ok nmX1 hown hK hP (ap4_D hap) hS 0 rfl rfl 1 (by decide) (hts (.fieldLink RX1 21 "WordMachineModel" "words" "I") flX1_word_21) (fun _ h9 => h9) rfl (by decide +kernel) rfl rfl (Nat.le_of_ble_eq_true rfl) dX1_word_29 (fun H locs hP _ hS => ?_)
    have hP : va_P D vwCl (ww1 cI cJ cB h q1 q2 q3 (Mp_wc ((M_wc (Mp_code (upd (M_code u) (M_wc u).toNatClampNeg wa) u)) + 1) (Mp_code (upd (M_code u) (M_wc u).toNatClampNeg wa) u))) H := hP
    refine lv_aload_n hx hb dX1_word_32 rfl (lv_at hl 0 rfl) ?_
    refine va_get (D := D) (ci := 1) (v := .int (M_wc (Mp_wc ((M_wc (Mp_code (upd (M_code u) (M_wc u).toNatClampNeg wa) u)) + 1) (Mp_code (upd (M_code u) (M_wc u).toNatClampNeg wa) u)))) (C := RX1) (T := TX1) (N := 12) hx hb hts iwX1_word hown hK hP 0 rfl rfl 1 (by decide) (hts (.fieldLink RX1 21 "WordMachineModel" "words" "I") flX1_word_21) (fun _ h9 => h9) rfl dX1_word_33 ?_
    have e9 : S1_word wa u = (M_wc (Mp_wc ((M_wc (Mp_code (upd (M_code u) (M_wc u).toNatClampNeg wa) u)) + 1) (Mp_code (upd (M_code u) (M_wc u).toNatClampNeg wa) u)), Mp_wc ((M_wc (Mp_code (upd (M_code u) (M_wc u).toNatClampNeg wa) u)) + 1) (Mp_code (upd (M_code u) (M_wc u).toNatClampNeg wa) u)) := by rw [S1_word, if_neg c1]
    exact W.iret (v := M_wc (Mp_wc ((M_wc (Mp_code (upd (M_code u) (M_wc u).toNatClampNeg wa) u)) + 1) (Mp_code (upd (M_code u) (M_wc u).toNatClampNeg wa) u))) hx hb hr (fun t ht hW => ⟨⟨M_wc (Mp_wc ((M_wc (Mp_code (upd (M_code u) (M_wc u).toNatClampNeg wa) u)) + 1) (Mp_code (upd (M_code u) (M_wc u).toNatClampNeg wa) u)), (), rfl, by rw [e9], by show va_P _ _ _ t.heap; rw [e9, ht]; exact hP⟩, hS.F ht⟩) hS.2.2 dX1_word_36
  · refine lv_iconst (v := (-1)) hx hb dX1_word_10 (by decide) ?_
    have e9 : S1_word wa u = (((-1) : Int32), u) := by rw [S1_word, if_pos c1]
    exact W.iret (v := ((-1) : Int32)) hx hb hr (fun t ht hW => ⟨⟨((-1) : Int32), (), rfl, by rw [e9], by show va_P _ _ _ t.heap; rw [e9, ht]; exact hP⟩, hS.F ht⟩) hS.2.2 dX1_word_11
theorem hdX1_put : yX1_put.cls = RX1 ∧ yX1_put.cls ≠ "java/lang/invoke/MethodHandle" ∧ yX1_put.cls ≠ "java/lang/invoke/VarHandle" ∧ (parseMethodDescriptor yX1_put.desc).map (fun d => d.parameters.length) = some 2 := by decide +kernel
set_option maxHeartbeats 4000000 in
set_option maxRecDepth 100000 in
theorem c1_put (l : Launch) {D : va_G} {cI cJ cB : ClassId} {h q1 q2 q3 : Nat} (hap : ap4 h q1 q2 q3) (ra : Int32) (va : Int32) (u : MS)  : Ini l yX1_put wsX1_put 2 44 D (ty1 cI cJ cB) (wa0 h q1 q2 q3) [.ref h, .int ra, .int va] (ww1 cI cJ cB h q1 q2 q3 u) (ww1 cI cJ cB h q1 q2 q3 (S1_put ra va u).2) (S1_put ra va u).1 := by
  refine Met.ofW (cc := cX1_put) (maxL := 3) (ret := (some .boolean)) (by decide) rfl ?_
  intro p e s m args below meth c s₁ B hml hv
  obtain ⟨rfl, hP, hK⟩ := hv
  have hx := B.exec
  have hb := B.bytes
  have hr := B.returns
  have hts := atoms_spec (ws := wsX1_put) B.pre
  have hown : s.vm.findClass RX1 = some m.cls := findClass_of_methodNamed B.named
  have hlocks := B.notSynchronized
  have hS : va_S (wa0 h q1 q2 q3) s.heap s.heap [] := va_S.rf
  have hl := lv_entry ([.ref h, .int ra, .int va]) (n := 3) (Nat.le_of_ble_eq_true rfl)
  rw [lg_entry_eq]
  generalize (lg_sl ([.ref h, .int ra, .int va]) ++ List.replicate (3 - (lg_sl ([.ref h, .int ra, .int va])).length) Slot.unset).toArray = ls at hl ⊢
  have hl : lv_has ls 3 [(0, .ref h), (1, .int ra), (2, .int va)] := hl
  refine lv_iload_n hx hb dX1_put_0 rfl (lv_at hl 1 rfl) ?_
  refine lv_if_lt (tgt := 10) hx hb dX1_put_1 (by decide) (fun (c1 : ra < 0) => ?_) (fun (c1 : ¬ ra < 0) => ?_)
  · refine lv_iconst (v := 0) hx hb dX1_put_10 (by decide) ?_
    have e9 : S1_put ra va u = ((0 : Int32), u) := by rw [S1_put, if_pos c1]
    exact W.zret (v := (0 : Int32)) hx hb hr rfl (fun t ht hW => ⟨⟨(0 : Int32), (), rfl, by rw [e9], by show va_P _ _ _ t.heap; rw [e9, ht]; exact hP⟩, hS.F ht⟩) hS.2.2 dX1_put_11
  · refine lv_iload_n hx hb dX1_put_4 rfl (lv_at hl 1 rfl) ?_
    refine lv_bipush (v := 31) hx hb dX1_put_5 (by decide) ?_
    refine lv_icmp_le (tgt := 12) hx hb dX1_put_7 (by decide) (fun (c2 : ra ≤ 31) => ?_) (fun (c2 : ¬ ra ≤ 31) => ?_)
    · refine lv_aload_n hx hb dX1_put_12 rfl (lv_at hl 0 rfl) ?_
      refine lv_iload_n hx hb dX1_put_13 rfl (lv_at hl 1 rfl) ?_
      refine lv_iload_n hx hb dX1_put_14 rfl (lv_at hl 2 rfl) ?_
      refine lv_i2l (v := va.toInt64) hx hb dX1_put_15 rfl ?_
      refine in_v (As := [.int ra, .long va.toInt64]) (rest := []) (w1 := ww1 cI cJ cB h q1 q2 q3 (S1_give ra va.toInt64 u)) ⟨hx, hb, hml, hown, hts⟩ (c1_give l hap ra va.toInt64 u (lt32 c2)) gX1_put_X1_give rfl hdX1_give ⟨Nat.le_of_ble_eq_true rfl, Nat.le_of_ble_eq_true rfl⟩ hK rfl rfl hl.1 rfl (Nat.le_of_ble_eq_true rfl) dX1_put_16 ⟨Nat.zero_le _, Nat.zero_le _⟩ hP hS (fun _ h => h) (fun H locs hP hS _ _ => ?_)
      refine lv_iconst (v := 1) hx hb dX1_put_19 (by decide) ?_
      have e9 : S1_put ra va u = ((1 : Int32), S1_give ra va.toInt64 u) := by rw [S1_put, if_neg c1, if_pos c2]
      exact W.zret (v := (1 : Int32)) hx hb hr rfl (fun t ht hW => ⟨⟨(1 : Int32), (), rfl, by rw [e9], by show va_P _ _ _ t.heap; rw [e9, ht]; exact hP⟩, hS.F ht⟩) hS.2.2 dX1_put_20
    · refine lv_iconst (v := 0) hx hb dX1_put_10 (by decide) ?_
      have e9 : S1_put ra va u = ((0 : Int32), u) := by rw [S1_put, if_neg c1, if_neg c2]
      exact W.zret (v := (0 : Int32)) hx hb hr rfl (fun t ht hW => ⟨⟨(0 : Int32), (), rfl, by rw [e9], by show va_P _ _ _ t.heap; rw [e9, ht]; exact hP⟩, hS.F ht⟩) hS.2.2 dX1_put_11
theorem iwX1_get : ∀ w ∈ wsX10, w ∈ wsX1_get := by decide +kernel
theorem flX1_get_13 : Cond.fieldLink RX1 13 "WordMachineModel" "registers" "[J" ∈ wsX1_get := by decide +kernel
theorem hdX1_get : yX1_get.cls = RX1 ∧ yX1_get.cls ≠ "java/lang/invoke/MethodHandle" ∧ yX1_get.cls ≠ "java/lang/invoke/VarHandle" ∧ (parseMethodDescriptor yX1_get.desc).map (fun d => d.parameters.length) = some 1 := by decide +kernel
set_option maxHeartbeats 4000000 in
set_option maxRecDepth 100000 in
theorem c1_get (l : Launch) {D : va_G} {cI cJ cB : ClassId} {h q1 q2 q3 : Nat} (hap : ap4 h q1 q2 q3) (ra : Int32) (u : MS)  : Ini l yX1_get wsX1_get 0 0 D (ty1 cI cJ cB) (wa0 h q1 q2 q3) [.ref h, .int ra] (ww1 cI cJ cB h q1 q2 q3 u) (ww1 cI cJ cB h q1 q2 q3 u) (S1_get ra u) := by
  refine Met.ofW (cc := cX1_get) (maxL := 2) (ret := (some .int)) (by decide) rfl ?_
  intro p e s m args below meth c s₁ B hml hv
  obtain ⟨rfl, hP, hK⟩ := hv
  have hx := B.exec
  have hb := B.bytes
  have hr := B.returns
  have hts := atoms_spec (ws := wsX1_get) B.pre
  have hown : s.vm.findClass RX1 = some m.cls := findClass_of_methodNamed B.named
  have hlocks := B.notSynchronized
  have hS : va_S (wa0 h q1 q2 q3) s.heap s.heap [] := va_S.rf
  have hl := lv_entry ([.ref h, .int ra]) (n := 2) (Nat.le_of_ble_eq_true rfl)
  rw [lg_entry_eq]
  generalize (lg_sl ([.ref h, .int ra]) ++ List.replicate (2 - (lg_sl ([.ref h, .int ra])).length) Slot.unset).toArray = ls at hl ⊢
  have hl : lv_has ls 2 [(0, .ref h), (1, .int ra)] := hl
  refine lv_iload_n hx hb dX1_get_0 rfl (lv_at hl 1 rfl) ?_
  refine lv_if_lt (tgt := 20) hx hb dX1_get_1 (by decide) (fun (c1 : ra < 0) => ?_) (fun (c1 : ¬ ra < 0) => ?_)
  · refine lv_iconst (v := 0) hx hb dX1_get_20 (by decide) ?_
    have e9 : S1_get ra u = (0 : Int32) := by rw [S1_get, if_pos c1]
    exact W.iret (v := (0 : Int32)) hx hb hr (fun t ht hW => ⟨⟨(0 : Int32), (), rfl, e9.symm, (by show va_P _ _ _ t.heap; rw [ht]; exact hP)⟩, hS.F ht⟩) hS.2.2 dX1_get_21
  · refine lv_iload_n hx hb dX1_get_4 rfl (lv_at hl 1 rfl) ?_
    refine lv_bipush (v := 32) hx hb dX1_get_5 (by decide) ?_
    refine lv_icmp_ge (tgt := 20) hx hb dX1_get_7 (by decide) (fun (c2 : 32 ≤ ra) => ?_) (fun (c2 : ¬ 32 ≤ ra) => ?_)
    · refine lv_iconst (v := 0) hx hb dX1_get_20 (by decide) ?_
      have e9 : S1_get ra u = (0 : Int32) := by rw [S1_get, if_neg c1, if_pos c2]
      exact W.iret (v := (0 : Int32)) hx hb hr (fun t ht hW => ⟨⟨(0 : Int32), (), rfl, e9.symm, (by show va_P _ _ _ t.heap; rw [ht]; exact hP)⟩, hS.F ht⟩) hS.2.2 dX1_get_21
    · refine lv_aload_n hx hb dX1_get_10 rfl (lv_at hl 0 rfl) ?_
      refine va_get (D := D) (ci := 1) (v := .ref q2) (C := RX1) (T := TX1) (N := 12) hx hb hts iwX1_get hown hK hP 0 rfl rfl 4 (by decide) (hts (.fieldLink RX1 13 "WordMachineModel" "registers" "[J") flX1_get_13) (fun _ h9 => h9) rfl dX1_get_11 ?_
      refine lv_iload_n hx hb dX1_get_14 rfl (lv_at hl 1 rfl) ?_
      refine va_lald hx hb hK hP 2 1 rfl rfl (ix_get c1 c2) dX1_get_15 ?_
      refine lv_l2i (v := (M_regs u ra.toNatClampNeg).toInt32) hx hb dX1_get_16 rfl ?_
      refine lv_goto (tgt := 21) hx hb dX1_get_17 (by decide) ?_
      have e9 : S1_get ra u = (M_regs u ra.toNatClampNeg).toInt32 := by rw [S1_get, if_neg c1, if_neg c2]
      exact W.iret (v := (M_regs u ra.toNatClampNeg).toInt32) hx hb hr (fun t ht hW => ⟨⟨(M_regs u ra.toNatClampNeg).toInt32, (), rfl, e9.symm, (by show va_P _ _ _ t.heap; rw [ht]; exact hP)⟩, hS.F ht⟩) hS.2.2 dX1_get_21
theorem iwX1_poke : ∀ w ∈ wsX10, w ∈ wsX1_poke := by decide +kernel
theorem flX1_poke_17 : Cond.fieldLink RX1 17 "WordMachineModel" "memory" "[B" ∈ wsX1_poke := by decide +kernel
theorem hdX1_poke : yX1_poke.cls = RX1 ∧ yX1_poke.cls ≠ "java/lang/invoke/MethodHandle" ∧ yX1_poke.cls ≠ "java/lang/invoke/VarHandle" ∧ (parseMethodDescriptor yX1_poke.desc).map (fun d => d.parameters.length) = some 2 := by decide +kernel
set_option maxHeartbeats 4000000 in
set_option maxRecDepth 100000 in
theorem c1_poke (l : Launch) {D : va_G} {cI cJ cB : ClassId} {h q1 q2 q3 : Nat} (hap : ap4 h q1 q2 q3) (aa : Int32) (va : Int32) (u : MS)  : Ini l yX1_poke wsX1_poke 0 0 D (ty1 cI cJ cB) (wa0 h q1 q2 q3) [.ref h, .int aa, .int va] (ww1 cI cJ cB h q1 q2 q3 u) (ww1 cI cJ cB h q1 q2 q3 (S1_poke aa va u).2) (S1_poke aa va u).1 := by
  refine Met.ofW (cc := cX1_poke) (maxL := 3) (ret := (some .boolean)) (by decide) rfl ?_
  intro p e s m args below meth c s₁ B hml hv
  obtain ⟨rfl, hP, hK⟩ := hv
  have hx := B.exec
  have hb := B.bytes
  have hr := B.returns
  have hts := atoms_spec (ws := wsX1_poke) B.pre
  have hown : s.vm.findClass RX1 = some m.cls := findClass_of_methodNamed B.named
  have hlocks := B.notSynchronized
  have hS : va_S (wa0 h q1 q2 q3) s.heap s.heap [] := va_S.rf
  have hl := lv_entry ([.ref h, .int aa, .int va]) (n := 3) (Nat.le_of_ble_eq_true rfl)
  rw [lg_entry_eq]
  generalize (lg_sl ([.ref h, .int aa, .int va]) ++ List.replicate (3 - (lg_sl ([.ref h, .int aa, .int va])).length) Slot.unset).toArray = ls at hl ⊢
  have hl : lv_has ls 3 [(0, .ref h), (1, .int aa), (2, .int va)] := hl
  refine lv_iload_n hx hb dX1_poke_0 rfl (lv_at hl 1 rfl) ?_
  refine lv_if_lt (tgt := 11) hx hb dX1_poke_1 (by decide) (fun (c1 : aa < 0) => ?_) (fun (c1 : ¬ aa < 0) => ?_)
  · refine lv_iconst (v := 0) hx hb dX1_poke_11 (by decide) ?_
    have e9 : S1_poke aa va u = ((0 : Int32), u) := by rw [S1_poke, if_pos c1]
    exact W.zret (v := (0 : Int32)) hx hb hr rfl (fun t ht hW => ⟨⟨(0 : Int32), (), rfl, by rw [e9], by show va_P _ _ _ t.heap; rw [e9, ht]; exact hP⟩, hS.F ht⟩) hS.2.2 dX1_poke_12
  · refine lv_iload_n hx hb dX1_poke_4 rfl (lv_at hl 1 rfl) ?_
    refine lv_sipush (v := 4095) hx hb dX1_poke_5 (by decide) ?_
    refine lv_icmp_le (tgt := 13) hx hb dX1_poke_8 (by decide) (fun (c2 : aa ≤ 4095) => ?_) (fun (c2 : ¬ aa ≤ 4095) => ?_)
    · refine lv_aload_n hx hb dX1_poke_13 rfl (lv_at hl 0 rfl) ?_
      refine va_get (D := D) (ci := 1) (v := .ref q3) (C := RX1) (T := TX1) (N := 12) hx hb hts iwX1_poke hown hK hP 0 rfl rfl 5 (by decide) (hts (.fieldLink RX1 17 "WordMachineModel" "memory" "[B") flX1_poke_17) (fun _ h9 => h9) rfl dX1_poke_14 ?_
      refine lv_iload_n hx hb dX1_poke_17 rfl (lv_at hl 1 rfl) ?_
      refine lv_iload_n hx hb dX1_poke_18 rfl (lv_at hl 2 rfl) ?_
      refine lv_i2b (v := va.toInt8.toInt32) hx hb dX1_poke_19 rfl ?_
      refine va_bast hx hb hK hP (ap4_D hap) hS 3 2 rfl rfl (ix_poke c1 c2) dX1_poke_20 (fun H locs hP _ hS => ?_)
      have hP : va_P D vwCl (ww1 cI cJ cB h q1 q2 q3 (Mp_mem (upd (M_mem u) aa.toNatClampNeg (vp_nar .byte va.toInt8.toInt32)) u)) H := hP
      refine lv_iconst (v := 1) hx hb dX1_poke_21 (by decide) ?_
      have e9 : S1_poke aa va u = ((1 : Int32), Mp_mem (upd (M_mem u) aa.toNatClampNeg (vp_nar .byte va.toInt8.toInt32)) u) := by rw [S1_poke, if_neg c1, if_pos c2]
      exact W.zret (v := (1 : Int32)) hx hb hr rfl (fun t ht hW => ⟨⟨(1 : Int32), (), rfl, by rw [e9], by show va_P _ _ _ t.heap; rw [e9, ht]; exact hP⟩, hS.F ht⟩) hS.2.2 dX1_poke_22
    · refine lv_iconst (v := 0) hx hb dX1_poke_11 (by decide) ?_
      have e9 : S1_poke aa va u = ((0 : Int32), u) := by rw [S1_poke, if_neg c1, if_neg c2]
      exact W.zret (v := (0 : Int32)) hx hb hr rfl (fun t ht hW => ⟨⟨(0 : Int32), (), rfl, by rw [e9], by show va_P _ _ _ t.heap; rw [e9, ht]; exact hP⟩, hS.F ht⟩) hS.2.2 dX1_poke_12
theorem iwX1_peek : ∀ w ∈ wsX10, w ∈ wsX1_peek := by decide +kernel
theorem flX1_peek_17 : Cond.fieldLink RX1 17 "WordMachineModel" "memory" "[B" ∈ wsX1_peek := by decide +kernel
theorem hdX1_peek : yX1_peek.cls = RX1 ∧ yX1_peek.cls ≠ "java/lang/invoke/MethodHandle" ∧ yX1_peek.cls ≠ "java/lang/invoke/VarHandle" ∧ (parseMethodDescriptor yX1_peek.desc).map (fun d => d.parameters.length) = some 1 := by decide +kernel
set_option maxHeartbeats 4000000 in
set_option maxRecDepth 100000 in
theorem c1_peek (l : Launch) {D : va_G} {cI cJ cB : ClassId} {h q1 q2 q3 : Nat} (hap : ap4 h q1 q2 q3) (aa : Int32) (u : MS)  : Ini l yX1_peek wsX1_peek 0 0 D (ty1 cI cJ cB) (wa0 h q1 q2 q3) [.ref h, .int aa] (ww1 cI cJ cB h q1 q2 q3 u) (ww1 cI cJ cB h q1 q2 q3 u) (S1_peek aa u) := by
  refine Met.ofW (cc := cX1_peek) (maxL := 2) (ret := (some .int)) (by decide) rfl ?_
  intro p e s m args below meth c s₁ B hml hv
  obtain ⟨rfl, hP, hK⟩ := hv
  have hx := B.exec
  have hb := B.bytes
  have hr := B.returns
  have hts := atoms_spec (ws := wsX1_peek) B.pre
  have hown : s.vm.findClass RX1 = some m.cls := findClass_of_methodNamed B.named
  have hlocks := B.notSynchronized
  have hS : va_S (wa0 h q1 q2 q3) s.heap s.heap [] := va_S.rf
  have hl := lv_entry ([.ref h, .int aa]) (n := 2) (Nat.le_of_ble_eq_true rfl)
  rw [lg_entry_eq]
  generalize (lg_sl ([.ref h, .int aa]) ++ List.replicate (2 - (lg_sl ([.ref h, .int aa])).length) Slot.unset).toArray = ls at hl ⊢
  have hl : lv_has ls 2 [(0, .ref h), (1, .int aa)] := hl
  refine lv_iload_n hx hb dX1_peek_0 rfl (lv_at hl 1 rfl) ?_
  refine lv_if_lt (tgt := 24) hx hb dX1_peek_1 (by decide) (fun (c1 : aa < 0) => ?_) (fun (c1 : ¬ aa < 0) => ?_)
  · refine lv_iconst (v := (-1)) hx hb dX1_peek_24 (by decide) ?_
    have e9 : S1_peek aa u = ((-1) : Int32) := by rw [S1_peek, if_pos c1]
    exact W.iret (v := ((-1) : Int32)) hx hb hr (fun t ht hW => ⟨⟨((-1) : Int32), (), rfl, e9.symm, (by show va_P _ _ _ t.heap; rw [ht]; exact hP)⟩, hS.F ht⟩) hS.2.2 dX1_peek_25
  · refine lv_iload_n hx hb dX1_peek_4 rfl (lv_at hl 1 rfl) ?_
    refine lv_sipush (v := 4096) hx hb dX1_peek_5 (by decide) ?_
    refine lv_icmp_ge (tgt := 24) hx hb dX1_peek_8 (by decide) (fun (c2 : 4096 ≤ aa) => ?_) (fun (c2 : ¬ 4096 ≤ aa) => ?_)
    · refine lv_iconst (v := (-1)) hx hb dX1_peek_24 (by decide) ?_
      have e9 : S1_peek aa u = ((-1) : Int32) := by rw [S1_peek, if_neg c1, if_pos c2]
      exact W.iret (v := ((-1) : Int32)) hx hb hr (fun t ht hW => ⟨⟨((-1) : Int32), (), rfl, e9.symm, (by show va_P _ _ _ t.heap; rw [ht]; exact hP)⟩, hS.F ht⟩) hS.2.2 dX1_peek_25
    · refine lv_aload_n hx hb dX1_peek_11 rfl (lv_at hl 0 rfl) ?_
      refine va_get (D := D) (ci := 1) (v := .ref q3) (C := RX1) (T := TX1) (N := 12) hx hb hts iwX1_peek hown hK hP 0 rfl rfl 5 (by decide) (hts (.fieldLink RX1 17 "WordMachineModel" "memory" "[B") flX1_peek_17) (fun _ h9 => h9) rfl dX1_peek_12 ?_
      refine lv_iload_n hx hb dX1_peek_15 rfl (lv_at hl 1 rfl) ?_
      refine va_bald hx hb hK hP 3 2 rfl rfl (ix_peek c1 c2) dX1_peek_16 ?_
      refine lv_sipush (v := 255) hx hb dX1_peek_17 (by decide) ?_
      refine lv_iand hx hb dX1_peek_20 ?_
      refine lv_goto (tgt := 25) hx hb dX1_peek_21 (by decide) ?_
      have e9 : S1_peek aa u = (M_mem u aa.toNatClampNeg) &&& 255 := by rw [S1_peek, if_neg c1, if_neg c2]
      exact W.iret (v := (M_mem u aa.toNatClampNeg) &&& 255) hx hb hr (fun t ht hW => ⟨⟨(M_mem u aa.toNatClampNeg) &&& 255, (), rfl, e9.symm, (by show va_P _ _ _ t.heap; rw [ht]; exact hP)⟩, hS.F ht⟩) hS.2.2 dX1_peek_25
theorem iwX1_go : ∀ w ∈ wsX10, w ∈ wsX1_go := by decide +kernel
theorem flX1_go_39 : Cond.fieldLink RX1 39 "WordMachineModel" "pc" "I" ∈ wsX1_go := by decide +kernel
theorem hdX1_go : yX1_go.cls = RX1 ∧ yX1_go.cls ≠ "java/lang/invoke/MethodHandle" ∧ yX1_go.cls ≠ "java/lang/invoke/VarHandle" ∧ (parseMethodDescriptor yX1_go.desc).map (fun d => d.parameters.length) = some 1 := by decide +kernel
set_option maxHeartbeats 4000000 in
set_option maxRecDepth 100000 in
theorem c1_go (l : Launch) {D : va_G} {cI cJ cB : ClassId} {h q1 q2 q3 : Nat} (hap : ap4 h q1 q2 q3) (aa : Int32) (u : MS)  : Ini l yX1_go wsX1_go 0 0 D (ty1 cI cJ cB) (wa0 h q1 q2 q3) [.ref h, .int aa] (ww1 cI cJ cB h q1 q2 q3 u) (ww1 cI cJ cB h q1 q2 q3 (S1_go aa u).2) (S1_go aa u).1 := by
  refine Met.ofW (cc := cX1_go) (maxL := 2) (ret := (some .boolean)) (by decide) rfl ?_
  intro p e s m args below meth c s₁ B hml hv
  obtain ⟨rfl, hP, hK⟩ := hv
  have hx := B.exec
  have hb := B.bytes
  have hr := B.returns
  have hts := atoms_spec (ws := wsX1_go) B.pre
  have hown : s.vm.findClass RX1 = some m.cls := findClass_of_methodNamed B.named
  have hlocks := B.notSynchronized
  have hS : va_S (wa0 h q1 q2 q3) s.heap s.heap [] := va_S.rf
  have hl := lv_entry ([.ref h, .int aa]) (n := 2) (Nat.le_of_ble_eq_true rfl)
  rw [lg_entry_eq]
  generalize (lg_sl ([.ref h, .int aa]) ++ List.replicate (2 - (lg_sl ([.ref h, .int aa])).length) Slot.unset).toArray = ls at hl ⊢
  have hl : lv_has ls 2 [(0, .ref h), (1, .int aa)] := hl
  refine lv_iload_n hx hb dX1_go_0 rfl (lv_at hl 1 rfl) ?_
  refine lv_iconst (v := 4) hx hb dX1_go_1 (by decide) ?_
  refine lv_irem hx hb dX1_go_2 (by decide) ?_
  refine lv_if_eq (tgt := 8) hx hb dX1_go_3 (by decide) (fun (c1 : (aa - aa / 4 * 4) = 0) => ?_) (fun (c1 : ¬ (aa - aa / 4 * 4) = 0) => ?_)
  · refine lv_aload_n hx hb dX1_go_8 rfl (lv_at hl 0 rfl) ?_
    refine lv_iload_n hx hb dX1_go_9 rfl (lv_at hl 1 rfl) ?_
    refine va_put (D := D) (ci := 1) (v := .int aa) (ty := .int) (C := RX1) (T := TX1) (N := 12) hx hb hts iwX1_go tyX1 tyX1_ok nmX1 hown hK hP (ap4_D hap) hS 0 rfl rfl 2 (by decide) (hts (.fieldLink RX1 39 "WordMachineModel" "pc" "I") flX1_go_39) (fun _ h9 => h9) rfl (by decide +kernel) rfl rfl (Nat.le_of_ble_eq_true rfl) dX1_go_10 (fun H locs hP _ hS => ?_)
    have hP : va_P D vwCl (ww1 cI cJ cB h q1 q2 q3 (Mp_pc aa u)) H := hP
    refine lv_iconst (v := 1) hx hb dX1_go_13 (by decide) ?_
    have e9 : S1_go aa u = ((1 : Int32), Mp_pc aa u) := by rw [S1_go, if_pos c1]
    exact W.zret (v := (1 : Int32)) hx hb hr rfl (fun t ht hW => ⟨⟨(1 : Int32), (), rfl, by rw [e9], by show va_P _ _ _ t.heap; rw [e9, ht]; exact hP⟩, hS.F ht⟩) hS.2.2 dX1_go_14
  · refine lv_iconst (v := 0) hx hb dX1_go_6 (by decide) ?_
    have e9 : S1_go aa u = ((0 : Int32), u) := by rw [S1_go, if_neg c1]
    exact W.zret (v := (0 : Int32)) hx hb hr rfl (fun t ht hW => ⟨⟨(0 : Int32), (), rfl, by rw [e9], by show va_P _ _ _ t.heap; rw [e9, ht]; exact hP⟩, hS.F ht⟩) hS.2.2 dX1_go_7
theorem iwX1_pc : ∀ w ∈ wsX10, w ∈ wsX1_pc := by decide +kernel
theorem flX1_pc_39 : Cond.fieldLink RX1 39 "WordMachineModel" "pc" "I" ∈ wsX1_pc := by decide +kernel
theorem hdX1_pc : yX1_pc.cls = RX1 ∧ yX1_pc.cls ≠ "java/lang/invoke/MethodHandle" ∧ yX1_pc.cls ≠ "java/lang/invoke/VarHandle" ∧ (parseMethodDescriptor yX1_pc.desc).map (fun d => d.parameters.length) = some 0 := by decide +kernel
set_option maxHeartbeats 4000000 in
set_option maxRecDepth 100000 in
theorem c1_pc (l : Launch) {D : va_G} {cI cJ cB : ClassId} {h q1 q2 q3 : Nat} (hap : ap4 h q1 q2 q3)  (u : MS)  : Ini l yX1_pc wsX1_pc 0 0 D (ty1 cI cJ cB) (wa0 h q1 q2 q3) [.ref h] (ww1 cI cJ cB h q1 q2 q3 u) (ww1 cI cJ cB h q1 q2 q3 u) (S1_pc u) := by
  refine Met.ofW (cc := cX1_pc) (maxL := 1) (ret := (some .int)) (by decide) rfl ?_
  intro p e s m args below meth c s₁ B hml hv
  obtain ⟨rfl, hP, hK⟩ := hv
  have hx := B.exec
  have hb := B.bytes
  have hr := B.returns
  have hts := atoms_spec (ws := wsX1_pc) B.pre
  have hown : s.vm.findClass RX1 = some m.cls := findClass_of_methodNamed B.named
  have hlocks := B.notSynchronized
  have hS : va_S (wa0 h q1 q2 q3) s.heap s.heap [] := va_S.rf
  have hl := lv_entry ([.ref h]) (n := 1) (Nat.le_of_ble_eq_true rfl)
  rw [lg_entry_eq]
  generalize (lg_sl ([.ref h]) ++ List.replicate (1 - (lg_sl ([.ref h])).length) Slot.unset).toArray = ls at hl ⊢
  have hl : lv_has ls 1 [(0, .ref h)] := hl
  refine lv_aload_n hx hb dX1_pc_0 rfl (lv_at hl 0 rfl) ?_
  refine va_get (D := D) (ci := 1) (v := .int (M_pc u)) (C := RX1) (T := TX1) (N := 12) hx hb hts iwX1_pc hown hK hP 0 rfl rfl 2 (by decide) (hts (.fieldLink RX1 39 "WordMachineModel" "pc" "I") flX1_pc_39) (fun _ h9 => h9) rfl dX1_pc_1 ?_
  have e9 : S1_pc u = M_pc u := by rw [S1_pc]
  exact W.iret (v := M_pc u) hx hb hr (fun t ht hW => ⟨⟨M_pc u, (), rfl, e9.symm, (by show va_P _ _ _ t.heap; rw [ht]; exact hP)⟩, hS.F ht⟩) hS.2.2 dX1_pc_4
theorem iwX1_steps : ∀ w ∈ wsX10, w ∈ wsX1_steps := by decide +kernel
theorem flX1_steps_42 : Cond.fieldLink RX1 42 "WordMachineModel" "steps" "I" ∈ wsX1_steps := by decide +kernel
theorem hdX1_steps : yX1_steps.cls = RX1 ∧ yX1_steps.cls ≠ "java/lang/invoke/MethodHandle" ∧ yX1_steps.cls ≠ "java/lang/invoke/VarHandle" ∧ (parseMethodDescriptor yX1_steps.desc).map (fun d => d.parameters.length) = some 0 := by decide +kernel
set_option maxHeartbeats 4000000 in
set_option maxRecDepth 100000 in
theorem c1_steps (l : Launch) {D : va_G} {cI cJ cB : ClassId} {h q1 q2 q3 : Nat} (hap : ap4 h q1 q2 q3)  (u : MS)  : Ini l yX1_steps wsX1_steps 0 0 D (ty1 cI cJ cB) (wa0 h q1 q2 q3) [.ref h] (ww1 cI cJ cB h q1 q2 q3 u) (ww1 cI cJ cB h q1 q2 q3 u) (S1_steps u) := by
  refine Met.ofW (cc := cX1_steps) (maxL := 1) (ret := (some .int)) (by decide) rfl ?_
  intro p e s m args below meth c s₁ B hml hv
  obtain ⟨rfl, hP, hK⟩ := hv
  have hx := B.exec
  have hb := B.bytes
  have hr := B.returns
  have hts := atoms_spec (ws := wsX1_steps) B.pre
  have hown : s.vm.findClass RX1 = some m.cls := findClass_of_methodNamed B.named
  have hlocks := B.notSynchronized
  have hS : va_S (wa0 h q1 q2 q3) s.heap s.heap [] := va_S.rf
  have hl := lv_entry ([.ref h]) (n := 1) (Nat.le_of_ble_eq_true rfl)
  rw [lg_entry_eq]
  generalize (lg_sl ([.ref h]) ++ List.replicate (1 - (lg_sl ([.ref h])).length) Slot.unset).toArray = ls at hl ⊢
  have hl : lv_has ls 1 [(0, .ref h)] := hl
  refine lv_aload_n hx hb dX1_steps_0 rfl (lv_at hl 0 rfl) ?_
  refine va_get (D := D) (ci := 1) (v := .int (M_st u)) (C := RX1) (T := TX1) (N := 12) hx hb hts iwX1_steps hown hK hP 0 rfl rfl 3 (by decide) (hts (.fieldLink RX1 42 "WordMachineModel" "steps" "I") flX1_steps_42) (fun _ h9 => h9) rfl dX1_steps_1 ?_
  have e9 : S1_steps u = M_st u := by rw [S1_steps]
  exact W.iret (v := M_st u) hx hb hr (fun t ht hW => ⟨⟨M_st u, (), rfl, e9.symm, (by show va_P _ _ _ t.heap; rw [ht]; exact hP)⟩, hS.F ht⟩) hS.2.2 dX1_steps_4
theorem iwX1_width : ∀ w ∈ wsX10, w ∈ wsX1_width := by decide +kernel
theorem flX1_width_56 : Cond.fieldLink RX1 56 "WordMachineModel" "t" "I" ∈ wsX1_width := by decide +kernel
theorem hdX1_width : yX1_width.cls = RX1 ∧ yX1_width.cls ≠ "java/lang/invoke/MethodHandle" ∧ yX1_width.cls ≠ "java/lang/invoke/VarHandle" ∧ (parseMethodDescriptor yX1_width.desc).map (fun d => d.parameters.length) = some 1 := by decide +kernel
set_option maxHeartbeats 4000000 in
set_option maxRecDepth 100000 in
theorem c1_width (l : Launch) {D : va_G} {cI cJ cB : ClassId} {h q1 q2 q3 : Nat} (hap : ap4 h q1 q2 q3) (la : Int32) (u : MS)  : Ini l yX1_width wsX1_width 0 0 D (ty1 cI cJ cB) (wa0 h q1 q2 q3) [.ref h, .int la] (ww1 cI cJ cB h q1 q2 q3 u) (ww1 cI cJ cB h q1 q2 q3 u) (S1_width la u) := by
  refine Met.ofW (cc := cX1_width) (maxL := 2) (ret := (some .int)) (by decide) rfl ?_
  intro p e s m args below meth c s₁ B hml hv
  obtain ⟨rfl, hP, hK⟩ := hv
  have hx := B.exec
  have hb := B.bytes
  have hr := B.returns
  have hts := atoms_spec (ws := wsX1_width) B.pre
  have hown : s.vm.findClass RX1 = some m.cls := findClass_of_methodNamed B.named
  have hlocks := B.notSynchronized
  have hS : va_S (wa0 h q1 q2 q3) s.heap s.heap [] := va_S.rf
  have hl := lv_entry ([.ref h, .int la]) (n := 2) (Nat.le_of_ble_eq_true rfl)
  rw [lg_entry_eq]
  generalize (lg_sl ([.ref h, .int la]) ++ List.replicate (2 - (lg_sl ([.ref h, .int la])).length) Slot.unset).toArray = ls at hl ⊢
  have hl : lv_has ls 2 [(0, .ref h), (1, .int la)] := hl
  refine lv_aload_n hx hb dX1_width_0 rfl (lv_at hl 0 rfl) ?_
  refine va_get (D := D) (ci := 1) (v := .int (M_t u)) (C := RX1) (T := TX1) (N := 12) hx hb hts iwX1_width hown hK hP 0 rfl rfl 7 (by decide) (hts (.fieldLink RX1 56 "WordMachineModel" "t" "I") flX1_width_56) (fun _ h9 => h9) rfl dX1_width_1 ?_
  refine lv_if_eq (tgt := 19) hx hb dX1_width_4 (by decide) (fun (c1 : (M_t u) = 0) => ?_) (fun (c1 : ¬ (M_t u) = 0) => ?_)
  · refine lv_iconst (v := 1) hx hb dX1_width_19 (by decide) ?_
    refine lv_goto (tgt := 60) hx hb dX1_width_20 (by decide) ?_
    have e9 : S1_width la u = (1 : Int32) := by rw [S1_width, if_pos c1]
    exact W.iret (v := (1 : Int32)) hx hb hr (fun t ht hW => ⟨⟨(1 : Int32), (), rfl, e9.symm, (by show va_P _ _ _ t.heap; rw [ht]; exact hP)⟩, hS.F ht⟩) hS.2.2 dX1_width_60
  · refine lv_iload_n hx hb dX1_width_7 rfl (lv_at hl 1 rfl) ?_
    refine lv_if_eq (tgt := 23) hx hb dX1_width_8 (by decide) (fun (c2 : la = 0) => ?_) (fun (c2 : ¬ la = 0) => ?_)
    · refine lv_aload_n hx hb dX1_width_23 rfl (lv_at hl 0 rfl) ?_
      refine va_get (D := D) (ci := 1) (v := .int (M_t u)) (C := RX1) (T := TX1) (N := 12) hx hb hts iwX1_width hown hK hP 0 rfl rfl 7 (by decide) (hts (.fieldLink RX1 56 "WordMachineModel" "t" "I") flX1_width_56) (fun _ h9 => h9) rfl dX1_width_24 ?_
      refine lv_iconst (v := 1) hx hb dX1_width_27 (by decide) ?_
      refine lv_icmp_eq (tgt := 43) hx hb dX1_width_28 (by decide) (fun (c3 : (M_t u) = 1) => ?_) (fun (c3 : ¬ (M_t u) = 1) => ?_)
      · refine lv_iconst (v := 2) hx hb dX1_width_43 (by decide) ?_
        refine lv_goto (tgt := 60) hx hb dX1_width_44 (by decide) ?_
        have e9 : S1_width la u = (2 : Int32) := by rw [S1_width, if_neg c1, if_pos c2, if_pos c3]
        exact W.iret (v := (2 : Int32)) hx hb hr (fun t ht hW => ⟨⟨(2 : Int32), (), rfl, e9.symm, (by show va_P _ _ _ t.heap; rw [ht]; exact hP)⟩, hS.F ht⟩) hS.2.2 dX1_width_60
      · refine lv_iload_n hx hb dX1_width_31 rfl (lv_at hl 1 rfl) ?_
        refine lv_if_eq (tgt := 47) hx hb dX1_width_32 (by decide) (fun (c4 : la = 0) => ?_) (fun (c4 : ¬ la = 0) => ?_)
        · refine lv_aload_n hx hb dX1_width_47 rfl (lv_at hl 0 rfl) ?_
          refine va_get (D := D) (ci := 1) (v := .int (M_t u)) (C := RX1) (T := TX1) (N := 12) hx hb hts iwX1_width hown hK hP 0 rfl rfl 7 (by decide) (hts (.fieldLink RX1 56 "WordMachineModel" "t" "I") flX1_width_56) (fun _ h9 => h9) rfl dX1_width_48 ?_
          refine lv_iconst (v := 2) hx hb dX1_width_51 (by decide) ?_
          refine lv_icmp_ne (tgt := 59) hx hb dX1_width_52 (by decide) (fun (c5 : ¬ (M_t u) = 2) => ?_) (fun (c5 : (M_t u) = 2) => ?_)
          · refine lv_iconst (v := 0) hx hb dX1_width_59 (by decide) ?_
            have e9 : S1_width la u = (0 : Int32) := by rw [S1_width, if_neg c1, if_pos c2, if_neg c3, if_pos c4, if_neg c5]
            exact W.iret (v := (0 : Int32)) hx hb hr (fun t ht hW => ⟨⟨(0 : Int32), (), rfl, e9.symm, (by show va_P _ _ _ t.heap; rw [ht]; exact hP)⟩, hS.F ht⟩) hS.2.2 dX1_width_60
          · refine lv_iconst (v := 4) hx hb dX1_width_55 (by decide) ?_
            refine lv_goto (tgt := 60) hx hb dX1_width_56 (by decide) ?_
            have e9 : S1_width la u = (4 : Int32) := by rw [S1_width, if_neg c1, if_pos c2, if_neg c3, if_pos c4, if_pos c5]
            exact W.iret (v := (4 : Int32)) hx hb hr (fun t ht hW => ⟨⟨(4 : Int32), (), rfl, e9.symm, (by show va_P _ _ _ t.heap; rw [ht]; exact hP)⟩, hS.F ht⟩) hS.2.2 dX1_width_60
        · refine lv_aload_n hx hb dX1_width_35 rfl (lv_at hl 0 rfl) ?_
          refine va_get (D := D) (ci := 1) (v := .int (M_t u)) (C := RX1) (T := TX1) (N := 12) hx hb hts iwX1_width hown hK hP 0 rfl rfl 7 (by decide) (hts (.fieldLink RX1 56 "WordMachineModel" "t" "I") flX1_width_56) (fun _ h9 => h9) rfl dX1_width_36 ?_
          refine lv_iconst (v := 5) hx hb dX1_width_39 (by decide) ?_
          refine lv_icmp_ne (tgt := 47) hx hb dX1_width_40 (by decide) (fun (c6 : ¬ (M_t u) = 5) => ?_) (fun (c6 : (M_t u) = 5) => ?_)
          · refine lv_aload_n hx hb dX1_width_47 rfl (lv_at hl 0 rfl) ?_
            refine va_get (D := D) (ci := 1) (v := .int (M_t u)) (C := RX1) (T := TX1) (N := 12) hx hb hts iwX1_width hown hK hP 0 rfl rfl 7 (by decide) (hts (.fieldLink RX1 56 "WordMachineModel" "t" "I") flX1_width_56) (fun _ h9 => h9) rfl dX1_width_48 ?_
            refine lv_iconst (v := 2) hx hb dX1_width_51 (by decide) ?_
            refine lv_icmp_ne (tgt := 59) hx hb dX1_width_52 (by decide) (fun (c7 : ¬ (M_t u) = 2) => ?_) (fun (c7 : (M_t u) = 2) => ?_)
            · refine lv_iconst (v := 0) hx hb dX1_width_59 (by decide) ?_
              have e9 : S1_width la u = (0 : Int32) := by rw [S1_width, if_neg c1, if_pos c2, if_neg c3, if_neg c4, if_neg c6, if_neg c7]
              exact W.iret (v := (0 : Int32)) hx hb hr (fun t ht hW => ⟨⟨(0 : Int32), (), rfl, e9.symm, (by show va_P _ _ _ t.heap; rw [ht]; exact hP)⟩, hS.F ht⟩) hS.2.2 dX1_width_60
            · refine lv_iconst (v := 4) hx hb dX1_width_55 (by decide) ?_
              refine lv_goto (tgt := 60) hx hb dX1_width_56 (by decide) ?_
              have e9 : S1_width la u = (4 : Int32) := by rw [S1_width, if_neg c1, if_pos c2, if_neg c3, if_neg c4, if_neg c6, if_pos c7]
              exact W.iret (v := (4 : Int32)) hx hb hr (fun t ht hW => ⟨⟨(4 : Int32), (), rfl, e9.symm, (by show va_P _ _ _ t.heap; rw [ht]; exact hP)⟩, hS.F ht⟩) hS.2.2 dX1_width_60
          · refine lv_iconst (v := 2) hx hb dX1_width_43 (by decide) ?_
            refine lv_goto (tgt := 60) hx hb dX1_width_44 (by decide) ?_
            have e9 : S1_width la u = (2 : Int32) := by rw [S1_width, if_neg c1, if_pos c2, if_neg c3, if_neg c4, if_pos c6]
            exact W.iret (v := (2 : Int32)) hx hb hr (fun t ht hW => ⟨⟨(2 : Int32), (), rfl, e9.symm, (by show va_P _ _ _ t.heap; rw [ht]; exact hP)⟩, hS.F ht⟩) hS.2.2 dX1_width_60
    · refine lv_aload_n hx hb dX1_width_11 rfl (lv_at hl 0 rfl) ?_
      refine va_get (D := D) (ci := 1) (v := .int (M_t u)) (C := RX1) (T := TX1) (N := 12) hx hb hts iwX1_width hown hK hP 0 rfl rfl 7 (by decide) (hts (.fieldLink RX1 56 "WordMachineModel" "t" "I") flX1_width_56) (fun _ h9 => h9) rfl dX1_width_12 ?_
      refine lv_iconst (v := 4) hx hb dX1_width_15 (by decide) ?_
      refine lv_icmp_ne (tgt := 23) hx hb dX1_width_16 (by decide) (fun (c8 : ¬ (M_t u) = 4) => ?_) (fun (c8 : (M_t u) = 4) => ?_)
      · refine lv_aload_n hx hb dX1_width_23 rfl (lv_at hl 0 rfl) ?_
        refine va_get (D := D) (ci := 1) (v := .int (M_t u)) (C := RX1) (T := TX1) (N := 12) hx hb hts iwX1_width hown hK hP 0 rfl rfl 7 (by decide) (hts (.fieldLink RX1 56 "WordMachineModel" "t" "I") flX1_width_56) (fun _ h9 => h9) rfl dX1_width_24 ?_
        refine lv_iconst (v := 1) hx hb dX1_width_27 (by decide) ?_
        refine lv_icmp_eq (tgt := 43) hx hb dX1_width_28 (by decide) (fun (c9 : (M_t u) = 1) => ?_) (fun (c9 : ¬ (M_t u) = 1) => ?_)
        · refine lv_iconst (v := 2) hx hb dX1_width_43 (by decide) ?_
          refine lv_goto (tgt := 60) hx hb dX1_width_44 (by decide) ?_
          have e9 : S1_width la u = (2 : Int32) := by rw [S1_width, if_neg c1, if_neg c2, if_neg c8, if_pos c9]
          exact W.iret (v := (2 : Int32)) hx hb hr (fun t ht hW => ⟨⟨(2 : Int32), (), rfl, e9.symm, (by show va_P _ _ _ t.heap; rw [ht]; exact hP)⟩, hS.F ht⟩) hS.2.2 dX1_width_60
        · refine lv_iload_n hx hb dX1_width_31 rfl (lv_at hl 1 rfl) ?_
          refine lv_if_eq (tgt := 47) hx hb dX1_width_32 (by decide) (fun (c10 : la = 0) => ?_) (fun (c10 : ¬ la = 0) => ?_)
          · refine lv_aload_n hx hb dX1_width_47 rfl (lv_at hl 0 rfl) ?_
            refine va_get (D := D) (ci := 1) (v := .int (M_t u)) (C := RX1) (T := TX1) (N := 12) hx hb hts iwX1_width hown hK hP 0 rfl rfl 7 (by decide) (hts (.fieldLink RX1 56 "WordMachineModel" "t" "I") flX1_width_56) (fun _ h9 => h9) rfl dX1_width_48 ?_
            refine lv_iconst (v := 2) hx hb dX1_width_51 (by decide) ?_
            refine lv_icmp_ne (tgt := 59) hx hb dX1_width_52 (by decide) (fun (c11 : ¬ (M_t u) = 2) => ?_) (fun (c11 : (M_t u) = 2) => ?_)
            · refine lv_iconst (v := 0) hx hb dX1_width_59 (by decide) ?_
              have e9 : S1_width la u = (0 : Int32) := by rw [S1_width, if_neg c1, if_neg c2, if_neg c8, if_neg c9, if_pos c10, if_neg c11]
              exact W.iret (v := (0 : Int32)) hx hb hr (fun t ht hW => ⟨⟨(0 : Int32), (), rfl, e9.symm, (by show va_P _ _ _ t.heap; rw [ht]; exact hP)⟩, hS.F ht⟩) hS.2.2 dX1_width_60
            · refine lv_iconst (v := 4) hx hb dX1_width_55 (by decide) ?_
              refine lv_goto (tgt := 60) hx hb dX1_width_56 (by decide) ?_
              have e9 : S1_width la u = (4 : Int32) := by rw [S1_width, if_neg c1, if_neg c2, if_neg c8, if_neg c9, if_pos c10, if_pos c11]
              exact W.iret (v := (4 : Int32)) hx hb hr (fun t ht hW => ⟨⟨(4 : Int32), (), rfl, e9.symm, (by show va_P _ _ _ t.heap; rw [ht]; exact hP)⟩, hS.F ht⟩) hS.2.2 dX1_width_60
          · refine lv_aload_n hx hb dX1_width_35 rfl (lv_at hl 0 rfl) ?_
            refine va_get (D := D) (ci := 1) (v := .int (M_t u)) (C := RX1) (T := TX1) (N := 12) hx hb hts iwX1_width hown hK hP 0 rfl rfl 7 (by decide) (hts (.fieldLink RX1 56 "WordMachineModel" "t" "I") flX1_width_56) (fun _ h9 => h9) rfl dX1_width_36 ?_
            refine lv_iconst (v := 5) hx hb dX1_width_39 (by decide) ?_
            refine lv_icmp_ne (tgt := 47) hx hb dX1_width_40 (by decide) (fun (c12 : ¬ (M_t u) = 5) => ?_) (fun (c12 : (M_t u) = 5) => ?_)
            · refine lv_aload_n hx hb dX1_width_47 rfl (lv_at hl 0 rfl) ?_
              refine va_get (D := D) (ci := 1) (v := .int (M_t u)) (C := RX1) (T := TX1) (N := 12) hx hb hts iwX1_width hown hK hP 0 rfl rfl 7 (by decide) (hts (.fieldLink RX1 56 "WordMachineModel" "t" "I") flX1_width_56) (fun _ h9 => h9) rfl dX1_width_48 ?_
              refine lv_iconst (v := 2) hx hb dX1_width_51 (by decide) ?_
              refine lv_icmp_ne (tgt := 59) hx hb dX1_width_52 (by decide) (fun (c13 : ¬ (M_t u) = 2) => ?_) (fun (c13 : (M_t u) = 2) => ?_)
              · refine lv_iconst (v := 0) hx hb dX1_width_59 (by decide) ?_
                have e9 : S1_width la u = (0 : Int32) := by rw [S1_width, if_neg c1, if_neg c2, if_neg c8, if_neg c9, if_neg c10, if_neg c12, if_neg c13]
                exact W.iret (v := (0 : Int32)) hx hb hr (fun t ht hW => ⟨⟨(0 : Int32), (), rfl, e9.symm, (by show va_P _ _ _ t.heap; rw [ht]; exact hP)⟩, hS.F ht⟩) hS.2.2 dX1_width_60
              · refine lv_iconst (v := 4) hx hb dX1_width_55 (by decide) ?_
                refine lv_goto (tgt := 60) hx hb dX1_width_56 (by decide) ?_
                have e9 : S1_width la u = (4 : Int32) := by rw [S1_width, if_neg c1, if_neg c2, if_neg c8, if_neg c9, if_neg c10, if_neg c12, if_pos c13]
                exact W.iret (v := (4 : Int32)) hx hb hr (fun t ht hW => ⟨⟨(4 : Int32), (), rfl, e9.symm, (by show va_P _ _ _ t.heap; rw [ht]; exact hP)⟩, hS.F ht⟩) hS.2.2 dX1_width_60
            · refine lv_iconst (v := 2) hx hb dX1_width_43 (by decide) ?_
              refine lv_goto (tgt := 60) hx hb dX1_width_44 (by decide) ?_
              have e9 : S1_width la u = (2 : Int32) := by rw [S1_width, if_neg c1, if_neg c2, if_neg c8, if_neg c9, if_neg c10, if_pos c12]
              exact W.iret (v := (2 : Int32)) hx hb hr (fun t ht hW => ⟨⟨(2 : Int32), (), rfl, e9.symm, (by show va_P _ _ _ t.heap; rw [ht]; exact hP)⟩, hS.F ht⟩) hS.2.2 dX1_width_60
      · refine lv_iconst (v := 1) hx hb dX1_width_19 (by decide) ?_
        refine lv_goto (tgt := 60) hx hb dX1_width_20 (by decide) ?_
        have e9 : S1_width la u = (1 : Int32) := by rw [S1_width, if_neg c1, if_neg c2, if_pos c8]
        exact W.iret (v := (1 : Int32)) hx hb hr (fun t ht hW => ⟨⟨(1 : Int32), (), rfl, e9.symm, (by show va_P _ _ _ t.heap; rw [ht]; exact hP)⟩, hS.F ht⟩) hS.2.2 dX1_width_60
theorem ctX1_isThere_96 : Cond.constantLong RX1 96 (4096) ∈ wsX1_isThere := by decide +kernel
theorem hdX1_isThere : yX1_isThere.cls = RX1 ∧ yX1_isThere.cls ≠ "java/lang/invoke/MethodHandle" ∧ yX1_isThere.cls ≠ "java/lang/invoke/VarHandle" ∧ (parseMethodDescriptor yX1_isThere.desc).map (fun d => d.parameters.length) = some 2 := by decide +kernel
set_option maxHeartbeats 4000000 in
set_option maxRecDepth 100000 in
theorem c1_isThere (l : Launch) {D : va_G} {cI cJ cB : ClassId} {h q1 q2 q3 : Nat} (hap : ap4 h q1 q2 q3) (aa : Int64) (na : Int32) (u : MS) (hn : ¬ na.toInt64 = 0) : Ini l yX1_isThere wsX1_isThere 0 0 D (ty1 cI cJ cB) (wa0 h q1 q2 q3) [.ref h, .long aa, .int na] (ww1 cI cJ cB h q1 q2 q3 u) (ww1 cI cJ cB h q1 q2 q3 u) (S1_isThere aa na u) := by
  refine Met.ofW (cc := cX1_isThere) (maxL := 4) (ret := (some .boolean)) (by decide) rfl ?_
  intro p e s m args below meth c s₁ B hml hv
  obtain ⟨rfl, hP, hK⟩ := hv
  have hx := B.exec
  have hb := B.bytes
  have hr := B.returns
  have hts := atoms_spec (ws := wsX1_isThere) B.pre
  have hown : s.vm.findClass RX1 = some m.cls := findClass_of_methodNamed B.named
  have hlocks := B.notSynchronized
  have hS : va_S (wa0 h q1 q2 q3) s.heap s.heap [] := va_S.rf
  have hl := lv_entry ([.ref h, .long aa, .int na]) (n := 4) (Nat.le_of_ble_eq_true rfl)
  rw [lg_entry_eq]
  generalize (lg_sl ([.ref h, .long aa, .int na]) ++ List.replicate (4 - (lg_sl ([.ref h, .long aa, .int na])).length) Slot.unset).toArray = ls at hl ⊢
  have hl : lv_has ls 4 [(0, .ref h), (1, .long aa), (3, .int na)] := hl
  refine lv_lload_n hx hb dX1_isThere_0 rfl (lv_at hl 1 rfl) ?_
  refine lv_iload_n hx hb dX1_isThere_1 rfl (lv_at hl 2 rfl) ?_
  refine lv_i2l (v := na.toInt64) hx hb dX1_isThere_2 rfl ?_
  refine lv_lrem hx hb dX1_isThere_3 hn ?_
  refine lv_lconst (v := 0) hx hb dX1_isThere_4 (by decide) ?_
  refine W.lcmp hx hb dX1_isThere_5 ?_
  refine lv_if_ne (tgt := 24) hx hb dX1_isThere_6 (by decide) (fun (c1 : ¬ (lg_cmp (aa - aa / na.toInt64 * na.toInt64) 0) = 0) => ?_) (fun (c1 : (lg_cmp (aa - aa / na.toInt64 * na.toInt64) 0) = 0) => ?_)
  · refine lv_iconst (v := 0) hx hb dX1_isThere_24 (by decide) ?_
    have e9 : S1_isThere aa na u = (0 : Int32) := by rw [S1_isThere, if_neg c1]
    exact W.zret (v := (0 : Int32)) hx hb hr rfl (fun t ht hW => ⟨⟨(0 : Int32), (), rfl, e9.symm, (by show va_P _ _ _ t.heap; rw [ht]; exact hP)⟩, hS.F ht⟩) hS.2.2 dX1_isThere_25
  · refine lv_lload_n hx hb dX1_isThere_9 rfl (lv_at hl 1 rfl) ?_
    refine lv_iload_n hx hb dX1_isThere_10 rfl (lv_at hl 2 rfl) ?_
    refine lv_i2l (v := na.toInt64) hx hb dX1_isThere_11 rfl ?_
    refine lv_ladd hx hb dX1_isThere_12 ?_
    refine lv_ldc2 hx hb hown (hts (.constantLong RX1 96 (4096)) ctX1_isThere_96) dX1_isThere_13 ?_
    refine W.lcmp hx hb dX1_isThere_16 ?_
    refine lv_if_gt (tgt := 24) hx hb dX1_isThere_17 (by decide) (fun (c2 : 0 < (lg_cmp (aa + na.toInt64) 4096)) => ?_) (fun (c2 : ¬ 0 < (lg_cmp (aa + na.toInt64) 4096)) => ?_)
    · refine lv_iconst (v := 0) hx hb dX1_isThere_24 (by decide) ?_
      have e9 : S1_isThere aa na u = (0 : Int32) := by rw [S1_isThere, if_pos c1, if_pos c2]
      exact W.zret (v := (0 : Int32)) hx hb hr rfl (fun t ht hW => ⟨⟨(0 : Int32), (), rfl, e9.symm, (by show va_P _ _ _ t.heap; rw [ht]; exact hP)⟩, hS.F ht⟩) hS.2.2 dX1_isThere_25
    · refine lv_iconst (v := 1) hx hb dX1_isThere_20 (by decide) ?_
      refine lv_goto (tgt := 25) hx hb dX1_isThere_21 (by decide) ?_
      have e9 : S1_isThere aa na u = (1 : Int32) := by rw [S1_isThere, if_pos c1, if_neg c2]
      exact W.zret (v := (1 : Int32)) hx hb hr rfl (fun t ht hW => ⟨⟨(1 : Int32), (), rfl, e9.symm, (by show va_P _ _ _ t.heap; rw [ht]; exact hP)⟩, hS.F ht⟩) hS.2.2 dX1_isThere_25
theorem iwX1_upper : ∀ w ∈ wsX10, w ∈ wsX1_upper := by decide +kernel
theorem flX1_upper_59 : Cond.fieldLink RX1 59 "WordMachineModel" "x" "J" ∈ wsX1_upper := by decide +kernel
theorem flX1_upper_63 : Cond.fieldLink RX1 63 "WordMachineModel" "y" "J" ∈ wsX1_upper := by decide +kernel
theorem ctX1_upper_132 : Cond.constantLong RX1 132 (65536) ∈ wsX1_upper := by decide +kernel
theorem hdX1_upper : yX1_upper.cls = RX1 ∧ yX1_upper.cls ≠ "java/lang/invoke/MethodHandle" ∧ yX1_upper.cls ≠ "java/lang/invoke/VarHandle" ∧ (parseMethodDescriptor yX1_upper.desc).map (fun d => d.parameters.length) = some 0 := by decide +kernel
set_option maxHeartbeats 4000000 in
set_option maxRecDepth 100000 in
theorem c1_upper (l : Launch) {D : va_G} {cI cJ cB : ClassId} {h q1 q2 q3 : Nat} (hap : ap4 h q1 q2 q3)  (u : MS)  : Inl l yX1_upper wsX1_upper 0 0 D (ty1 cI cJ cB) (wa0 h q1 q2 q3) [.ref h] (ww1 cI cJ cB h q1 q2 q3 u) (ww1 cI cJ cB h q1 q2 q3 u) (S1_upper u) := by
  refine Met.ofW (cc := cX1_upper) (maxL := 13) (ret := (some .long)) (by decide) rfl ?_
  intro p e s m args below meth c s₁ B hml hv
  obtain ⟨rfl, hP, hK⟩ := hv
  have hx := B.exec
  have hb := B.bytes
  have hr := B.returns
  have hts := atoms_spec (ws := wsX1_upper) B.pre
  have hown : s.vm.findClass RX1 = some m.cls := findClass_of_methodNamed B.named
  have hlocks := B.notSynchronized
  have hS : va_S (wa0 h q1 q2 q3) s.heap s.heap [] := va_S.rf
  have hl := lv_entry ([.ref h]) (n := 13) (Nat.le_of_ble_eq_true rfl)
  rw [lg_entry_eq]
  generalize (lg_sl ([.ref h]) ++ List.replicate (13 - (lg_sl ([.ref h])).length) Slot.unset).toArray = ls at hl ⊢
  have hl : lv_has ls 13 [(0, .ref h)] := hl
  refine lv_aload_n hx hb dX1_upper_0 rfl (lv_at hl 0 rfl) ?_
  refine va_get (D := D) (ci := 1) (v := .long (M_x u)) (C := RX1) (T := TX1) (N := 12) hx hb hts iwX1_upper hown hK hP 0 rfl rfl 10 (by decide) (hts (.fieldLink RX1 59 "WordMachineModel" "x" "J") flX1_upper_59) (fun _ h9 => h9) rfl dX1_upper_1 ?_
  refine lv_ldc2 hx hb hown (hts (.constantLong RX1 132 (65536)) ctX1_upper_132) dX1_upper_4 ?_
  refine lv_ldiv hx hb dX1_upper_7 (by decide) ?_
  refine lv_lstore_n (lv' := [(1, .long ((M_x u) / 65536)), (0, .ref h)]) hx hb dX1_upper_8 rfl hl (by decide) rfl (fun ls hl => ?_)
  refine lv_aload_n hx hb dX1_upper_9 rfl (lv_at hl 1 rfl) ?_
  refine va_get (D := D) (ci := 1) (v := .long (M_x u)) (C := RX1) (T := TX1) (N := 12) hx hb hts iwX1_upper hown hK hP 0 rfl rfl 10 (by decide) (hts (.fieldLink RX1 59 "WordMachineModel" "x" "J") flX1_upper_59) (fun _ h9 => h9) rfl dX1_upper_10 ?_
  refine lv_ldc2 hx hb hown (hts (.constantLong RX1 132 (65536)) ctX1_upper_132) dX1_upper_13 ?_
  refine lv_lrem hx hb dX1_upper_16 (by decide) ?_
  refine lv_lstore_n (lv' := [(3, .long ((M_x u) - (M_x u) / 65536 * 65536)), (1, .long ((M_x u) / 65536)), (0, .ref h)]) hx hb dX1_upper_17 rfl hl (by decide) rfl (fun ls hl => ?_)
  refine lv_aload_n hx hb dX1_upper_18 rfl (lv_at hl 2 rfl) ?_
  refine va_get (D := D) (ci := 1) (v := .long (M_y u)) (C := RX1) (T := TX1) (N := 12) hx hb hts iwX1_upper hown hK hP 0 rfl rfl 11 (by decide) (hts (.fieldLink RX1 63 "WordMachineModel" "y" "J") flX1_upper_63) (fun _ h9 => h9) rfl dX1_upper_19 ?_
  refine lv_ldc2 hx hb hown (hts (.constantLong RX1 132 (65536)) ctX1_upper_132) dX1_upper_22 ?_
  refine lv_ldiv hx hb dX1_upper_25 (by decide) ?_
  refine lv_lstore (lv' := [(5, .long ((M_y u) / 65536)), (3, .long ((M_x u) - (M_x u) / 65536 * 65536)), (1, .long ((M_x u) / 65536)), (0, .ref h)]) hx hb dX1_upper_26 hl (by decide) rfl (fun ls hl => ?_)
  refine lv_aload_n hx hb dX1_upper_28 rfl (lv_at hl 3 rfl) ?_
  refine va_get (D := D) (ci := 1) (v := .long (M_y u)) (C := RX1) (T := TX1) (N := 12) hx hb hts iwX1_upper hown hK hP 0 rfl rfl 11 (by decide) (hts (.fieldLink RX1 63 "WordMachineModel" "y" "J") flX1_upper_63) (fun _ h9 => h9) rfl dX1_upper_29 ?_
  refine lv_ldc2 hx hb hown (hts (.constantLong RX1 132 (65536)) ctX1_upper_132) dX1_upper_32 ?_
  refine lv_lrem hx hb dX1_upper_35 (by decide) ?_
  refine lv_lstore (lv' := [(7, .long ((M_y u) - (M_y u) / 65536 * 65536)), (5, .long ((M_y u) / 65536)), (3, .long ((M_x u) - (M_x u) / 65536 * 65536)), (1, .long ((M_x u) / 65536)), (0, .ref h)]) hx hb dX1_upper_36 hl (by decide) rfl (fun ls hl => ?_)
  refine lv_lload_n hx hb dX1_upper_38 rfl (lv_at hl 3 rfl) ?_
  refine lv_lload hx hb dX1_upper_39 (lv_at hl 0 rfl) ?_
  refine lv_lmul hx hb dX1_upper_41 ?_
  refine lv_lload_n hx hb dX1_upper_42 rfl (lv_at hl 2 rfl) ?_
  refine lv_lload hx hb dX1_upper_43 (lv_at hl 0 rfl) ?_
  refine lv_lmul hx hb dX1_upper_45 ?_
  refine lv_ldc2 hx hb hown (hts (.constantLong RX1 132 (65536)) ctX1_upper_132) dX1_upper_46 ?_
  refine lv_ldiv hx hb dX1_upper_49 (by decide) ?_
  refine lv_ladd hx hb dX1_upper_50 ?_
  refine lv_lstore (lv' := [(9, .long ((((M_x u) / 65536) * ((M_y u) - (M_y u) / 65536 * 65536)) + ((((M_x u) - (M_x u) / 65536 * 65536) * ((M_y u) - (M_y u) / 65536 * 65536)) / 65536))), (7, .long ((M_y u) - (M_y u) / 65536 * 65536)), (5, .long ((M_y u) / 65536)), (3, .long ((M_x u) - (M_x u) / 65536 * 65536)), (1, .long ((M_x u) / 65536)), (0, .ref h)]) hx hb dX1_upper_51 hl (by decide) rfl (fun ls hl => ?_)
  refine lv_lload_n hx hb dX1_upper_53 rfl (lv_at hl 3 rfl) ?_
  refine lv_lload hx hb dX1_upper_54 (lv_at hl 2 rfl) ?_
  refine lv_lmul hx hb dX1_upper_56 ?_
  refine lv_lload hx hb dX1_upper_57 (lv_at hl 0 rfl) ?_
  refine lv_ldc2 hx hb hown (hts (.constantLong RX1 132 (65536)) ctX1_upper_132) dX1_upper_59 ?_
  refine lv_lrem hx hb dX1_upper_62 (by decide) ?_
  refine lv_ladd hx hb dX1_upper_63 ?_
  refine lv_lstore (lv' := [(11, .long ((((M_x u) - (M_x u) / 65536 * 65536) * ((M_y u) / 65536)) + (((((M_x u) / 65536) * ((M_y u) - (M_y u) / 65536 * 65536)) + ((((M_x u) - (M_x u) / 65536 * 65536) * ((M_y u) - (M_y u) / 65536 * 65536)) / 65536)) - ((((M_x u) / 65536) * ((M_y u) - (M_y u) / 65536 * 65536)) + ((((M_x u) - (M_x u) / 65536 * 65536) * ((M_y u) - (M_y u) / 65536 * 65536)) / 65536)) / 65536 * 65536))), (9, .long ((((M_x u) / 65536) * ((M_y u) - (M_y u) / 65536 * 65536)) + ((((M_x u) - (M_x u) / 65536 * 65536) * ((M_y u) - (M_y u) / 65536 * 65536)) / 65536))), (7, .long ((M_y u) - (M_y u) / 65536 * 65536)), (5, .long ((M_y u) / 65536)), (3, .long ((M_x u) - (M_x u) / 65536 * 65536)), (1, .long ((M_x u) / 65536)), (0, .ref h)]) hx hb dX1_upper_64 hl (by decide) rfl (fun ls hl => ?_)
  refine lv_lload_n hx hb dX1_upper_66 rfl (lv_at hl 5 rfl) ?_
  refine lv_lload hx hb dX1_upper_67 (lv_at hl 3 rfl) ?_
  refine lv_lmul hx hb dX1_upper_69 ?_
  refine lv_lload hx hb dX1_upper_70 (lv_at hl 1 rfl) ?_
  refine lv_ldc2 hx hb hown (hts (.constantLong RX1 132 (65536)) ctX1_upper_132) dX1_upper_72 ?_
  refine lv_ldiv hx hb dX1_upper_75 (by decide) ?_
  refine lv_ladd hx hb dX1_upper_76 ?_
  refine lv_lload hx hb dX1_upper_77 (lv_at hl 0 rfl) ?_
  refine lv_ldc2 hx hb hown (hts (.constantLong RX1 132 (65536)) ctX1_upper_132) dX1_upper_79 ?_
  refine lv_ldiv hx hb dX1_upper_82 (by decide) ?_
  refine lv_ladd hx hb dX1_upper_83 ?_
  have e9 : S1_upper u = ((((M_x u) / 65536) * ((M_y u) / 65536)) + (((((M_x u) / 65536) * ((M_y u) - (M_y u) / 65536 * 65536)) + ((((M_x u) - (M_x u) / 65536 * 65536) * ((M_y u) - (M_y u) / 65536 * 65536)) / 65536)) / 65536)) + (((((M_x u) - (M_x u) / 65536 * 65536) * ((M_y u) / 65536)) + (((((M_x u) / 65536) * ((M_y u) - (M_y u) / 65536 * 65536)) + ((((M_x u) - (M_x u) / 65536 * 65536) * ((M_y u) - (M_y u) / 65536 * 65536)) / 65536)) - ((((M_x u) / 65536) * ((M_y u) - (M_y u) / 65536 * 65536)) + ((((M_x u) - (M_x u) / 65536 * 65536) * ((M_y u) - (M_y u) / 65536 * 65536)) / 65536)) / 65536 * 65536)) / 65536) := by rw [S1_upper]
  exact W.lret (v := ((((M_x u) / 65536) * ((M_y u) / 65536)) + (((((M_x u) / 65536) * ((M_y u) - (M_y u) / 65536 * 65536)) + ((((M_x u) - (M_x u) / 65536 * 65536) * ((M_y u) - (M_y u) / 65536 * 65536)) / 65536)) / 65536)) + (((((M_x u) - (M_x u) / 65536 * 65536) * ((M_y u) / 65536)) + (((((M_x u) / 65536) * ((M_y u) - (M_y u) / 65536 * 65536)) + ((((M_x u) - (M_x u) / 65536 * 65536) * ((M_y u) - (M_y u) / 65536 * 65536)) / 65536)) - ((((M_x u) / 65536) * ((M_y u) - (M_y u) / 65536 * 65536)) + ((((M_x u) - (M_x u) / 65536 * 65536) * ((M_y u) - (M_y u) / 65536 * 65536)) / 65536)) / 65536 * 65536)) / 65536)) hx hb hr (fun t ht hW => ⟨⟨((((M_x u) / 65536) * ((M_y u) / 65536)) + (((((M_x u) / 65536) * ((M_y u) - (M_y u) / 65536 * 65536)) + ((((M_x u) - (M_x u) / 65536 * 65536) * ((M_y u) - (M_y u) / 65536 * 65536)) / 65536)) / 65536)) + (((((M_x u) - (M_x u) / 65536 * 65536) * ((M_y u) / 65536)) + (((((M_x u) / 65536) * ((M_y u) - (M_y u) / 65536 * 65536)) + ((((M_x u) - (M_x u) / 65536 * 65536) * ((M_y u) - (M_y u) / 65536 * 65536)) / 65536)) - ((((M_x u) / 65536) * ((M_y u) - (M_y u) / 65536 * 65536)) + ((((M_x u) - (M_x u) / 65536 * 65536) * ((M_y u) - (M_y u) / 65536 * 65536)) / 65536)) / 65536 * 65536)) / 65536), (), rfl, e9.symm, (by show va_P _ _ _ t.heap; rw [ht]; exact hP)⟩, hS.F ht⟩) hS.2.2 dX1_upper_84
theorem iwX1_product : ∀ w ∈ wsX10, w ∈ wsX1_product := by decide +kernel
theorem flX1_product_56 : Cond.fieldLink RX1 56 "WordMachineModel" "t" "I" ∈ wsX1_product := by decide +kernel
theorem flX1_product_59 : Cond.fieldLink RX1 59 "WordMachineModel" "x" "J" ∈ wsX1_product := by decide +kernel
theorem flX1_product_63 : Cond.fieldLink RX1 63 "WordMachineModel" "y" "J" ∈ wsX1_product := by decide +kernel
theorem ctX1_product_29 : Cond.constantLong RX1 29 (4294967296) ∈ wsX1_product := by decide +kernel
theorem ctX1_product_130 : Cond.constantLong RX1 130 (-1) ∈ wsX1_product := by decide +kernel
theorem hdX1_product : yX1_product.cls = RX1 ∧ yX1_product.cls ≠ "java/lang/invoke/MethodHandle" ∧ yX1_product.cls ≠ "java/lang/invoke/VarHandle" ∧ (parseMethodDescriptor yX1_product.desc).map (fun d => d.parameters.length) = some 0 := by decide +kernel
set_option maxHeartbeats 4000000 in
set_option maxRecDepth 100000 in
theorem c1_product (l : Launch) {D : va_G} {cI cJ cB : ClassId} {h q1 q2 q3 : Nat} (hap : ap4 h q1 q2 q3)  (u : MS) (hy : ¬ M_y u = 0 → ¬ S1_signed (M_y u) = 0) : Inl l yX1_product wsX1_product 1 32 D (ty1 cI cJ cB) (wa0 h q1 q2 q3) [.ref h] (ww1 cI cJ cB h q1 q2 q3 u) (ww1 cI cJ cB h q1 q2 q3 u) (S1_product u) := by
  refine Met.ofW (cc := cX1_product) (maxL := 5) (ret := (some .long)) (by decide) rfl ?_
  intro p e s m args below meth c s₁ B hml hv
  obtain ⟨rfl, hP, hK⟩ := hv
  have hx := B.exec
  have hb := B.bytes
  have hr := B.returns
  have hts := atoms_spec (ws := wsX1_product) B.pre
  have hown : s.vm.findClass RX1 = some m.cls := findClass_of_methodNamed B.named
  have hlocks := B.notSynchronized
  have hS : va_S (wa0 h q1 q2 q3) s.heap s.heap [] := va_S.rf
  have hl := lv_entry ([.ref h]) (n := 5) (Nat.le_of_ble_eq_true rfl)
  rw [lg_entry_eq]
  generalize (lg_sl ([.ref h]) ++ List.replicate (5 - (lg_sl ([.ref h])).length) Slot.unset).toArray = ls at hl ⊢
  have hl : lv_has ls 5 [(0, .ref h)] := hl
  refine lv_aload_n hx hb dX1_product_0 rfl (lv_at hl 0 rfl) ?_
  refine va_get (D := D) (ci := 1) (v := .long (M_x u)) (C := RX1) (T := TX1) (N := 12) hx hb hts iwX1_product hown hK hP 0 rfl rfl 10 (by decide) (hts (.fieldLink RX1 59 "WordMachineModel" "x" "J") flX1_product_59) (fun _ h9 => h9) rfl dX1_product_1 ?_
  refine pu_l (v := S1_signed (M_x u)) (As := [.long (M_x u)]) (rest := []) ⟨hx, hb, hml, hown, hts⟩ (c1_signed l (M_x u) ) gX1_product_X1_signed rfl hdX1_signed ⟨Nat.le_of_ble_eq_true rfl, Nat.le_of_ble_eq_true rfl⟩ hl.1 rfl (Nat.le_of_ble_eq_true rfl) dX1_product_4 ⟨Nat.zero_le _, Nat.zero_le _⟩ hP hS (fun H locs hP hS => ?_)
  refine lv_lstore_n (lv' := [(1, .long (S1_signed (M_x u))), (0, .ref h)]) hx hb dX1_product_7 rfl hl (by decide) rfl (fun ls hl => ?_)
  refine lv_aload_n hx hb dX1_product_8 rfl (lv_at hl 1 rfl) ?_
  refine va_get (D := D) (ci := 1) (v := .long (M_y u)) (C := RX1) (T := TX1) (N := 12) hx hb hts iwX1_product hown hK hP 0 rfl rfl 11 (by decide) (hts (.fieldLink RX1 63 "WordMachineModel" "y" "J") flX1_product_63) (fun _ h9 => h9) rfl dX1_product_9 ?_
  refine pu_l (v := S1_signed (M_y u)) (As := [.long (M_y u)]) (rest := []) ⟨hx, hb, hml, hown, hts⟩ (c1_signed l (M_y u) ) gX1_product_X1_signed rfl hdX1_signed ⟨Nat.le_of_ble_eq_true rfl, Nat.le_of_ble_eq_true rfl⟩ hl.1 rfl (Nat.le_of_ble_eq_true rfl) dX1_product_12 ⟨Nat.zero_le _, Nat.zero_le _⟩ hP hS (fun H locs hP hS => ?_)
  refine lv_lstore_n (lv' := [(3, .long (S1_signed (M_y u))), (1, .long (S1_signed (M_x u))), (0, .ref h)]) hx hb dX1_product_15 rfl hl (by decide) rfl (fun ls hl => ?_)
  refine lv_aload_n hx hb dX1_product_16 rfl (lv_at hl 2 rfl) ?_
  refine va_get (D := D) (ci := 1) (v := .int (M_t u)) (C := RX1) (T := TX1) (N := 12) hx hb hts iwX1_product hown hK hP 0 rfl rfl 7 (by decide) (hts (.fieldLink RX1 56 "WordMachineModel" "t" "I") flX1_product_56) (fun _ h9 => h9) rfl dX1_product_17 ?_
  by_cases c1 : (M_t u) = 0
  · refine lv_tableIn (tgt := 64) hx hb dX1_product_20 (by rw [c1]; decide) (by rw [c1]; decide) (by rw [c1]; rfl) (by decide) ?_
    refine lv_lload_n hx hb dX1_product_64 rfl (lv_at hl 1 rfl) ?_
    refine lv_lload_n hx hb dX1_product_65 rfl (lv_at hl 0 rfl) ?_
    refine lv_lmul hx hb dX1_product_66 ?_
    have e9 : S1_product u = (S1_signed (M_x u)) * (S1_signed (M_y u)) := by rw [S1_product, if_pos c1]
    exact W.lret (v := (S1_signed (M_x u)) * (S1_signed (M_y u))) hx hb hr (fun t ht hW => ⟨⟨(S1_signed (M_x u)) * (S1_signed (M_y u)), (), rfl, e9.symm, (by show va_P _ _ _ t.heap; rw [ht]; exact hP)⟩, hS.F ht⟩) hS.2.2 dX1_product_67
  · skip
    by_cases c2 : (M_t u) = 1
    · refine lv_tableIn (tgt := 68) hx hb dX1_product_20 (by rw [c2]; decide) (by rw [c2]; decide) (by rw [c2]; rfl) (by decide) ?_
      refine lv_lload_n hx hb dX1_product_68 rfl (lv_at hl 1 rfl) ?_
      refine lv_lload_n hx hb dX1_product_69 rfl (lv_at hl 0 rfl) ?_
      refine lv_lmul hx hb dX1_product_70 ?_
      refine lv_ldc2 hx hb hown (hts (.constantLong RX1 29 (4294967296)) ctX1_product_29) dX1_product_71 ?_
      refine pu_l (v := S1_down ((S1_signed (M_x u)) * (S1_signed (M_y u))) (4294967296)) (As := [.long ((S1_signed (M_x u)) * (S1_signed (M_y u))), .long 4294967296]) (rest := []) ⟨hx, hb, hml, hown, hts⟩ (c1_down l ((S1_signed (M_x u)) * (S1_signed (M_y u))) (4294967296) (by decide)) gX1_product_X1_down rfl hdX1_down ⟨Nat.le_of_ble_eq_true rfl, Nat.le_of_ble_eq_true rfl⟩ hl.1 rfl (Nat.le_of_ble_eq_true rfl) dX1_product_74 ⟨Nat.zero_le _, Nat.zero_le _⟩ hP hS (fun H locs hP hS => ?_)
      have e9 : S1_product u = S1_down ((S1_signed (M_x u)) * (S1_signed (M_y u))) (4294967296) := by rw [S1_product, if_neg c1, if_pos c2]
      exact W.lret (v := S1_down ((S1_signed (M_x u)) * (S1_signed (M_y u))) (4294967296)) hx hb hr (fun t ht hW => ⟨⟨S1_down ((S1_signed (M_x u)) * (S1_signed (M_y u))) (4294967296), (), rfl, e9.symm, (by show va_P _ _ _ t.heap; rw [ht]; exact hP)⟩, hS.F ht⟩) hS.2.2 dX1_product_77
    · skip
      by_cases c3 : (M_t u) = 2
      · refine lv_tableIn (tgt := 78) hx hb dX1_product_20 (by rw [c3]; decide) (by rw [c3]; decide) (by rw [c3]; rfl) (by decide) ?_
        refine lv_lload_n hx hb dX1_product_78 rfl (lv_at hl 1 rfl) ?_
        refine lv_aload_n hx hb dX1_product_79 rfl (lv_at hl 2 rfl) ?_
        refine va_get (D := D) (ci := 1) (v := .long (M_y u)) (C := RX1) (T := TX1) (N := 12) hx hb hts iwX1_product hown hK hP 0 rfl rfl 11 (by decide) (hts (.fieldLink RX1 63 "WordMachineModel" "y" "J") flX1_product_63) (fun _ h9 => h9) rfl dX1_product_80 ?_
        refine lv_lmul hx hb dX1_product_83 ?_
        refine lv_ldc2 hx hb hown (hts (.constantLong RX1 29 (4294967296)) ctX1_product_29) dX1_product_84 ?_
        refine pu_l (v := S1_down ((S1_signed (M_x u)) * (M_y u)) (4294967296)) (As := [.long ((S1_signed (M_x u)) * (M_y u)), .long 4294967296]) (rest := []) ⟨hx, hb, hml, hown, hts⟩ (c1_down l ((S1_signed (M_x u)) * (M_y u)) (4294967296) (by decide)) gX1_product_X1_down rfl hdX1_down ⟨Nat.le_of_ble_eq_true rfl, Nat.le_of_ble_eq_true rfl⟩ hl.1 rfl (Nat.le_of_ble_eq_true rfl) dX1_product_87 ⟨Nat.zero_le _, Nat.zero_le _⟩ hP hS (fun H locs hP hS => ?_)
        have e9 : S1_product u = S1_down ((S1_signed (M_x u)) * (M_y u)) (4294967296) := by rw [S1_product, if_neg c1, if_neg c2, if_pos c3]
        exact W.lret (v := S1_down ((S1_signed (M_x u)) * (M_y u)) (4294967296)) hx hb hr (fun t ht hW => ⟨⟨S1_down ((S1_signed (M_x u)) * (M_y u)) (4294967296), (), rfl, e9.symm, (by show va_P _ _ _ t.heap; rw [ht]; exact hP)⟩, hS.F ht⟩) hS.2.2 dX1_product_90
      · skip
        by_cases c4 : (M_t u) = 3
        · refine lv_tableIn (tgt := 91) hx hb dX1_product_20 (by rw [c4]; decide) (by rw [c4]; decide) (by rw [c4]; rfl) (by decide) ?_
          refine lv_aload_n hx hb dX1_product_91 rfl (lv_at hl 2 rfl) ?_
          refine in_l (v := S1_upper u) (As := []) (rest := []) (w1 := ww1 cI cJ cB h q1 q2 q3 u) ⟨hx, hb, hml, hown, hts⟩ (c1_upper l hap  u ) gX1_product_X1_upper rfl hdX1_upper ⟨Nat.le_of_ble_eq_true rfl, Nat.le_of_ble_eq_true rfl⟩ hK rfl rfl hl.1 rfl (Nat.le_of_ble_eq_true rfl) dX1_product_92 ⟨Nat.zero_le _, Nat.zero_le _⟩ hP hS (fun _ h => h) (fun H locs hP hS _ _ => ?_)
          have e9 : S1_product u = S1_upper u := by rw [S1_product, if_neg c1, if_neg c2, if_neg c3, if_pos c4]
          exact W.lret (v := S1_upper u) hx hb hr (fun t ht hW => ⟨⟨S1_upper u, (), rfl, e9.symm, (by show va_P _ _ _ t.heap; rw [ht]; exact hP)⟩, hS.F ht⟩) hS.2.2 dX1_product_95
        · skip
          by_cases c5 : (M_t u) = 4
          · refine lv_tableIn (tgt := 96) hx hb dX1_product_20 (by rw [c5]; decide) (by rw [c5]; decide) (by rw [c5]; rfl) (by decide) ?_
            refine lv_aload_n hx hb dX1_product_96 rfl (lv_at hl 2 rfl) ?_
            refine va_get (D := D) (ci := 1) (v := .long (M_y u)) (C := RX1) (T := TX1) (N := 12) hx hb hts iwX1_product hown hK hP 0 rfl rfl 11 (by decide) (hts (.fieldLink RX1 63 "WordMachineModel" "y" "J") flX1_product_63) (fun _ h9 => h9) rfl dX1_product_97 ?_
            refine lv_lconst (v := 0) hx hb dX1_product_100 (by decide) ?_
            refine W.lcmp hx hb dX1_product_101 ?_
            refine lv_if_ne (tgt := 111) hx hb dX1_product_102 (by decide) (fun (c6 : ¬ (lg_cmp (M_y u) 0) = 0) => ?_) (fun (c6 : (lg_cmp (M_y u) 0) = 0) => ?_)
            · refine lv_lload_n hx hb dX1_product_111 rfl (lv_at hl 1 rfl) ?_
              refine lv_lload_n hx hb dX1_product_112 rfl (lv_at hl 0 rfl) ?_
              refine lv_ldiv hx hb dX1_product_113 (hy (cmp_ne c6)) ?_
              have e9 : S1_product u = (S1_signed (M_x u)) / (S1_signed (M_y u)) := by rw [S1_product, if_neg c1, if_neg c2, if_neg c3, if_neg c4, if_pos c5, if_neg c6]
              exact W.lret (v := (S1_signed (M_x u)) / (S1_signed (M_y u))) hx hb hr (fun t ht hW => ⟨⟨(S1_signed (M_x u)) / (S1_signed (M_y u)), (), rfl, e9.symm, (by show va_P _ _ _ t.heap; rw [ht]; exact hP)⟩, hS.F ht⟩) hS.2.2 dX1_product_114
            · refine lv_ldc2 hx hb hown (hts (.constantLong RX1 130 (-1)) ctX1_product_130) dX1_product_105 ?_
              refine lv_goto (tgt := 114) hx hb dX1_product_108 (by decide) ?_
              have e9 : S1_product u = ((-1) : Int64) := by rw [S1_product, if_neg c1, if_neg c2, if_neg c3, if_neg c4, if_pos c5, if_pos c6]
              exact W.lret (v := ((-1) : Int64)) hx hb hr (fun t ht hW => ⟨⟨((-1) : Int64), (), rfl, e9.symm, (by show va_P _ _ _ t.heap; rw [ht]; exact hP)⟩, hS.F ht⟩) hS.2.2 dX1_product_114
          · skip
            by_cases c7 : (M_t u) = 5
            · refine lv_tableIn (tgt := 115) hx hb dX1_product_20 (by rw [c7]; decide) (by rw [c7]; decide) (by rw [c7]; rfl) (by decide) ?_
              refine lv_aload_n hx hb dX1_product_115 rfl (lv_at hl 2 rfl) ?_
              refine va_get (D := D) (ci := 1) (v := .long (M_y u)) (C := RX1) (T := TX1) (N := 12) hx hb hts iwX1_product hown hK hP 0 rfl rfl 11 (by decide) (hts (.fieldLink RX1 63 "WordMachineModel" "y" "J") flX1_product_63) (fun _ h9 => h9) rfl dX1_product_116 ?_
              refine lv_lconst (v := 0) hx hb dX1_product_119 (by decide) ?_
              refine W.lcmp hx hb dX1_product_120 ?_
              refine lv_if_ne (tgt := 130) hx hb dX1_product_121 (by decide) (fun (c8 : ¬ (lg_cmp (M_y u) 0) = 0) => ?_) (fun (c8 : (lg_cmp (M_y u) 0) = 0) => ?_)
              · refine lv_aload_n hx hb dX1_product_130 rfl (lv_at hl 2 rfl) ?_
                refine va_get (D := D) (ci := 1) (v := .long (M_x u)) (C := RX1) (T := TX1) (N := 12) hx hb hts iwX1_product hown hK hP 0 rfl rfl 10 (by decide) (hts (.fieldLink RX1 59 "WordMachineModel" "x" "J") flX1_product_59) (fun _ h9 => h9) rfl dX1_product_131 ?_
                refine lv_aload_n hx hb dX1_product_134 rfl (lv_at hl 2 rfl) ?_
                refine va_get (D := D) (ci := 1) (v := .long (M_y u)) (C := RX1) (T := TX1) (N := 12) hx hb hts iwX1_product hown hK hP 0 rfl rfl 11 (by decide) (hts (.fieldLink RX1 63 "WordMachineModel" "y" "J") flX1_product_63) (fun _ h9 => h9) rfl dX1_product_135 ?_
                refine lv_ldiv hx hb dX1_product_138 (cmp_ne c8) ?_
                have e9 : S1_product u = (M_x u) / (M_y u) := by rw [S1_product, if_neg c1, if_neg c2, if_neg c3, if_neg c4, if_neg c5, if_pos c7, if_neg c8]
                exact W.lret (v := (M_x u) / (M_y u)) hx hb hr (fun t ht hW => ⟨⟨(M_x u) / (M_y u), (), rfl, e9.symm, (by show va_P _ _ _ t.heap; rw [ht]; exact hP)⟩, hS.F ht⟩) hS.2.2 dX1_product_139
              · refine lv_ldc2 hx hb hown (hts (.constantLong RX1 130 (-1)) ctX1_product_130) dX1_product_124 ?_
                refine lv_goto (tgt := 139) hx hb dX1_product_127 (by decide) ?_
                have e9 : S1_product u = ((-1) : Int64) := by rw [S1_product, if_neg c1, if_neg c2, if_neg c3, if_neg c4, if_neg c5, if_pos c7, if_pos c8]
                exact W.lret (v := ((-1) : Int64)) hx hb hr (fun t ht hW => ⟨⟨((-1) : Int64), (), rfl, e9.symm, (by show va_P _ _ _ t.heap; rw [ht]; exact hP)⟩, hS.F ht⟩) hS.2.2 dX1_product_139
            · skip
              by_cases c9 : (M_t u) = 6
              · refine lv_tableIn (tgt := 140) hx hb dX1_product_20 (by rw [c9]; decide) (by rw [c9]; decide) (by rw [c9]; rfl) (by decide) ?_
                refine lv_aload_n hx hb dX1_product_140 rfl (lv_at hl 2 rfl) ?_
                refine va_get (D := D) (ci := 1) (v := .long (M_y u)) (C := RX1) (T := TX1) (N := 12) hx hb hts iwX1_product hown hK hP 0 rfl rfl 11 (by decide) (hts (.fieldLink RX1 63 "WordMachineModel" "y" "J") flX1_product_63) (fun _ h9 => h9) rfl dX1_product_141 ?_
                refine lv_lconst (v := 0) hx hb dX1_product_144 (by decide) ?_
                refine W.lcmp hx hb dX1_product_145 ?_
                refine lv_if_ne (tgt := 156) hx hb dX1_product_146 (by decide) (fun (c10 : ¬ (lg_cmp (M_y u) 0) = 0) => ?_) (fun (c10 : (lg_cmp (M_y u) 0) = 0) => ?_)
                · refine lv_lload_n hx hb dX1_product_156 rfl (lv_at hl 1 rfl) ?_
                  refine lv_lload_n hx hb dX1_product_157 rfl (lv_at hl 0 rfl) ?_
                  refine lv_lrem hx hb dX1_product_158 (hy (cmp_ne c10)) ?_
                  have e9 : S1_product u = (S1_signed (M_x u)) - (S1_signed (M_x u)) / (S1_signed (M_y u)) * (S1_signed (M_y u)) := by rw [S1_product, if_neg c1, if_neg c2, if_neg c3, if_neg c4, if_neg c5, if_neg c7, if_pos c9, if_neg c10]
                  exact W.lret (v := (S1_signed (M_x u)) - (S1_signed (M_x u)) / (S1_signed (M_y u)) * (S1_signed (M_y u))) hx hb hr (fun t ht hW => ⟨⟨(S1_signed (M_x u)) - (S1_signed (M_x u)) / (S1_signed (M_y u)) * (S1_signed (M_y u)), (), rfl, e9.symm, (by show va_P _ _ _ t.heap; rw [ht]; exact hP)⟩, hS.F ht⟩) hS.2.2 dX1_product_159
                · refine lv_aload_n hx hb dX1_product_149 rfl (lv_at hl 2 rfl) ?_
                  refine va_get (D := D) (ci := 1) (v := .long (M_x u)) (C := RX1) (T := TX1) (N := 12) hx hb hts iwX1_product hown hK hP 0 rfl rfl 10 (by decide) (hts (.fieldLink RX1 59 "WordMachineModel" "x" "J") flX1_product_59) (fun _ h9 => h9) rfl dX1_product_150 ?_
                  refine lv_goto (tgt := 159) hx hb dX1_product_153 (by decide) ?_
                  have e9 : S1_product u = M_x u := by rw [S1_product, if_neg c1, if_neg c2, if_neg c3, if_neg c4, if_neg c5, if_neg c7, if_pos c9, if_pos c10]
                  exact W.lret (v := M_x u) hx hb hr (fun t ht hW => ⟨⟨M_x u, (), rfl, e9.symm, (by show va_P _ _ _ t.heap; rw [ht]; exact hP)⟩, hS.F ht⟩) hS.2.2 dX1_product_159
              · skip
                refine lv_tableOut (tgt := 160) hx hb dX1_product_20 (by have nc1 := lv_neT c1 (show (0 : Int32).toInt = 0 from by decide); have nc2 := lv_neT c2 (show (1 : Int32).toInt = 1 from by decide); have nc3 := lv_neT c3 (show (2 : Int32).toInt = 2 from by decide); have nc4 := lv_neT c4 (show (3 : Int32).toInt = 3 from by decide); have nc5 := lv_neT c5 (show (4 : Int32).toInt = 4 from by decide); have nc7 := lv_neT c7 (show (5 : Int32).toInt = 5 from by decide); have nc9 := lv_neT c9 (show (6 : Int32).toInt = 6 from by decide); omega) (by decide) ?_
                refine lv_aload_n hx hb dX1_product_160 rfl (lv_at hl 2 rfl) ?_
                refine va_get (D := D) (ci := 1) (v := .long (M_y u)) (C := RX1) (T := TX1) (N := 12) hx hb hts iwX1_product hown hK hP 0 rfl rfl 11 (by decide) (hts (.fieldLink RX1 63 "WordMachineModel" "y" "J") flX1_product_63) (fun _ h9 => h9) rfl dX1_product_161 ?_
                refine lv_lconst (v := 0) hx hb dX1_product_164 (by decide) ?_
                refine W.lcmp hx hb dX1_product_165 ?_
                refine lv_if_ne (tgt := 176) hx hb dX1_product_166 (by decide) (fun (c11 : ¬ (lg_cmp (M_y u) 0) = 0) => ?_) (fun (c11 : (lg_cmp (M_y u) 0) = 0) => ?_)
                · refine lv_aload_n hx hb dX1_product_176 rfl (lv_at hl 2 rfl) ?_
                  refine va_get (D := D) (ci := 1) (v := .long (M_x u)) (C := RX1) (T := TX1) (N := 12) hx hb hts iwX1_product hown hK hP 0 rfl rfl 10 (by decide) (hts (.fieldLink RX1 59 "WordMachineModel" "x" "J") flX1_product_59) (fun _ h9 => h9) rfl dX1_product_177 ?_
                  refine lv_aload_n hx hb dX1_product_180 rfl (lv_at hl 2 rfl) ?_
                  refine va_get (D := D) (ci := 1) (v := .long (M_y u)) (C := RX1) (T := TX1) (N := 12) hx hb hts iwX1_product hown hK hP 0 rfl rfl 11 (by decide) (hts (.fieldLink RX1 63 "WordMachineModel" "y" "J") flX1_product_63) (fun _ h9 => h9) rfl dX1_product_181 ?_
                  refine lv_lrem hx hb dX1_product_184 (cmp_ne c11) ?_
                  have e9 : S1_product u = (M_x u) - (M_x u) / (M_y u) * (M_y u) := by rw [S1_product, if_neg c1, if_neg c2, if_neg c3, if_neg c4, if_neg c5, if_neg c7, if_neg c9, if_neg c11]
                  exact W.lret (v := (M_x u) - (M_x u) / (M_y u) * (M_y u)) hx hb hr (fun t ht hW => ⟨⟨(M_x u) - (M_x u) / (M_y u) * (M_y u), (), rfl, e9.symm, (by show va_P _ _ _ t.heap; rw [ht]; exact hP)⟩, hS.F ht⟩) hS.2.2 dX1_product_185
                · refine lv_aload_n hx hb dX1_product_169 rfl (lv_at hl 2 rfl) ?_
                  refine va_get (D := D) (ci := 1) (v := .long (M_x u)) (C := RX1) (T := TX1) (N := 12) hx hb hts iwX1_product hown hK hP 0 rfl rfl 10 (by decide) (hts (.fieldLink RX1 59 "WordMachineModel" "x" "J") flX1_product_59) (fun _ h9 => h9) rfl dX1_product_170 ?_
                  refine lv_goto (tgt := 185) hx hb dX1_product_173 (by decide) ?_
                  have e9 : S1_product u = M_x u := by rw [S1_product, if_neg c1, if_neg c2, if_neg c3, if_neg c4, if_neg c5, if_neg c7, if_neg c9, if_pos c11]
                  exact W.lret (v := M_x u) hx hb hr (fun t ht hW => ⟨⟨M_x u, (), rfl, e9.symm, (by show va_P _ _ _ t.heap; rw [ht]; exact hP)⟩, hS.F ht⟩) hS.2.2 dX1_product_185
end
section
theorem iwX1_number : ∀ w ∈ wsX10, w ∈ wsX1_number := by decide +kernel
theorem flX1_number_39 : Cond.fieldLink RX1 39 "WordMachineModel" "pc" "I" ∈ wsX1_number := by decide +kernel
theorem flX1_number_53 : Cond.fieldLink RX1 53 "WordMachineModel" "d" "I" ∈ wsX1_number := by decide +kernel
theorem flX1_number_56 : Cond.fieldLink RX1 56 "WordMachineModel" "t" "I" ∈ wsX1_number := by decide +kernel
theorem flX1_number_59 : Cond.fieldLink RX1 59 "WordMachineModel" "x" "J" ∈ wsX1_number := by decide +kernel
theorem flX1_number_63 : Cond.fieldLink RX1 63 "WordMachineModel" "y" "J" ∈ wsX1_number := by decide +kernel
theorem flX1_number_66 : Cond.fieldLink RX1 66 "WordMachineModel" "s" "I" ∈ wsX1_number := by decide +kernel
theorem flX1_number_73 : Cond.fieldLink RX1 73 "WordMachineModel" "immediate" "I" ∈ wsX1_number := by decide +kernel
theorem ctX1_number_96 : Cond.constantLong RX1 96 (4096) ∈ wsX1_number := by decide +kernel
theorem hdX1_number : yX1_number.cls = RX1 ∧ yX1_number.cls ≠ "java/lang/invoke/MethodHandle" ∧ yX1_number.cls ≠ "java/lang/invoke/VarHandle" ∧ (parseMethodDescriptor yX1_number.desc).map (fun d => d.parameters.length) = some 2 := by decide +kernel
set_option maxHeartbeats 4000000 in
set_option maxRecDepth 100000 in
theorem c1_number (l : Launch) {D : va_G} {cI cJ cB : ClassId} {h q1 q2 q3 : Nat} (hap : ap4 h q1 q2 q3) (oa : Int32) (wa : Int32) (u : MS) (hd : M_d u < 32) (hy : ¬ M_y u = 0 → ¬ S1_signed (M_y u) = 0) : Ini l yX1_number wsX1_number 2 56 D (ty1 cI cJ cB) (wa0 h q1 q2 q3) [.ref h, .int oa, .int wa] (ww1 cI cJ cB h q1 q2 q3 u) (ww1 cI cJ cB h q1 q2 q3 (S1_number oa wa u).2) (S1_number oa wa u).1 := by
  refine Met.ofW (cc := cX1_number) (maxL := 5) (ret := (some .int)) (by decide) rfl ?_
  intro p e s m args below meth c s₁ B hml hv
  obtain ⟨rfl, hP, hK⟩ := hv
  have hx := B.exec
  have hb := B.bytes
  have hr := B.returns
  have hts := atoms_spec (ws := wsX1_number) B.pre
  have hown : s.vm.findClass RX1 = some m.cls := findClass_of_methodNamed B.named
  have hlocks := B.notSynchronized
  have hS : va_S (wa0 h q1 q2 q3) s.heap s.heap [] := va_S.rf
  have hl := lv_entry ([.ref h, .int oa, .int wa]) (n := 5) (Nat.le_of_ble_eq_true rfl)
  rw [lg_entry_eq]
  generalize (lg_sl ([.ref h, .int oa, .int wa]) ++ List.replicate (5 - (lg_sl ([.ref h, .int oa, .int wa])).length) Slot.unset).toArray = ls at hl ⊢
  have hl : lv_has ls 5 [(0, .ref h), (1, .int oa), (2, .int wa)] := hl
  refine lv_iload_n hx hb dX1_number_0 rfl (lv_at hl 1 rfl) ?_
  refine lv_bipush (v := 55) hx hb dX1_number_1 (by decide) ?_
  refine lv_icmp_eq (tgt := 12) hx hb dX1_number_3 (by decide) (fun (c1 : oa = 55) => ?_) (fun (c1 : ¬ oa = 55) => ?_)
  · refine lv_aload_n hx hb dX1_number_12 rfl (lv_at hl 0 rfl) ?_
    refine lv_aload_n hx hb dX1_number_13 rfl (lv_at hl 0 rfl) ?_
    refine va_get (D := D) (ci := 1) (v := .int (M_d u)) (C := RX1) (T := TX1) (N := 12) hx hb hts iwX1_number hown hK hP 0 rfl rfl 6 (by decide) (hts (.fieldLink RX1 53 "WordMachineModel" "d" "I") flX1_number_53) (fun _ h9 => h9) rfl dX1_number_14 ?_
    refine lv_iload_n hx hb dX1_number_17 rfl (lv_at hl 2 rfl) ?_
    refine lv_bipush (v := 12) hx hb dX1_number_18 (by decide) ?_
    refine lv_ishr hx hb dX1_number_20 ?_
    refine lv_i2l (v := (wa >>> ((12 : Int32) &&& 31)).toInt64) hx hb dX1_number_21 rfl ?_
    refine lv_ldc2 hx hb hown (hts (.constantLong RX1 96 (4096)) ctX1_number_96) dX1_number_22 ?_
    refine lv_lmul hx hb dX1_number_25 ?_
    refine lv_iload_n hx hb dX1_number_26 rfl (lv_at hl 1 rfl) ?_
    refine lv_bipush (v := 23) hx hb dX1_number_27 (by decide) ?_
    refine lv_icmp_ne (tgt := 39) hx hb dX1_number_29 (by decide) (fun (c2 : ¬ oa = 23) => ?_) (fun (c2 : oa = 23) => ?_)
    · refine lv_iconst (v := 0) hx hb dX1_number_39 (by decide) ?_
      refine lv_i2l (v := (0 : Int32).toInt64) hx hb dX1_number_40 rfl ?_
      refine lv_ladd hx hb dX1_number_41 ?_
      refine in_v (As := [.int (M_d u), .long ((((wa >>> ((12 : Int32) &&& 31)).toInt64) * 4096) + ((0 : Int32).toInt64))]) (rest := []) (w1 := ww1 cI cJ cB h q1 q2 q3 (S1_give (M_d u) ((((wa >>> ((12 : Int32) &&& 31)).toInt64) * 4096) + ((0 : Int32).toInt64)) u)) ⟨hx, hb, hml, hown, hts⟩ (c1_give l hap (M_d u) ((((wa >>> ((12 : Int32) &&& 31)).toInt64) * 4096) + ((0 : Int32).toInt64)) u hd) gX1_number_X1_give rfl hdX1_give ⟨Nat.le_of_ble_eq_true rfl, Nat.le_of_ble_eq_true rfl⟩ hK rfl rfl hl.1 rfl (Nat.le_of_ble_eq_true rfl) dX1_number_42 ⟨Nat.zero_le _, Nat.zero_le _⟩ hP hS (fun _ h => h) (fun H locs hP hS _ _ => ?_)
      refine lv_iconst (v := 0) hx hb dX1_number_45 (by decide) ?_
      have e9 : S1_number oa wa u = ((0 : Int32), S1_give (M_d u) ((((wa >>> ((12 : Int32) &&& 31)).toInt64) * 4096) + ((0 : Int32).toInt64)) u) := by rw [S1_number, if_pos c1, if_neg c2]
      exact W.iret (v := (0 : Int32)) hx hb hr (fun t ht hW => ⟨⟨(0 : Int32), (), rfl, by rw [e9], by show va_P _ _ _ t.heap; rw [e9, ht]; exact hP⟩, hS.F ht⟩) hS.2.2 dX1_number_46
    · refine lv_aload_n hx hb dX1_number_32 rfl (lv_at hl 0 rfl) ?_
      refine va_get (D := D) (ci := 1) (v := .int (M_pc u)) (C := RX1) (T := TX1) (N := 12) hx hb hts iwX1_number hown hK hP 0 rfl rfl 2 (by decide) (hts (.fieldLink RX1 39 "WordMachineModel" "pc" "I") flX1_number_39) (fun _ h9 => h9) rfl dX1_number_33 ?_
      refine lv_goto (tgt := 40) hx hb dX1_number_36 (by decide) ?_
      refine lv_i2l (v := (M_pc u).toInt64) hx hb dX1_number_40 rfl ?_
      refine lv_ladd hx hb dX1_number_41 ?_
      refine in_v (As := [.int (M_d u), .long ((((wa >>> ((12 : Int32) &&& 31)).toInt64) * 4096) + ((M_pc u).toInt64))]) (rest := []) (w1 := ww1 cI cJ cB h q1 q2 q3 (S1_give (M_d u) ((((wa >>> ((12 : Int32) &&& 31)).toInt64) * 4096) + ((M_pc u).toInt64)) u)) ⟨hx, hb, hml, hown, hts⟩ (c1_give l hap (M_d u) ((((wa >>> ((12 : Int32) &&& 31)).toInt64) * 4096) + ((M_pc u).toInt64)) u hd) gX1_number_X1_give rfl hdX1_give ⟨Nat.le_of_ble_eq_true rfl, Nat.le_of_ble_eq_true rfl⟩ hK rfl rfl hl.1 rfl (Nat.le_of_ble_eq_true rfl) dX1_number_42 ⟨Nat.zero_le _, Nat.zero_le _⟩ hP hS (fun _ h => h) (fun H locs hP hS _ _ => ?_)
      refine lv_iconst (v := 0) hx hb dX1_number_45 (by decide) ?_
      have e9 : S1_number oa wa u = ((0 : Int32), S1_give (M_d u) ((((wa >>> ((12 : Int32) &&& 31)).toInt64) * 4096) + ((M_pc u).toInt64)) u) := by rw [S1_number, if_pos c1, if_pos c2]
      exact W.iret (v := (0 : Int32)) hx hb hr (fun t ht hW => ⟨⟨(0 : Int32), (), rfl, by rw [e9], by show va_P _ _ _ t.heap; rw [e9, ht]; exact hP⟩, hS.F ht⟩) hS.2.2 dX1_number_46
  · refine lv_iload_n hx hb dX1_number_6 rfl (lv_at hl 1 rfl) ?_
    refine lv_bipush (v := 23) hx hb dX1_number_7 (by decide) ?_
    refine lv_icmp_ne (tgt := 47) hx hb dX1_number_9 (by decide) (fun (c3 : ¬ oa = 23) => ?_) (fun (c3 : oa = 23) => ?_)
    · refine lv_iload_n hx hb dX1_number_47 rfl (lv_at hl 1 rfl) ?_
      refine lv_bipush (v := 19) hx hb dX1_number_48 (by decide) ?_
      refine lv_icmp_ne (tgt := 175) hx hb dX1_number_50 (by decide) (fun (c4 : ¬ oa = 19) => ?_) (fun (c4 : oa = 19) => ?_)
      · refine lv_iload_n hx hb dX1_number_175 rfl (lv_at hl 1 rfl) ?_
        refine lv_bipush (v := 51) hx hb dX1_number_176 (by decide) ?_
        refine lv_icmp_eq (tgt := 183) hx hb dX1_number_178 (by decide) (fun (c5 : oa = 51) => ?_) (fun (c5 : ¬ oa = 51) => ?_)
        · refine lv_aload_n hx hb dX1_number_183 rfl (lv_at hl 0 rfl) ?_
          refine va_get (D := D) (ci := 1) (v := .int (M_s u)) (C := RX1) (T := TX1) (N := 12) hx hb hts iwX1_number hown hK hP 0 rfl rfl 8 (by decide) (hts (.fieldLink RX1 66 "WordMachineModel" "s" "I") flX1_number_66) (fun _ h9 => h9) rfl dX1_number_184 ?_
          refine lv_iconst (v := 1) hx hb dX1_number_187 (by decide) ?_
          refine lv_icmp_ne (tgt := 206) hx hb dX1_number_188 (by decide) (fun (c6 : ¬ (M_s u) = 1) => ?_) (fun (c6 : (M_s u) = 1) => ?_)
          · refine lv_aload_n hx hb dX1_number_206 rfl (lv_at hl 0 rfl) ?_
            refine va_get (D := D) (ci := 1) (v := .int (M_s u)) (C := RX1) (T := TX1) (N := 12) hx hb hts iwX1_number hown hK hP 0 rfl rfl 8 (by decide) (hts (.fieldLink RX1 66 "WordMachineModel" "s" "I") flX1_number_66) (fun _ h9 => h9) rfl dX1_number_207 ?_
            refine lv_if_eq (tgt := 237) hx hb dX1_number_210 (by decide) (fun (c7 : (M_s u) = 0) => ?_) (fun (c7 : ¬ (M_s u) = 0) => ?_)
            · refine lv_aload_n hx hb dX1_number_237 rfl (lv_at hl 0 rfl) ?_
              refine lv_aload_n hx hb dX1_number_238 rfl (lv_at hl 0 rfl) ?_
              refine va_get (D := D) (ci := 1) (v := .int (M_d u)) (C := RX1) (T := TX1) (N := 12) hx hb hts iwX1_number hown hK hP 0 rfl rfl 6 (by decide) (hts (.fieldLink RX1 53 "WordMachineModel" "d" "I") flX1_number_53) (fun _ h9 => h9) rfl dX1_number_239 ?_
              refine lv_aload_n hx hb dX1_number_242 rfl (lv_at hl 0 rfl) ?_
              refine va_get (D := D) (ci := 1) (v := .int (M_t u)) (C := RX1) (T := TX1) (N := 12) hx hb hts iwX1_number hown hK hP 0 rfl rfl 7 (by decide) (hts (.fieldLink RX1 56 "WordMachineModel" "t" "I") flX1_number_56) (fun _ h9 => h9) rfl dX1_number_243 ?_
              refine lv_aload_n hx hb dX1_number_246 rfl (lv_at hl 0 rfl) ?_
              refine va_get (D := D) (ci := 1) (v := .int (M_s u)) (C := RX1) (T := TX1) (N := 12) hx hb hts iwX1_number hown hK hP 0 rfl rfl 8 (by decide) (hts (.fieldLink RX1 66 "WordMachineModel" "s" "I") flX1_number_66) (fun _ h9 => h9) rfl dX1_number_247 ?_
              refine lv_aload_n hx hb dX1_number_250 rfl (lv_at hl 0 rfl) ?_
              refine va_get (D := D) (ci := 1) (v := .long (M_x u)) (C := RX1) (T := TX1) (N := 12) hx hb hts iwX1_number hown hK hP 0 rfl rfl 10 (by decide) (hts (.fieldLink RX1 59 "WordMachineModel" "x" "J") flX1_number_59) (fun _ h9 => h9) rfl dX1_number_251 ?_
              refine lv_aload_n hx hb dX1_number_254 rfl (lv_at hl 0 rfl) ?_
              refine va_get (D := D) (ci := 1) (v := .long (M_y u)) (C := RX1) (T := TX1) (N := 12) hx hb hts iwX1_number hown hK hP 0 rfl rfl 11 (by decide) (hts (.fieldLink RX1 63 "WordMachineModel" "y" "J") flX1_number_63) (fun _ h9 => h9) rfl dX1_number_255 ?_
              refine pu_l (v := S1_made (M_t u) (M_s u) (M_x u) (M_y u)) (As := [.int (M_t u), .int (M_s u), .long (M_x u), .long (M_y u)]) (rest := [.int (M_d u), .ref h]) ⟨hx, hb, hml, hown, hts⟩ (c1_made l (M_t u) (M_s u) (M_x u) (M_y u) ) gX1_number_X1_made rfl hdX1_made ⟨Nat.le_of_ble_eq_true rfl, Nat.le_of_ble_eq_true rfl⟩ hl.1 rfl (Nat.le_of_ble_eq_true rfl) dX1_number_258 ⟨Nat.zero_le _, Nat.zero_le _⟩ hP hS (fun H locs hP hS => ?_)
              refine in_v (As := [.int (M_d u), .long (S1_made (M_t u) (M_s u) (M_x u) (M_y u))]) (rest := []) (w1 := ww1 cI cJ cB h q1 q2 q3 (S1_give (M_d u) (S1_made (M_t u) (M_s u) (M_x u) (M_y u)) u)) ⟨hx, hb, hml, hown, hts⟩ (c1_give l hap (M_d u) (S1_made (M_t u) (M_s u) (M_x u) (M_y u)) u hd) gX1_number_X1_give rfl hdX1_give ⟨Nat.le_of_ble_eq_true rfl, Nat.le_of_ble_eq_true rfl⟩ hK rfl rfl hl.1 rfl (Nat.le_of_ble_eq_true rfl) dX1_number_261 ⟨Nat.zero_le _, Nat.zero_le _⟩ hP hS (fun _ h => h) (fun H locs hP hS _ _ => ?_)
              refine lv_goto (tgt := 269) hx hb dX1_number_264 (by decide) ?_
              refine lv_iconst (v := 0) hx hb dX1_number_269 (by decide) ?_
              have e9 : S1_number oa wa u = ((0 : Int32), S1_give (M_d u) (S1_made (M_t u) (M_s u) (M_x u) (M_y u)) u) := by rw [S1_number, if_neg c1, if_neg c3, if_neg c4, if_pos c5, if_neg c6, if_pos c7]
              exact W.iret (v := (0 : Int32)) hx hb hr (fun t ht hW => ⟨⟨(0 : Int32), (), rfl, by rw [e9], by show va_P _ _ _ t.heap; rw [e9, ht]; exact hP⟩, hS.F ht⟩) hS.2.2 dX1_number_270
            · refine lv_aload_n hx hb dX1_number_213 rfl (lv_at hl 0 rfl) ?_
              refine va_get (D := D) (ci := 1) (v := .int (M_s u)) (C := RX1) (T := TX1) (N := 12) hx hb hts iwX1_number hown hK hP 0 rfl rfl 8 (by decide) (hts (.fieldLink RX1 66 "WordMachineModel" "s" "I") flX1_number_66) (fun _ h9 => h9) rfl dX1_number_214 ?_
              refine lv_bipush (v := 32) hx hb dX1_number_217 (by decide) ?_
              refine lv_icmp_ne (tgt := 267) hx hb dX1_number_219 (by decide) (fun (c8 : ¬ (M_s u) = 32) => ?_) (fun (c8 : (M_s u) = 32) => ?_)
              · refine lv_iconst (v := 3) hx hb dX1_number_267 (by decide) ?_
                have e9 : S1_number oa wa u = ((3 : Int32), u) := by rw [S1_number, if_neg c1, if_neg c3, if_neg c4, if_pos c5, if_neg c6, if_neg c7, if_neg c8]
                exact W.iret (v := (3 : Int32)) hx hb hr (fun t ht hW => ⟨⟨(3 : Int32), (), rfl, by rw [e9], by show va_P _ _ _ t.heap; rw [e9, ht]; exact hP⟩, hS.F ht⟩) hS.2.2 dX1_number_268
              · refine lv_aload_n hx hb dX1_number_222 rfl (lv_at hl 0 rfl) ?_
                refine va_get (D := D) (ci := 1) (v := .int (M_t u)) (C := RX1) (T := TX1) (N := 12) hx hb hts iwX1_number hown hK hP 0 rfl rfl 7 (by decide) (hts (.fieldLink RX1 56 "WordMachineModel" "t" "I") flX1_number_56) (fun _ h9 => h9) rfl dX1_number_223 ?_
                refine lv_if_eq (tgt := 237) hx hb dX1_number_226 (by decide) (fun (c9 : (M_t u) = 0) => ?_) (fun (c9 : ¬ (M_t u) = 0) => ?_)
                · refine lv_aload_n hx hb dX1_number_237 rfl (lv_at hl 0 rfl) ?_
                  refine lv_aload_n hx hb dX1_number_238 rfl (lv_at hl 0 rfl) ?_
                  refine va_get (D := D) (ci := 1) (v := .int (M_d u)) (C := RX1) (T := TX1) (N := 12) hx hb hts iwX1_number hown hK hP 0 rfl rfl 6 (by decide) (hts (.fieldLink RX1 53 "WordMachineModel" "d" "I") flX1_number_53) (fun _ h9 => h9) rfl dX1_number_239 ?_
                  refine lv_aload_n hx hb dX1_number_242 rfl (lv_at hl 0 rfl) ?_
                  refine va_get (D := D) (ci := 1) (v := .int (M_t u)) (C := RX1) (T := TX1) (N := 12) hx hb hts iwX1_number hown hK hP 0 rfl rfl 7 (by decide) (hts (.fieldLink RX1 56 "WordMachineModel" "t" "I") flX1_number_56) (fun _ h9 => h9) rfl dX1_number_243 ?_
                  refine lv_aload_n hx hb dX1_number_246 rfl (lv_at hl 0 rfl) ?_
                  refine va_get (D := D) (ci := 1) (v := .int (M_s u)) (C := RX1) (T := TX1) (N := 12) hx hb hts iwX1_number hown hK hP 0 rfl rfl 8 (by decide) (hts (.fieldLink RX1 66 "WordMachineModel" "s" "I") flX1_number_66) (fun _ h9 => h9) rfl dX1_number_247 ?_
                  refine lv_aload_n hx hb dX1_number_250 rfl (lv_at hl 0 rfl) ?_
                  refine va_get (D := D) (ci := 1) (v := .long (M_x u)) (C := RX1) (T := TX1) (N := 12) hx hb hts iwX1_number hown hK hP 0 rfl rfl 10 (by decide) (hts (.fieldLink RX1 59 "WordMachineModel" "x" "J") flX1_number_59) (fun _ h9 => h9) rfl dX1_number_251 ?_
                  refine lv_aload_n hx hb dX1_number_254 rfl (lv_at hl 0 rfl) ?_
                  refine va_get (D := D) (ci := 1) (v := .long (M_y u)) (C := RX1) (T := TX1) (N := 12) hx hb hts iwX1_number hown hK hP 0 rfl rfl 11 (by decide) (hts (.fieldLink RX1 63 "WordMachineModel" "y" "J") flX1_number_63) (fun _ h9 => h9) rfl dX1_number_255 ?_
                  refine pu_l (v := S1_made (M_t u) (M_s u) (M_x u) (M_y u)) (As := [.int (M_t u), .int (M_s u), .long (M_x u), .long (M_y u)]) (rest := [.int (M_d u), .ref h]) ⟨hx, hb, hml, hown, hts⟩ (c1_made l (M_t u) (M_s u) (M_x u) (M_y u) ) gX1_number_X1_made rfl hdX1_made ⟨Nat.le_of_ble_eq_true rfl, Nat.le_of_ble_eq_true rfl⟩ hl.1 rfl (Nat.le_of_ble_eq_true rfl) dX1_number_258 ⟨Nat.zero_le _, Nat.zero_le _⟩ hP hS (fun H locs hP hS => ?_)
                  refine in_v (As := [.int (M_d u), .long (S1_made (M_t u) (M_s u) (M_x u) (M_y u))]) (rest := []) (w1 := ww1 cI cJ cB h q1 q2 q3 (S1_give (M_d u) (S1_made (M_t u) (M_s u) (M_x u) (M_y u)) u)) ⟨hx, hb, hml, hown, hts⟩ (c1_give l hap (M_d u) (S1_made (M_t u) (M_s u) (M_x u) (M_y u)) u hd) gX1_number_X1_give rfl hdX1_give ⟨Nat.le_of_ble_eq_true rfl, Nat.le_of_ble_eq_true rfl⟩ hK rfl rfl hl.1 rfl (Nat.le_of_ble_eq_true rfl) dX1_number_261 ⟨Nat.zero_le _, Nat.zero_le _⟩ hP hS (fun _ h => h) (fun H locs hP hS _ _ => ?_)
                  refine lv_goto (tgt := 269) hx hb dX1_number_264 (by decide) ?_
                  refine lv_iconst (v := 0) hx hb dX1_number_269 (by decide) ?_
                  have e9 : S1_number oa wa u = ((0 : Int32), S1_give (M_d u) (S1_made (M_t u) (M_s u) (M_x u) (M_y u)) u) := by rw [S1_number, if_neg c1, if_neg c3, if_neg c4, if_pos c5, if_neg c6, if_neg c7, if_pos c8, if_pos c9]
                  exact W.iret (v := (0 : Int32)) hx hb hr (fun t ht hW => ⟨⟨(0 : Int32), (), rfl, by rw [e9], by show va_P _ _ _ t.heap; rw [e9, ht]; exact hP⟩, hS.F ht⟩) hS.2.2 dX1_number_270
                · refine lv_aload_n hx hb dX1_number_229 rfl (lv_at hl 0 rfl) ?_
                  refine va_get (D := D) (ci := 1) (v := .int (M_t u)) (C := RX1) (T := TX1) (N := 12) hx hb hts iwX1_number hown hK hP 0 rfl rfl 7 (by decide) (hts (.fieldLink RX1 56 "WordMachineModel" "t" "I") flX1_number_56) (fun _ h9 => h9) rfl dX1_number_230 ?_
                  refine lv_iconst (v := 5) hx hb dX1_number_233 (by decide) ?_
                  refine lv_icmp_ne (tgt := 267) hx hb dX1_number_234 (by decide) (fun (c10 : ¬ (M_t u) = 5) => ?_) (fun (c10 : (M_t u) = 5) => ?_)
                  · refine lv_iconst (v := 3) hx hb dX1_number_267 (by decide) ?_
                    have e9 : S1_number oa wa u = ((3 : Int32), u) := by rw [S1_number, if_neg c1, if_neg c3, if_neg c4, if_pos c5, if_neg c6, if_neg c7, if_pos c8, if_neg c9, if_neg c10]
                    exact W.iret (v := (3 : Int32)) hx hb hr (fun t ht hW => ⟨⟨(3 : Int32), (), rfl, by rw [e9], by show va_P _ _ _ t.heap; rw [e9, ht]; exact hP⟩, hS.F ht⟩) hS.2.2 dX1_number_268
                  · refine lv_aload_n hx hb dX1_number_237 rfl (lv_at hl 0 rfl) ?_
                    refine lv_aload_n hx hb dX1_number_238 rfl (lv_at hl 0 rfl) ?_
                    refine va_get (D := D) (ci := 1) (v := .int (M_d u)) (C := RX1) (T := TX1) (N := 12) hx hb hts iwX1_number hown hK hP 0 rfl rfl 6 (by decide) (hts (.fieldLink RX1 53 "WordMachineModel" "d" "I") flX1_number_53) (fun _ h9 => h9) rfl dX1_number_239 ?_
                    refine lv_aload_n hx hb dX1_number_242 rfl (lv_at hl 0 rfl) ?_
                    refine va_get (D := D) (ci := 1) (v := .int (M_t u)) (C := RX1) (T := TX1) (N := 12) hx hb hts iwX1_number hown hK hP 0 rfl rfl 7 (by decide) (hts (.fieldLink RX1 56 "WordMachineModel" "t" "I") flX1_number_56) (fun _ h9 => h9) rfl dX1_number_243 ?_
                    refine lv_aload_n hx hb dX1_number_246 rfl (lv_at hl 0 rfl) ?_
                    refine va_get (D := D) (ci := 1) (v := .int (M_s u)) (C := RX1) (T := TX1) (N := 12) hx hb hts iwX1_number hown hK hP 0 rfl rfl 8 (by decide) (hts (.fieldLink RX1 66 "WordMachineModel" "s" "I") flX1_number_66) (fun _ h9 => h9) rfl dX1_number_247 ?_
                    refine lv_aload_n hx hb dX1_number_250 rfl (lv_at hl 0 rfl) ?_
                    refine va_get (D := D) (ci := 1) (v := .long (M_x u)) (C := RX1) (T := TX1) (N := 12) hx hb hts iwX1_number hown hK hP 0 rfl rfl 10 (by decide) (hts (.fieldLink RX1 59 "WordMachineModel" "x" "J") flX1_number_59) (fun _ h9 => h9) rfl dX1_number_251 ?_
                    refine lv_aload_n hx hb dX1_number_254 rfl (lv_at hl 0 rfl) ?_
                    refine va_get (D := D) (ci := 1) (v := .long (M_y u)) (C := RX1) (T := TX1) (N := 12) hx hb hts iwX1_number hown hK hP 0 rfl rfl 11 (by decide) (hts (.fieldLink RX1 63 "WordMachineModel" "y" "J") flX1_number_63) (fun _ h9 => h9) rfl dX1_number_255 ?_
                    refine pu_l (v := S1_made (M_t u) (M_s u) (M_x u) (M_y u)) (As := [.int (M_t u), .int (M_s u), .long (M_x u), .long (M_y u)]) (rest := [.int (M_d u), .ref h]) ⟨hx, hb, hml, hown, hts⟩ (c1_made l (M_t u) (M_s u) (M_x u) (M_y u) ) gX1_number_X1_made rfl hdX1_made ⟨Nat.le_of_ble_eq_true rfl, Nat.le_of_ble_eq_true rfl⟩ hl.1 rfl (Nat.le_of_ble_eq_true rfl) dX1_number_258 ⟨Nat.zero_le _, Nat.zero_le _⟩ hP hS (fun H locs hP hS => ?_)
                    refine in_v (As := [.int (M_d u), .long (S1_made (M_t u) (M_s u) (M_x u) (M_y u))]) (rest := []) (w1 := ww1 cI cJ cB h q1 q2 q3 (S1_give (M_d u) (S1_made (M_t u) (M_s u) (M_x u) (M_y u)) u)) ⟨hx, hb, hml, hown, hts⟩ (c1_give l hap (M_d u) (S1_made (M_t u) (M_s u) (M_x u) (M_y u)) u hd) gX1_number_X1_give rfl hdX1_give ⟨Nat.le_of_ble_eq_true rfl, Nat.le_of_ble_eq_true rfl⟩ hK rfl rfl hl.1 rfl (Nat.le_of_ble_eq_true rfl) dX1_number_261 ⟨Nat.zero_le _, Nat.zero_le _⟩ hP hS (fun _ h => h) (fun H locs hP hS _ _ => ?_)
                    refine lv_goto (tgt := 269) hx hb dX1_number_264 (by decide) ?_
                    refine lv_iconst (v := 0) hx hb dX1_number_269 (by decide) ?_
                    have e9 : S1_number oa wa u = ((0 : Int32), S1_give (M_d u) (S1_made (M_t u) (M_s u) (M_x u) (M_y u)) u) := by rw [S1_number, if_neg c1, if_neg c3, if_neg c4, if_pos c5, if_neg c6, if_neg c7, if_pos c8, if_neg c9, if_pos c10]
                    exact W.iret (v := (0 : Int32)) hx hb hr (fun t ht hW => ⟨⟨(0 : Int32), (), rfl, by rw [e9], by show va_P _ _ _ t.heap; rw [e9, ht]; exact hP⟩, hS.F ht⟩) hS.2.2 dX1_number_270
          · refine lv_aload_n hx hb dX1_number_191 rfl (lv_at hl 0 rfl) ?_
            refine lv_aload_n hx hb dX1_number_192 rfl (lv_at hl 0 rfl) ?_
            refine va_get (D := D) (ci := 1) (v := .int (M_d u)) (C := RX1) (T := TX1) (N := 12) hx hb hts iwX1_number hown hK hP 0 rfl rfl 6 (by decide) (hts (.fieldLink RX1 53 "WordMachineModel" "d" "I") flX1_number_53) (fun _ h9 => h9) rfl dX1_number_193 ?_
            refine lv_aload_n hx hb dX1_number_196 rfl (lv_at hl 0 rfl) ?_
            refine in_l (v := S1_product u) (As := []) (rest := [.int (M_d u), .ref h]) (w1 := ww1 cI cJ cB h q1 q2 q3 u) ⟨hx, hb, hml, hown, hts⟩ (c1_product l hap  u hy) gX1_number_X1_product rfl hdX1_product ⟨Nat.le_of_ble_eq_true rfl, Nat.le_of_ble_eq_true rfl⟩ hK rfl rfl hl.1 rfl (Nat.le_of_ble_eq_true rfl) dX1_number_197 ⟨Nat.zero_le _, Nat.zero_le _⟩ hP hS (fun _ h => h) (fun H locs hP hS _ _ => ?_)
            refine in_v (As := [.int (M_d u), .long (S1_product u)]) (rest := []) (w1 := ww1 cI cJ cB h q1 q2 q3 (S1_give (M_d u) (S1_product u) u)) ⟨hx, hb, hml, hown, hts⟩ (c1_give l hap (M_d u) (S1_product u) u hd) gX1_number_X1_give rfl hdX1_give ⟨Nat.le_of_ble_eq_true rfl, Nat.le_of_ble_eq_true rfl⟩ hK rfl rfl hl.1 rfl (Nat.le_of_ble_eq_true rfl) dX1_number_200 ⟨Nat.zero_le _, Nat.zero_le _⟩ hP hS (fun _ h => h) (fun H locs hP hS _ _ => ?_)
            refine lv_goto (tgt := 269) hx hb dX1_number_203 (by decide) ?_
            refine lv_iconst (v := 0) hx hb dX1_number_269 (by decide) ?_
            have e9 : S1_number oa wa u = ((0 : Int32), S1_give (M_d u) (S1_product u) u) := by rw [S1_number, if_neg c1, if_neg c3, if_neg c4, if_pos c5, if_pos c6]
            exact W.iret (v := (0 : Int32)) hx hb hr (fun t ht hW => ⟨⟨(0 : Int32), (), rfl, by rw [e9], by show va_P _ _ _ t.heap; rw [e9, ht]; exact hP⟩, hS.F ht⟩) hS.2.2 dX1_number_270
        · refine lv_iconst (v := 3) hx hb dX1_number_181 (by decide) ?_
          have e9 : S1_number oa wa u = ((3 : Int32), u) := by rw [S1_number, if_neg c1, if_neg c3, if_neg c4, if_neg c5]
          exact W.iret (v := (3 : Int32)) hx hb hr (fun t ht hW => ⟨⟨(3 : Int32), (), rfl, by rw [e9], by show va_P _ _ _ t.heap; rw [e9, ht]; exact hP⟩, hS.F ht⟩) hS.2.2 dX1_number_182
      · refine lv_iload_n hx hb dX1_number_53 rfl (lv_at hl 2 rfl) ?_
        refine lv_i2l (v := wa.toInt64) hx hb dX1_number_54 rfl ?_
        refine pu_l (v := S1_plain wa.toInt64) (As := [.long wa.toInt64]) (rest := []) ⟨hx, hb, hml, hown, hts⟩ (c1_plain l wa.toInt64 ) gX1_number_X1_plain rfl hdX1_plain ⟨Nat.le_of_ble_eq_true rfl, Nat.le_of_ble_eq_true rfl⟩ hl.1 rfl (Nat.le_of_ble_eq_true rfl) dX1_number_55 ⟨Nat.zero_le _, Nat.zero_le _⟩ hP hS (fun H locs hP hS => ?_)
        refine lv_bipush (v := 20) hx hb dX1_number_58 (by decide) ?_
        refine lv_lshr (v := l_shr (S1_plain wa.toInt64) 20) hx hb dX1_number_60 rfl ?_
        refine lv_l2i (v := (l_shr (S1_plain wa.toInt64) 20).toInt32) hx hb dX1_number_61 rfl ?_
        refine lv_bipush (v := 31) hx hb dX1_number_62 (by decide) ?_
        refine lv_iand hx hb dX1_number_64 ?_
        refine lv_istore_n (lv' := [(3, .int (((l_shr (S1_plain wa.toInt64) 20).toInt32) &&& 31)), (0, .ref h), (1, .int oa), (2, .int wa)]) hx hb dX1_number_65 rfl hl (by decide) rfl (fun ls hl => ?_)
        refine lv_aload_n hx hb dX1_number_66 rfl (lv_at hl 1 rfl) ?_
        refine va_get (D := D) (ci := 1) (v := .int (M_t u)) (C := RX1) (T := TX1) (N := 12) hx hb hts iwX1_number hown hK hP 0 rfl rfl 7 (by decide) (hts (.fieldLink RX1 56 "WordMachineModel" "t" "I") flX1_number_56) (fun _ h9 => h9) rfl dX1_number_67 ?_
        refine lv_iconst (v := 1) hx hb dX1_number_70 (by decide) ?_
        refine lv_icmp_eq (tgt := 82) hx hb dX1_number_71 (by decide) (fun (c11 : (M_t u) = 1) => ?_) (fun (c11 : ¬ (M_t u) = 1) => ?_)
        · refine lv_iconst (v := 1) hx hb dX1_number_82 (by decide) ?_
          refine lv_goto (tgt := 87) hx hb dX1_number_83 (by decide) ?_
          refine lv_istore (lv' := [(4, .int 1), (3, .int (((l_shr (S1_plain wa.toInt64) 20).toInt32) &&& 31)), (0, .ref h), (1, .int oa), (2, .int wa)]) hx hb dX1_number_87 hl (by decide) rfl (fun ls hl => ?_)
          refine lv_iload hx hb dX1_number_89 (lv_at hl 0 rfl) ?_
          refine lv_if_eq (tgt := 120) hx hb dX1_number_91 (by decide) (fun (c12 : (1 : Int32) = 0) => absurd c12 (by decide)) (fun _ => ?_)
          refine lv_aload_n hx hb dX1_number_94 rfl (lv_at hl 2 rfl) ?_
          refine va_get (D := D) (ci := 1) (v := .int (M_s u)) (C := RX1) (T := TX1) (N := 12) hx hb hts iwX1_number hown hK hP 0 rfl rfl 8 (by decide) (hts (.fieldLink RX1 66 "WordMachineModel" "s" "I") flX1_number_66) (fun _ h9 => h9) rfl dX1_number_95 ?_
          refine lv_if_eq (tgt := 120) hx hb dX1_number_98 (by decide) (fun (c13 : (M_s u) = 0) => ?_) (fun (c13 : ¬ (M_s u) = 0) => ?_)
          · refine lv_aload_n hx hb dX1_number_120 rfl (lv_at hl 2 rfl) ?_
            refine lv_aload_n hx hb dX1_number_121 rfl (lv_at hl 2 rfl) ?_
            refine va_get (D := D) (ci := 1) (v := .int (M_d u)) (C := RX1) (T := TX1) (N := 12) hx hb hts iwX1_number hown hK hP 0 rfl rfl 6 (by decide) (hts (.fieldLink RX1 53 "WordMachineModel" "d" "I") flX1_number_53) (fun _ h9 => h9) rfl dX1_number_122 ?_
            refine lv_iload hx hb dX1_number_125 (lv_at hl 0 rfl) ?_
            refine lv_if_eq (tgt := 150) hx hb dX1_number_127 (by decide) (fun (c14 : (1 : Int32) = 0) => absurd c14 (by decide)) (fun _ => ?_)
            refine lv_aload_n hx hb dX1_number_130 rfl (lv_at hl 2 rfl) ?_
            refine va_get (D := D) (ci := 1) (v := .int (M_t u)) (C := RX1) (T := TX1) (N := 12) hx hb hts iwX1_number hown hK hP 0 rfl rfl 7 (by decide) (hts (.fieldLink RX1 56 "WordMachineModel" "t" "I") flX1_number_56) (fun _ h9 => h9) rfl dX1_number_131 ?_
            refine lv_aload_n hx hb dX1_number_134 rfl (lv_at hl 2 rfl) ?_
            refine va_get (D := D) (ci := 1) (v := .int (M_s u)) (C := RX1) (T := TX1) (N := 12) hx hb hts iwX1_number hown hK hP 0 rfl rfl 8 (by decide) (hts (.fieldLink RX1 66 "WordMachineModel" "s" "I") flX1_number_66) (fun _ h9 => h9) rfl dX1_number_135 ?_
            refine lv_aload_n hx hb dX1_number_138 rfl (lv_at hl 2 rfl) ?_
            refine va_get (D := D) (ci := 1) (v := .long (M_x u)) (C := RX1) (T := TX1) (N := 12) hx hb hts iwX1_number hown hK hP 0 rfl rfl 10 (by decide) (hts (.fieldLink RX1 59 "WordMachineModel" "x" "J") flX1_number_59) (fun _ h9 => h9) rfl dX1_number_139 ?_
            refine lv_iload_n hx hb dX1_number_142 rfl (lv_at hl 1 rfl) ?_
            refine lv_i2l (v := (((l_shr (S1_plain wa.toInt64) 20).toInt32) &&& 31).toInt64) hx hb dX1_number_143 rfl ?_
            refine pu_l (v := S1_made (M_t u) (M_s u) (M_x u) ((((l_shr (S1_plain wa.toInt64) 20).toInt32) &&& 31).toInt64)) (As := [.int (M_t u), .int (M_s u), .long (M_x u), .long ((((l_shr (S1_plain wa.toInt64) 20).toInt32) &&& 31).toInt64)]) (rest := [.int (M_d u), .ref h]) ⟨hx, hb, hml, hown, hts⟩ (c1_made l (M_t u) (M_s u) (M_x u) ((((l_shr (S1_plain wa.toInt64) 20).toInt32) &&& 31).toInt64) ) gX1_number_X1_made rfl hdX1_made ⟨Nat.le_of_ble_eq_true rfl, Nat.le_of_ble_eq_true rfl⟩ hl.1 rfl (Nat.le_of_ble_eq_true rfl) dX1_number_144 ⟨Nat.zero_le _, Nat.zero_le _⟩ hP hS (fun H locs hP hS => ?_)
            refine lv_goto (tgt := 170) hx hb dX1_number_147 (by decide) ?_
            refine in_v (As := [.int (M_d u), .long (S1_made (M_t u) (M_s u) (M_x u) ((((l_shr (S1_plain wa.toInt64) 20).toInt32) &&& 31).toInt64))]) (rest := []) (w1 := ww1 cI cJ cB h q1 q2 q3 (S1_give (M_d u) (S1_made (M_t u) (M_s u) (M_x u) ((((l_shr (S1_plain wa.toInt64) 20).toInt32) &&& 31).toInt64)) u)) ⟨hx, hb, hml, hown, hts⟩ (c1_give l hap (M_d u) (S1_made (M_t u) (M_s u) (M_x u) ((((l_shr (S1_plain wa.toInt64) 20).toInt32) &&& 31).toInt64)) u hd) gX1_number_X1_give rfl hdX1_give ⟨Nat.le_of_ble_eq_true rfl, Nat.le_of_ble_eq_true rfl⟩ hK rfl rfl hl.1 rfl (Nat.le_of_ble_eq_true rfl) dX1_number_170 ⟨Nat.zero_le _, Nat.zero_le _⟩ hP hS (fun _ h => h) (fun H locs hP hS _ _ => ?_)
            refine lv_iconst (v := 0) hx hb dX1_number_173 (by decide) ?_
            have e9 : S1_number oa wa u = ((0 : Int32), S1_give (M_d u) (S1_made (M_t u) (M_s u) (M_x u) ((((l_shr (S1_plain wa.toInt64) 20).toInt32) &&& 31).toInt64)) u) := by rw [S1_number, if_neg c1, if_neg c3, if_pos c4, if_pos c11, if_pos c13]
            exact W.iret (v := (0 : Int32)) hx hb hr (fun t ht hW => ⟨⟨(0 : Int32), (), rfl, by rw [e9], by show va_P _ _ _ t.heap; rw [e9, ht]; exact hP⟩, hS.F ht⟩) hS.2.2 dX1_number_174
          · refine lv_aload_n hx hb dX1_number_101 rfl (lv_at hl 2 rfl) ?_
            refine va_get (D := D) (ci := 1) (v := .int (M_t u)) (C := RX1) (T := TX1) (N := 12) hx hb hts iwX1_number hown hK hP 0 rfl rfl 7 (by decide) (hts (.fieldLink RX1 56 "WordMachineModel" "t" "I") flX1_number_56) (fun _ h9 => h9) rfl dX1_number_102 ?_
            refine lv_iconst (v := 5) hx hb dX1_number_105 (by decide) ?_
            refine lv_icmp_ne (tgt := 118) hx hb dX1_number_106 (by decide) (fun (c15 : ¬ (M_t u) = 5) => ?_) (fun (c15 : (M_t u) = 5) => ?_)
            · refine lv_iconst (v := 3) hx hb dX1_number_118 (by decide) ?_
              have e9 : S1_number oa wa u = ((3 : Int32), u) := by rw [S1_number, if_neg c1, if_neg c3, if_pos c4, if_pos c11, if_neg c13, if_neg c15]
              exact W.iret (v := (3 : Int32)) hx hb hr (fun t ht hW => ⟨⟨(3 : Int32), (), rfl, by rw [e9], by show va_P _ _ _ t.heap; rw [e9, ht]; exact hP⟩, hS.F ht⟩) hS.2.2 dX1_number_119
            · refine lv_aload_n hx hb dX1_number_109 rfl (lv_at hl 2 rfl) ?_
              refine va_get (D := D) (ci := 1) (v := .int (M_s u)) (C := RX1) (T := TX1) (N := 12) hx hb hts iwX1_number hown hK hP 0 rfl rfl 8 (by decide) (hts (.fieldLink RX1 66 "WordMachineModel" "s" "I") flX1_number_66) (fun _ h9 => h9) rfl dX1_number_110 ?_
              refine lv_bipush (v := 32) hx hb dX1_number_113 (by decide) ?_
              refine lv_icmp_eq (tgt := 120) hx hb dX1_number_115 (by decide) (fun (c16 : (M_s u) = 32) => ?_) (fun (c16 : ¬ (M_s u) = 32) => ?_)
              · refine lv_aload_n hx hb dX1_number_120 rfl (lv_at hl 2 rfl) ?_
                refine lv_aload_n hx hb dX1_number_121 rfl (lv_at hl 2 rfl) ?_
                refine va_get (D := D) (ci := 1) (v := .int (M_d u)) (C := RX1) (T := TX1) (N := 12) hx hb hts iwX1_number hown hK hP 0 rfl rfl 6 (by decide) (hts (.fieldLink RX1 53 "WordMachineModel" "d" "I") flX1_number_53) (fun _ h9 => h9) rfl dX1_number_122 ?_
                refine lv_iload hx hb dX1_number_125 (lv_at hl 0 rfl) ?_
                refine lv_if_eq (tgt := 150) hx hb dX1_number_127 (by decide) (fun (c17 : (1 : Int32) = 0) => absurd c17 (by decide)) (fun _ => ?_)
                refine lv_aload_n hx hb dX1_number_130 rfl (lv_at hl 2 rfl) ?_
                refine va_get (D := D) (ci := 1) (v := .int (M_t u)) (C := RX1) (T := TX1) (N := 12) hx hb hts iwX1_number hown hK hP 0 rfl rfl 7 (by decide) (hts (.fieldLink RX1 56 "WordMachineModel" "t" "I") flX1_number_56) (fun _ h9 => h9) rfl dX1_number_131 ?_
                refine lv_aload_n hx hb dX1_number_134 rfl (lv_at hl 2 rfl) ?_
                refine va_get (D := D) (ci := 1) (v := .int (M_s u)) (C := RX1) (T := TX1) (N := 12) hx hb hts iwX1_number hown hK hP 0 rfl rfl 8 (by decide) (hts (.fieldLink RX1 66 "WordMachineModel" "s" "I") flX1_number_66) (fun _ h9 => h9) rfl dX1_number_135 ?_
                refine lv_aload_n hx hb dX1_number_138 rfl (lv_at hl 2 rfl) ?_
                refine va_get (D := D) (ci := 1) (v := .long (M_x u)) (C := RX1) (T := TX1) (N := 12) hx hb hts iwX1_number hown hK hP 0 rfl rfl 10 (by decide) (hts (.fieldLink RX1 59 "WordMachineModel" "x" "J") flX1_number_59) (fun _ h9 => h9) rfl dX1_number_139 ?_
                refine lv_iload_n hx hb dX1_number_142 rfl (lv_at hl 1 rfl) ?_
                refine lv_i2l (v := (((l_shr (S1_plain wa.toInt64) 20).toInt32) &&& 31).toInt64) hx hb dX1_number_143 rfl ?_
                refine pu_l (v := S1_made (M_t u) (M_s u) (M_x u) ((((l_shr (S1_plain wa.toInt64) 20).toInt32) &&& 31).toInt64)) (As := [.int (M_t u), .int (M_s u), .long (M_x u), .long ((((l_shr (S1_plain wa.toInt64) 20).toInt32) &&& 31).toInt64)]) (rest := [.int (M_d u), .ref h]) ⟨hx, hb, hml, hown, hts⟩ (c1_made l (M_t u) (M_s u) (M_x u) ((((l_shr (S1_plain wa.toInt64) 20).toInt32) &&& 31).toInt64) ) gX1_number_X1_made rfl hdX1_made ⟨Nat.le_of_ble_eq_true rfl, Nat.le_of_ble_eq_true rfl⟩ hl.1 rfl (Nat.le_of_ble_eq_true rfl) dX1_number_144 ⟨Nat.zero_le _, Nat.zero_le _⟩ hP hS (fun H locs hP hS => ?_)
                refine lv_goto (tgt := 170) hx hb dX1_number_147 (by decide) ?_
                refine in_v (As := [.int (M_d u), .long (S1_made (M_t u) (M_s u) (M_x u) ((((l_shr (S1_plain wa.toInt64) 20).toInt32) &&& 31).toInt64))]) (rest := []) (w1 := ww1 cI cJ cB h q1 q2 q3 (S1_give (M_d u) (S1_made (M_t u) (M_s u) (M_x u) ((((l_shr (S1_plain wa.toInt64) 20).toInt32) &&& 31).toInt64)) u)) ⟨hx, hb, hml, hown, hts⟩ (c1_give l hap (M_d u) (S1_made (M_t u) (M_s u) (M_x u) ((((l_shr (S1_plain wa.toInt64) 20).toInt32) &&& 31).toInt64)) u hd) gX1_number_X1_give rfl hdX1_give ⟨Nat.le_of_ble_eq_true rfl, Nat.le_of_ble_eq_true rfl⟩ hK rfl rfl hl.1 rfl (Nat.le_of_ble_eq_true rfl) dX1_number_170 ⟨Nat.zero_le _, Nat.zero_le _⟩ hP hS (fun _ h => h) (fun H locs hP hS _ _ => ?_)
                refine lv_iconst (v := 0) hx hb dX1_number_173 (by decide) ?_
                have e9 : S1_number oa wa u = ((0 : Int32), S1_give (M_d u) (S1_made (M_t u) (M_s u) (M_x u) ((((l_shr (S1_plain wa.toInt64) 20).toInt32) &&& 31).toInt64)) u) := by rw [S1_number, if_neg c1, if_neg c3, if_pos c4, if_pos c11, if_neg c13, if_pos c15, if_pos c16]
                exact W.iret (v := (0 : Int32)) hx hb hr (fun t ht hW => ⟨⟨(0 : Int32), (), rfl, by rw [e9], by show va_P _ _ _ t.heap; rw [e9, ht]; exact hP⟩, hS.F ht⟩) hS.2.2 dX1_number_174
              · refine lv_iconst (v := 3) hx hb dX1_number_118 (by decide) ?_
                have e9 : S1_number oa wa u = ((3 : Int32), u) := by rw [S1_number, if_neg c1, if_neg c3, if_pos c4, if_pos c11, if_neg c13, if_pos c15, if_neg c16]
                exact W.iret (v := (3 : Int32)) hx hb hr (fun t ht hW => ⟨⟨(3 : Int32), (), rfl, by rw [e9], by show va_P _ _ _ t.heap; rw [e9, ht]; exact hP⟩, hS.F ht⟩) hS.2.2 dX1_number_119
        · refine lv_aload_n hx hb dX1_number_74 rfl (lv_at hl 1 rfl) ?_
          refine va_get (D := D) (ci := 1) (v := .int (M_t u)) (C := RX1) (T := TX1) (N := 12) hx hb hts iwX1_number hown hK hP 0 rfl rfl 7 (by decide) (hts (.fieldLink RX1 56 "WordMachineModel" "t" "I") flX1_number_56) (fun _ h9 => h9) rfl dX1_number_75 ?_
          refine lv_iconst (v := 5) hx hb dX1_number_78 (by decide) ?_
          refine lv_icmp_ne (tgt := 86) hx hb dX1_number_79 (by decide) (fun (c18 : ¬ (M_t u) = 5) => ?_) (fun (c18 : (M_t u) = 5) => ?_)
          · refine lv_iconst (v := 0) hx hb dX1_number_86 (by decide) ?_
            refine lv_istore (lv' := [(4, .int 0), (3, .int (((l_shr (S1_plain wa.toInt64) 20).toInt32) &&& 31)), (0, .ref h), (1, .int oa), (2, .int wa)]) hx hb dX1_number_87 hl (by decide) rfl (fun ls hl => ?_)
            refine lv_iload hx hb dX1_number_89 (lv_at hl 0 rfl) ?_
            refine lv_if_eq (tgt := 120) hx hb dX1_number_91 (by decide) (fun _ => ?_) (fun (c19 : ¬ (0 : Int32) = 0) => absurd c19 (by decide))
            refine lv_aload_n hx hb dX1_number_120 rfl (lv_at hl 2 rfl) ?_
            refine lv_aload_n hx hb dX1_number_121 rfl (lv_at hl 2 rfl) ?_
            refine va_get (D := D) (ci := 1) (v := .int (M_d u)) (C := RX1) (T := TX1) (N := 12) hx hb hts iwX1_number hown hK hP 0 rfl rfl 6 (by decide) (hts (.fieldLink RX1 53 "WordMachineModel" "d" "I") flX1_number_53) (fun _ h9 => h9) rfl dX1_number_122 ?_
            refine lv_iload hx hb dX1_number_125 (lv_at hl 0 rfl) ?_
            refine lv_if_eq (tgt := 150) hx hb dX1_number_127 (by decide) (fun _ => ?_) (fun (c20 : ¬ (0 : Int32) = 0) => absurd c20 (by decide))
            refine lv_aload_n hx hb dX1_number_150 rfl (lv_at hl 2 rfl) ?_
            refine va_get (D := D) (ci := 1) (v := .int (M_t u)) (C := RX1) (T := TX1) (N := 12) hx hb hts iwX1_number hown hK hP 0 rfl rfl 7 (by decide) (hts (.fieldLink RX1 56 "WordMachineModel" "t" "I") flX1_number_56) (fun _ h9 => h9) rfl dX1_number_151 ?_
            refine lv_iconst (v := 0) hx hb dX1_number_154 (by decide) ?_
            refine lv_aload_n hx hb dX1_number_155 rfl (lv_at hl 2 rfl) ?_
            refine va_get (D := D) (ci := 1) (v := .long (M_x u)) (C := RX1) (T := TX1) (N := 12) hx hb hts iwX1_number hown hK hP 0 rfl rfl 10 (by decide) (hts (.fieldLink RX1 59 "WordMachineModel" "x" "J") flX1_number_59) (fun _ h9 => h9) rfl dX1_number_156 ?_
            refine lv_aload_n hx hb dX1_number_159 rfl (lv_at hl 2 rfl) ?_
            refine va_get (D := D) (ci := 1) (v := .int (M_im u)) (C := RX1) (T := TX1) (N := 12) hx hb hts iwX1_number hown hK hP 0 rfl rfl 9 (by decide) (hts (.fieldLink RX1 73 "WordMachineModel" "immediate" "I") flX1_number_73) (fun _ h9 => h9) rfl dX1_number_160 ?_
            refine lv_i2l (v := (M_im u).toInt64) hx hb dX1_number_163 rfl ?_
            refine pu_l (v := S1_plain ((M_im u).toInt64)) (As := [.long ((M_im u).toInt64)]) (rest := [.long (M_x u), .int 0, .int (M_t u), .int (M_d u), .ref h]) ⟨hx, hb, hml, hown, hts⟩ (c1_plain l ((M_im u).toInt64) ) gX1_number_X1_plain rfl hdX1_plain ⟨Nat.le_of_ble_eq_true rfl, Nat.le_of_ble_eq_true rfl⟩ hl.1 rfl (Nat.le_of_ble_eq_true rfl) dX1_number_164 ⟨Nat.zero_le _, Nat.zero_le _⟩ hP hS (fun H locs hP hS => ?_)
            refine pu_l (v := S1_made (M_t u) (0) (M_x u) (S1_plain ((M_im u).toInt64))) (As := [.int (M_t u), .int 0, .long (M_x u), .long (S1_plain ((M_im u).toInt64))]) (rest := [.int (M_d u), .ref h]) ⟨hx, hb, hml, hown, hts⟩ (c1_made l (M_t u) (0) (M_x u) (S1_plain ((M_im u).toInt64)) ) gX1_number_X1_made rfl hdX1_made ⟨Nat.le_of_ble_eq_true rfl, Nat.le_of_ble_eq_true rfl⟩ hl.1 rfl (Nat.le_of_ble_eq_true rfl) dX1_number_167 ⟨Nat.zero_le _, Nat.zero_le _⟩ hP hS (fun H locs hP hS => ?_)
            refine in_v (As := [.int (M_d u), .long (S1_made (M_t u) (0) (M_x u) (S1_plain ((M_im u).toInt64)))]) (rest := []) (w1 := ww1 cI cJ cB h q1 q2 q3 (S1_give (M_d u) (S1_made (M_t u) (0) (M_x u) (S1_plain ((M_im u).toInt64))) u)) ⟨hx, hb, hml, hown, hts⟩ (c1_give l hap (M_d u) (S1_made (M_t u) (0) (M_x u) (S1_plain ((M_im u).toInt64))) u hd) gX1_number_X1_give rfl hdX1_give ⟨Nat.le_of_ble_eq_true rfl, Nat.le_of_ble_eq_true rfl⟩ hK rfl rfl hl.1 rfl (Nat.le_of_ble_eq_true rfl) dX1_number_170 ⟨Nat.zero_le _, Nat.zero_le _⟩ hP hS (fun _ h => h) (fun H locs hP hS _ _ => ?_)
            refine lv_iconst (v := 0) hx hb dX1_number_173 (by decide) ?_
            have e9 : S1_number oa wa u = ((0 : Int32), S1_give (M_d u) (S1_made (M_t u) (0) (M_x u) (S1_plain ((M_im u).toInt64))) u) := by rw [S1_number, if_neg c1, if_neg c3, if_pos c4, if_neg c11, if_neg c18]
            exact W.iret (v := (0 : Int32)) hx hb hr (fun t ht hW => ⟨⟨(0 : Int32), (), rfl, by rw [e9], by show va_P _ _ _ t.heap; rw [e9, ht]; exact hP⟩, hS.F ht⟩) hS.2.2 dX1_number_174
          · refine lv_iconst (v := 1) hx hb dX1_number_82 (by decide) ?_
            refine lv_goto (tgt := 87) hx hb dX1_number_83 (by decide) ?_
            refine lv_istore (lv' := [(4, .int 1), (3, .int (((l_shr (S1_plain wa.toInt64) 20).toInt32) &&& 31)), (0, .ref h), (1, .int oa), (2, .int wa)]) hx hb dX1_number_87 hl (by decide) rfl (fun ls hl => ?_)
            refine lv_iload hx hb dX1_number_89 (lv_at hl 0 rfl) ?_
            refine lv_if_eq (tgt := 120) hx hb dX1_number_91 (by decide) (fun (c21 : (1 : Int32) = 0) => absurd c21 (by decide)) (fun _ => ?_)
            refine lv_aload_n hx hb dX1_number_94 rfl (lv_at hl 2 rfl) ?_
            refine va_get (D := D) (ci := 1) (v := .int (M_s u)) (C := RX1) (T := TX1) (N := 12) hx hb hts iwX1_number hown hK hP 0 rfl rfl 8 (by decide) (hts (.fieldLink RX1 66 "WordMachineModel" "s" "I") flX1_number_66) (fun _ h9 => h9) rfl dX1_number_95 ?_
            refine lv_if_eq (tgt := 120) hx hb dX1_number_98 (by decide) (fun (c22 : (M_s u) = 0) => ?_) (fun (c22 : ¬ (M_s u) = 0) => ?_)
            · refine lv_aload_n hx hb dX1_number_120 rfl (lv_at hl 2 rfl) ?_
              refine lv_aload_n hx hb dX1_number_121 rfl (lv_at hl 2 rfl) ?_
              refine va_get (D := D) (ci := 1) (v := .int (M_d u)) (C := RX1) (T := TX1) (N := 12) hx hb hts iwX1_number hown hK hP 0 rfl rfl 6 (by decide) (hts (.fieldLink RX1 53 "WordMachineModel" "d" "I") flX1_number_53) (fun _ h9 => h9) rfl dX1_number_122 ?_
              refine lv_iload hx hb dX1_number_125 (lv_at hl 0 rfl) ?_
              refine lv_if_eq (tgt := 150) hx hb dX1_number_127 (by decide) (fun (c23 : (1 : Int32) = 0) => absurd c23 (by decide)) (fun _ => ?_)
              refine lv_aload_n hx hb dX1_number_130 rfl (lv_at hl 2 rfl) ?_
              refine va_get (D := D) (ci := 1) (v := .int (M_t u)) (C := RX1) (T := TX1) (N := 12) hx hb hts iwX1_number hown hK hP 0 rfl rfl 7 (by decide) (hts (.fieldLink RX1 56 "WordMachineModel" "t" "I") flX1_number_56) (fun _ h9 => h9) rfl dX1_number_131 ?_
              refine lv_aload_n hx hb dX1_number_134 rfl (lv_at hl 2 rfl) ?_
              refine va_get (D := D) (ci := 1) (v := .int (M_s u)) (C := RX1) (T := TX1) (N := 12) hx hb hts iwX1_number hown hK hP 0 rfl rfl 8 (by decide) (hts (.fieldLink RX1 66 "WordMachineModel" "s" "I") flX1_number_66) (fun _ h9 => h9) rfl dX1_number_135 ?_
              refine lv_aload_n hx hb dX1_number_138 rfl (lv_at hl 2 rfl) ?_
              refine va_get (D := D) (ci := 1) (v := .long (M_x u)) (C := RX1) (T := TX1) (N := 12) hx hb hts iwX1_number hown hK hP 0 rfl rfl 10 (by decide) (hts (.fieldLink RX1 59 "WordMachineModel" "x" "J") flX1_number_59) (fun _ h9 => h9) rfl dX1_number_139 ?_
              refine lv_iload_n hx hb dX1_number_142 rfl (lv_at hl 1 rfl) ?_
              refine lv_i2l (v := (((l_shr (S1_plain wa.toInt64) 20).toInt32) &&& 31).toInt64) hx hb dX1_number_143 rfl ?_
              refine pu_l (v := S1_made (M_t u) (M_s u) (M_x u) ((((l_shr (S1_plain wa.toInt64) 20).toInt32) &&& 31).toInt64)) (As := [.int (M_t u), .int (M_s u), .long (M_x u), .long ((((l_shr (S1_plain wa.toInt64) 20).toInt32) &&& 31).toInt64)]) (rest := [.int (M_d u), .ref h]) ⟨hx, hb, hml, hown, hts⟩ (c1_made l (M_t u) (M_s u) (M_x u) ((((l_shr (S1_plain wa.toInt64) 20).toInt32) &&& 31).toInt64) ) gX1_number_X1_made rfl hdX1_made ⟨Nat.le_of_ble_eq_true rfl, Nat.le_of_ble_eq_true rfl⟩ hl.1 rfl (Nat.le_of_ble_eq_true rfl) dX1_number_144 ⟨Nat.zero_le _, Nat.zero_le _⟩ hP hS (fun H locs hP hS => ?_)
              refine lv_goto (tgt := 170) hx hb dX1_number_147 (by decide) ?_
              refine in_v (As := [.int (M_d u), .long (S1_made (M_t u) (M_s u) (M_x u) ((((l_shr (S1_plain wa.toInt64) 20).toInt32) &&& 31).toInt64))]) (rest := []) (w1 := ww1 cI cJ cB h q1 q2 q3 (S1_give (M_d u) (S1_made (M_t u) (M_s u) (M_x u) ((((l_shr (S1_plain wa.toInt64) 20).toInt32) &&& 31).toInt64)) u)) ⟨hx, hb, hml, hown, hts⟩ (c1_give l hap (M_d u) (S1_made (M_t u) (M_s u) (M_x u) ((((l_shr (S1_plain wa.toInt64) 20).toInt32) &&& 31).toInt64)) u hd) gX1_number_X1_give rfl hdX1_give ⟨Nat.le_of_ble_eq_true rfl, Nat.le_of_ble_eq_true rfl⟩ hK rfl rfl hl.1 rfl (Nat.le_of_ble_eq_true rfl) dX1_number_170 ⟨Nat.zero_le _, Nat.zero_le _⟩ hP hS (fun _ h => h) (fun H locs hP hS _ _ => ?_)
              refine lv_iconst (v := 0) hx hb dX1_number_173 (by decide) ?_
              have e9 : S1_number oa wa u = ((0 : Int32), S1_give (M_d u) (S1_made (M_t u) (M_s u) (M_x u) ((((l_shr (S1_plain wa.toInt64) 20).toInt32) &&& 31).toInt64)) u) := by rw [S1_number, if_neg c1, if_neg c3, if_pos c4, if_neg c11, if_pos c18, if_pos c22]
              exact W.iret (v := (0 : Int32)) hx hb hr (fun t ht hW => ⟨⟨(0 : Int32), (), rfl, by rw [e9], by show va_P _ _ _ t.heap; rw [e9, ht]; exact hP⟩, hS.F ht⟩) hS.2.2 dX1_number_174
            · refine lv_aload_n hx hb dX1_number_101 rfl (lv_at hl 2 rfl) ?_
              refine va_get (D := D) (ci := 1) (v := .int (M_t u)) (C := RX1) (T := TX1) (N := 12) hx hb hts iwX1_number hown hK hP 0 rfl rfl 7 (by decide) (hts (.fieldLink RX1 56 "WordMachineModel" "t" "I") flX1_number_56) (fun _ h9 => h9) rfl dX1_number_102 ?_
              refine lv_iconst (v := 5) hx hb dX1_number_105 (by decide) ?_
              refine lv_icmp_ne (tgt := 118) hx hb dX1_number_106 (by decide) (fun (c24 : ¬ (M_t u) = 5) => ?_) (fun (c24 : (M_t u) = 5) => ?_)
              · refine lv_iconst (v := 3) hx hb dX1_number_118 (by decide) ?_
                have e9 : S1_number oa wa u = ((3 : Int32), u) := by rw [S1_number, if_neg c1, if_neg c3, if_pos c4, if_neg c11, if_pos c18, if_neg c22, if_neg c24]
                exact W.iret (v := (3 : Int32)) hx hb hr (fun t ht hW => ⟨⟨(3 : Int32), (), rfl, by rw [e9], by show va_P _ _ _ t.heap; rw [e9, ht]; exact hP⟩, hS.F ht⟩) hS.2.2 dX1_number_119
              · refine lv_aload_n hx hb dX1_number_109 rfl (lv_at hl 2 rfl) ?_
                refine va_get (D := D) (ci := 1) (v := .int (M_s u)) (C := RX1) (T := TX1) (N := 12) hx hb hts iwX1_number hown hK hP 0 rfl rfl 8 (by decide) (hts (.fieldLink RX1 66 "WordMachineModel" "s" "I") flX1_number_66) (fun _ h9 => h9) rfl dX1_number_110 ?_
                refine lv_bipush (v := 32) hx hb dX1_number_113 (by decide) ?_
                refine lv_icmp_eq (tgt := 120) hx hb dX1_number_115 (by decide) (fun (c25 : (M_s u) = 32) => ?_) (fun (c25 : ¬ (M_s u) = 32) => ?_)
                · refine lv_aload_n hx hb dX1_number_120 rfl (lv_at hl 2 rfl) ?_
                  refine lv_aload_n hx hb dX1_number_121 rfl (lv_at hl 2 rfl) ?_
                  refine va_get (D := D) (ci := 1) (v := .int (M_d u)) (C := RX1) (T := TX1) (N := 12) hx hb hts iwX1_number hown hK hP 0 rfl rfl 6 (by decide) (hts (.fieldLink RX1 53 "WordMachineModel" "d" "I") flX1_number_53) (fun _ h9 => h9) rfl dX1_number_122 ?_
                  refine lv_iload hx hb dX1_number_125 (lv_at hl 0 rfl) ?_
                  refine lv_if_eq (tgt := 150) hx hb dX1_number_127 (by decide) (fun (c26 : (1 : Int32) = 0) => absurd c26 (by decide)) (fun _ => ?_)
                  refine lv_aload_n hx hb dX1_number_130 rfl (lv_at hl 2 rfl) ?_
                  refine va_get (D := D) (ci := 1) (v := .int (M_t u)) (C := RX1) (T := TX1) (N := 12) hx hb hts iwX1_number hown hK hP 0 rfl rfl 7 (by decide) (hts (.fieldLink RX1 56 "WordMachineModel" "t" "I") flX1_number_56) (fun _ h9 => h9) rfl dX1_number_131 ?_
                  refine lv_aload_n hx hb dX1_number_134 rfl (lv_at hl 2 rfl) ?_
                  refine va_get (D := D) (ci := 1) (v := .int (M_s u)) (C := RX1) (T := TX1) (N := 12) hx hb hts iwX1_number hown hK hP 0 rfl rfl 8 (by decide) (hts (.fieldLink RX1 66 "WordMachineModel" "s" "I") flX1_number_66) (fun _ h9 => h9) rfl dX1_number_135 ?_
                  refine lv_aload_n hx hb dX1_number_138 rfl (lv_at hl 2 rfl) ?_
                  refine va_get (D := D) (ci := 1) (v := .long (M_x u)) (C := RX1) (T := TX1) (N := 12) hx hb hts iwX1_number hown hK hP 0 rfl rfl 10 (by decide) (hts (.fieldLink RX1 59 "WordMachineModel" "x" "J") flX1_number_59) (fun _ h9 => h9) rfl dX1_number_139 ?_
                  refine lv_iload_n hx hb dX1_number_142 rfl (lv_at hl 1 rfl) ?_
                  refine lv_i2l (v := (((l_shr (S1_plain wa.toInt64) 20).toInt32) &&& 31).toInt64) hx hb dX1_number_143 rfl ?_
                  refine pu_l (v := S1_made (M_t u) (M_s u) (M_x u) ((((l_shr (S1_plain wa.toInt64) 20).toInt32) &&& 31).toInt64)) (As := [.int (M_t u), .int (M_s u), .long (M_x u), .long ((((l_shr (S1_plain wa.toInt64) 20).toInt32) &&& 31).toInt64)]) (rest := [.int (M_d u), .ref h]) ⟨hx, hb, hml, hown, hts⟩ (c1_made l (M_t u) (M_s u) (M_x u) ((((l_shr (S1_plain wa.toInt64) 20).toInt32) &&& 31).toInt64) ) gX1_number_X1_made rfl hdX1_made ⟨Nat.le_of_ble_eq_true rfl, Nat.le_of_ble_eq_true rfl⟩ hl.1 rfl (Nat.le_of_ble_eq_true rfl) dX1_number_144 ⟨Nat.zero_le _, Nat.zero_le _⟩ hP hS (fun H locs hP hS => ?_)
                  refine lv_goto (tgt := 170) hx hb dX1_number_147 (by decide) ?_
                  refine in_v (As := [.int (M_d u), .long (S1_made (M_t u) (M_s u) (M_x u) ((((l_shr (S1_plain wa.toInt64) 20).toInt32) &&& 31).toInt64))]) (rest := []) (w1 := ww1 cI cJ cB h q1 q2 q3 (S1_give (M_d u) (S1_made (M_t u) (M_s u) (M_x u) ((((l_shr (S1_plain wa.toInt64) 20).toInt32) &&& 31).toInt64)) u)) ⟨hx, hb, hml, hown, hts⟩ (c1_give l hap (M_d u) (S1_made (M_t u) (M_s u) (M_x u) ((((l_shr (S1_plain wa.toInt64) 20).toInt32) &&& 31).toInt64)) u hd) gX1_number_X1_give rfl hdX1_give ⟨Nat.le_of_ble_eq_true rfl, Nat.le_of_ble_eq_true rfl⟩ hK rfl rfl hl.1 rfl (Nat.le_of_ble_eq_true rfl) dX1_number_170 ⟨Nat.zero_le _, Nat.zero_le _⟩ hP hS (fun _ h => h) (fun H locs hP hS _ _ => ?_)
                  refine lv_iconst (v := 0) hx hb dX1_number_173 (by decide) ?_
                  have e9 : S1_number oa wa u = ((0 : Int32), S1_give (M_d u) (S1_made (M_t u) (M_s u) (M_x u) ((((l_shr (S1_plain wa.toInt64) 20).toInt32) &&& 31).toInt64)) u) := by rw [S1_number, if_neg c1, if_neg c3, if_pos c4, if_neg c11, if_pos c18, if_neg c22, if_pos c24, if_pos c25]
                  exact W.iret (v := (0 : Int32)) hx hb hr (fun t ht hW => ⟨⟨(0 : Int32), (), rfl, by rw [e9], by show va_P _ _ _ t.heap; rw [e9, ht]; exact hP⟩, hS.F ht⟩) hS.2.2 dX1_number_174
                · refine lv_iconst (v := 3) hx hb dX1_number_118 (by decide) ?_
                  have e9 : S1_number oa wa u = ((3 : Int32), u) := by rw [S1_number, if_neg c1, if_neg c3, if_pos c4, if_neg c11, if_pos c18, if_neg c22, if_pos c24, if_neg c25]
                  exact W.iret (v := (3 : Int32)) hx hb hr (fun t ht hW => ⟨⟨(3 : Int32), (), rfl, by rw [e9], by show va_P _ _ _ t.heap; rw [e9, ht]; exact hP⟩, hS.F ht⟩) hS.2.2 dX1_number_119
    · refine lv_aload_n hx hb dX1_number_12 rfl (lv_at hl 0 rfl) ?_
      refine lv_aload_n hx hb dX1_number_13 rfl (lv_at hl 0 rfl) ?_
      refine va_get (D := D) (ci := 1) (v := .int (M_d u)) (C := RX1) (T := TX1) (N := 12) hx hb hts iwX1_number hown hK hP 0 rfl rfl 6 (by decide) (hts (.fieldLink RX1 53 "WordMachineModel" "d" "I") flX1_number_53) (fun _ h9 => h9) rfl dX1_number_14 ?_
      refine lv_iload_n hx hb dX1_number_17 rfl (lv_at hl 2 rfl) ?_
      refine lv_bipush (v := 12) hx hb dX1_number_18 (by decide) ?_
      refine lv_ishr hx hb dX1_number_20 ?_
      refine lv_i2l (v := (wa >>> ((12 : Int32) &&& 31)).toInt64) hx hb dX1_number_21 rfl ?_
      refine lv_ldc2 hx hb hown (hts (.constantLong RX1 96 (4096)) ctX1_number_96) dX1_number_22 ?_
      refine lv_lmul hx hb dX1_number_25 ?_
      refine lv_iload_n hx hb dX1_number_26 rfl (lv_at hl 1 rfl) ?_
      refine lv_bipush (v := 23) hx hb dX1_number_27 (by decide) ?_
      refine lv_icmp_ne (tgt := 39) hx hb dX1_number_29 (by decide) (fun (c27 : ¬ oa = 23) => ?_) (fun (c27 : oa = 23) => ?_)
      · refine lv_iconst (v := 0) hx hb dX1_number_39 (by decide) ?_
        refine lv_i2l (v := (0 : Int32).toInt64) hx hb dX1_number_40 rfl ?_
        refine lv_ladd hx hb dX1_number_41 ?_
        refine in_v (As := [.int (M_d u), .long ((((wa >>> ((12 : Int32) &&& 31)).toInt64) * 4096) + ((0 : Int32).toInt64))]) (rest := []) (w1 := ww1 cI cJ cB h q1 q2 q3 (S1_give (M_d u) ((((wa >>> ((12 : Int32) &&& 31)).toInt64) * 4096) + ((0 : Int32).toInt64)) u)) ⟨hx, hb, hml, hown, hts⟩ (c1_give l hap (M_d u) ((((wa >>> ((12 : Int32) &&& 31)).toInt64) * 4096) + ((0 : Int32).toInt64)) u hd) gX1_number_X1_give rfl hdX1_give ⟨Nat.le_of_ble_eq_true rfl, Nat.le_of_ble_eq_true rfl⟩ hK rfl rfl hl.1 rfl (Nat.le_of_ble_eq_true rfl) dX1_number_42 ⟨Nat.zero_le _, Nat.zero_le _⟩ hP hS (fun _ h => h) (fun H locs hP hS _ _ => ?_)
        refine lv_iconst (v := 0) hx hb dX1_number_45 (by decide) ?_
        have e9 : S1_number oa wa u = ((0 : Int32), S1_give (M_d u) ((((wa >>> ((12 : Int32) &&& 31)).toInt64) * 4096) + ((0 : Int32).toInt64)) u) := by rw [S1_number, if_neg c1, if_pos c3, if_neg c27]
        exact W.iret (v := (0 : Int32)) hx hb hr (fun t ht hW => ⟨⟨(0 : Int32), (), rfl, by rw [e9], by show va_P _ _ _ t.heap; rw [e9, ht]; exact hP⟩, hS.F ht⟩) hS.2.2 dX1_number_46
      · refine lv_aload_n hx hb dX1_number_32 rfl (lv_at hl 0 rfl) ?_
        refine va_get (D := D) (ci := 1) (v := .int (M_pc u)) (C := RX1) (T := TX1) (N := 12) hx hb hts iwX1_number hown hK hP 0 rfl rfl 2 (by decide) (hts (.fieldLink RX1 39 "WordMachineModel" "pc" "I") flX1_number_39) (fun _ h9 => h9) rfl dX1_number_33 ?_
        refine lv_goto (tgt := 40) hx hb dX1_number_36 (by decide) ?_
        refine lv_i2l (v := (M_pc u).toInt64) hx hb dX1_number_40 rfl ?_
        refine lv_ladd hx hb dX1_number_41 ?_
        refine in_v (As := [.int (M_d u), .long ((((wa >>> ((12 : Int32) &&& 31)).toInt64) * 4096) + ((M_pc u).toInt64))]) (rest := []) (w1 := ww1 cI cJ cB h q1 q2 q3 (S1_give (M_d u) ((((wa >>> ((12 : Int32) &&& 31)).toInt64) * 4096) + ((M_pc u).toInt64)) u)) ⟨hx, hb, hml, hown, hts⟩ (c1_give l hap (M_d u) ((((wa >>> ((12 : Int32) &&& 31)).toInt64) * 4096) + ((M_pc u).toInt64)) u hd) gX1_number_X1_give rfl hdX1_give ⟨Nat.le_of_ble_eq_true rfl, Nat.le_of_ble_eq_true rfl⟩ hK rfl rfl hl.1 rfl (Nat.le_of_ble_eq_true rfl) dX1_number_42 ⟨Nat.zero_le _, Nat.zero_le _⟩ hP hS (fun _ h => h) (fun H locs hP hS _ _ => ?_)
        refine lv_iconst (v := 0) hx hb dX1_number_45 (by decide) ?_
        have e9 : S1_number oa wa u = ((0 : Int32), S1_give (M_d u) ((((wa >>> ((12 : Int32) &&& 31)).toInt64) * 4096) + ((M_pc u).toInt64)) u) := by rw [S1_number, if_neg c1, if_pos c3, if_pos c27]
        exact W.iret (v := (0 : Int32)) hx hb hr (fun t ht hW => ⟨⟨(0 : Int32), (), rfl, by rw [e9], by show va_P _ _ _ t.heap; rw [e9, ht]; exact hP⟩, hS.F ht⟩) hS.2.2 dX1_number_46
theorem iwX1_load : ∀ w ∈ wsX10, w ∈ wsX1_load := by decide +kernel
theorem flX1_load_17 : Cond.fieldLink RX1 17 "WordMachineModel" "memory" "[B" ∈ wsX1_load := by decide +kernel
theorem flX1_load_53 : Cond.fieldLink RX1 53 "WordMachineModel" "d" "I" ∈ wsX1_load := by decide +kernel
theorem flX1_load_56 : Cond.fieldLink RX1 56 "WordMachineModel" "t" "I" ∈ wsX1_load := by decide +kernel
theorem flX1_load_59 : Cond.fieldLink RX1 59 "WordMachineModel" "x" "J" ∈ wsX1_load := by decide +kernel
theorem flX1_load_73 : Cond.fieldLink RX1 73 "WordMachineModel" "immediate" "I" ∈ wsX1_load := by decide +kernel
theorem ctX1_load_106 : Cond.constantLong RX1 106 (256) ∈ wsX1_load := by decide +kernel
theorem ctX1_load_108 : Cond.constantLong RX1 108 (2) ∈ wsX1_load := by decide +kernel
theorem hdX1_load : yX1_load.cls = RX1 ∧ yX1_load.cls ≠ "java/lang/invoke/MethodHandle" ∧ yX1_load.cls ≠ "java/lang/invoke/VarHandle" ∧ (parseMethodDescriptor yX1_load.desc).map (fun d => d.parameters.length) = some 0 := by decide +kernel
set_option maxHeartbeats 4000000 in
set_option maxRecDepth 100000 in
theorem c1_load (l : Launch) {D : va_G} {cI cJ cB : ClassId} {h q1 q2 q3 : Nat} (hap : ap4 h q1 q2 q3)  (u : MS) (hd : M_d u < 32) : Ini l yX1_load wsX1_load 2 44 D (ty1 cI cJ cB) (wa0 h q1 q2 q3) [.ref h] (ww1 cI cJ cB h q1 q2 q3 u) (ww1 cI cJ cB h q1 q2 q3 (S1_load u).2) (S1_load u).1 := by
  refine Met.ofW (cc := cX1_load) (maxL := 9) (ret := (some .int)) (by decide) rfl ?_
  intro p e s m args below meth c s₁ B hml hv
  obtain ⟨rfl, hP, hK⟩ := hv
  have hx := B.exec
  have hb := B.bytes
  have hr := B.returns
  have hts := atoms_spec (ws := wsX1_load) B.pre
  have hown : s.vm.findClass RX1 = some m.cls := findClass_of_methodNamed B.named
  have hlocks := B.notSynchronized
  have hS : va_S (wa0 h q1 q2 q3) s.heap s.heap [] := va_S.rf
  have hl := lv_entry ([.ref h]) (n := 9) (Nat.le_of_ble_eq_true rfl)
  rw [lg_entry_eq]
  generalize (lg_sl ([.ref h]) ++ List.replicate (9 - (lg_sl ([.ref h])).length) Slot.unset).toArray = ls at hl ⊢
  have hl : lv_has ls 9 [(0, .ref h)] := hl
  have J : ∀ (n9 j : Nat) (vv wo : Int64) (H : Heap) (locs : List Loc), va_P D vwCl (ww1 cI cJ cB h q1 q2 q3 u) H → va_S (wa0 h q1 q2 q3) s.heap H locs → ∀ ls : Array Slot, lv_has ls 9 [(8, .int (nI j)), (6, .long wo), (4, .long vv), (2, .long (S1_plain ((M_x u) + (M_im u).toInt64))), (1, .int (S1_width (1) u)), (0, .ref h)] → j + n9 = (S1_width (1) u).toNatClampNeg → ¬ (S1_isThere (S1_plain ((M_x u) + (M_im u).toInt64)) (S1_width (1) u) u) = 0 → S1_load u = S1_lloop n9 (S1_plain ((M_x u) + (M_im u).toInt64)) (nI j) vv wo u → W p l e (headSpec wsX1_load ({ frames := 2, cells := 0, slots := 0, locals := 44 })).room s m ([.ref h] : List Value).toArray below meth c H locs 0 0 (MQ below (va_Qi (fun (r : Int32) (_ : Unit) => r = (S1_load u).1) (fun _ t => va_P D vwCl (ww1 cI cJ cB h q1 q2 q3 (S1_load u).2) t.heap) (wa0 h q1 q2 q3)) ([.ref h] : List Value).toArray s 0 0 (wa0 h q1 q2 q3)) (F0 m 46 ls []) := by
    intro n9
    induction n9 with
    | zero =>
      intro j vv wo H locs hP hS ls hl hj hth hs
      refine lv_iload hx hb dX1_load_46 (lv_at hl 0 rfl) ?_
      refine lv_iload_n hx hb dX1_load_48 rfl (lv_at hl 4 rfl) ?_
      refine lv_icmp_ge (tgt := 89) hx hb dX1_load_49 (by decide) (fun (c1 : (S1_width (1) u) ≤ (nI j)) => ?_) (fun (c1 : ¬ (S1_width (1) u) ≤ (nI j)) => ?_)
      · refine lv_aload_n hx hb dX1_load_89 rfl (lv_at hl 5 rfl) ?_
        refine va_get (D := D) (ci := 1) (v := .int (M_t u)) (C := RX1) (T := TX1) (N := 12) hx hb hts iwX1_load hown hK hP 0 rfl rfl 7 (by decide) (hts (.fieldLink RX1 56 "WordMachineModel" "t" "I") flX1_load_56) (fun _ h9 => h9) rfl dX1_load_90 ?_
        refine lv_iconst (v := 2) hx hb dX1_load_93 (by decide) ?_
        refine lv_icmp_ge (tgt := 116) hx hb dX1_load_94 (by decide) (fun (c2 : 2 ≤ (M_t u)) => ?_) (fun (c2 : ¬ 2 ≤ (M_t u)) => ?_)
        · refine lv_aload_n hx hb dX1_load_116 rfl (lv_at hl 5 rfl) ?_
          refine lv_aload_n hx hb dX1_load_117 rfl (lv_at hl 5 rfl) ?_
          refine va_get (D := D) (ci := 1) (v := .int (M_d u)) (C := RX1) (T := TX1) (N := 12) hx hb hts iwX1_load hown hK hP 0 rfl rfl 6 (by decide) (hts (.fieldLink RX1 53 "WordMachineModel" "d" "I") flX1_load_53) (fun _ h9 => h9) rfl dX1_load_118 ?_
          refine lv_lload hx hb dX1_load_121 (lv_at hl 2 rfl) ?_
          refine in_v (As := [.int (M_d u), .long vv]) (rest := []) (w1 := ww1 cI cJ cB h q1 q2 q3 (S1_give (M_d u) vv u)) ⟨hx, hb, hml, hown, hts⟩ (c1_give l hap (M_d u) vv u hd) gX1_load_X1_give rfl hdX1_give ⟨Nat.le_of_ble_eq_true rfl, Nat.le_of_ble_eq_true rfl⟩ hK rfl rfl hl.1 rfl (Nat.le_of_ble_eq_true rfl) dX1_load_123 ⟨Nat.zero_le _, Nat.zero_le _⟩ hP hS (fun _ h => h) (fun H locs hP hS _ _ => ?_)
          refine lv_iconst (v := 0) hx hb dX1_load_126 (by decide) ?_
          have e9 : S1_load u = ((0 : Int32), S1_give (M_d u) vv u) := by rw [hs, S1_lloop, S1_lfin, if_pos c2]
          exact W.iret (v := (0 : Int32)) hx hb hr (fun t ht hW => ⟨⟨(0 : Int32), (), rfl, by rw [e9], by show va_P _ _ _ t.heap; rw [e9, ht]; exact hP⟩, hS.F ht⟩) hS.2.2 dX1_load_127
        · refine lv_lload hx hb dX1_load_97 (lv_at hl 2 rfl) ?_
          refine lv_lload hx hb dX1_load_99 (lv_at hl 1 rfl) ?_
          refine lv_ldc2 hx hb hown (hts (.constantLong RX1 108 (2)) ctX1_load_108) dX1_load_101 ?_
          refine lv_ldiv hx hb dX1_load_104 (by decide) ?_
          refine W.lcmp hx hb dX1_load_105 ?_
          refine lv_if_lt (tgt := 116) hx hb dX1_load_106 (by decide) (fun (c3 : (lg_cmp vv (wo / 2)) < 0) => ?_) (fun (c3 : ¬ (lg_cmp vv (wo / 2)) < 0) => ?_)
          · refine lv_aload_n hx hb dX1_load_116 rfl (lv_at hl 5 rfl) ?_
            refine lv_aload_n hx hb dX1_load_117 rfl (lv_at hl 5 rfl) ?_
            refine va_get (D := D) (ci := 1) (v := .int (M_d u)) (C := RX1) (T := TX1) (N := 12) hx hb hts iwX1_load hown hK hP 0 rfl rfl 6 (by decide) (hts (.fieldLink RX1 53 "WordMachineModel" "d" "I") flX1_load_53) (fun _ h9 => h9) rfl dX1_load_118 ?_
            refine lv_lload hx hb dX1_load_121 (lv_at hl 2 rfl) ?_
            refine in_v (As := [.int (M_d u), .long vv]) (rest := []) (w1 := ww1 cI cJ cB h q1 q2 q3 (S1_give (M_d u) vv u)) ⟨hx, hb, hml, hown, hts⟩ (c1_give l hap (M_d u) vv u hd) gX1_load_X1_give rfl hdX1_give ⟨Nat.le_of_ble_eq_true rfl, Nat.le_of_ble_eq_true rfl⟩ hK rfl rfl hl.1 rfl (Nat.le_of_ble_eq_true rfl) dX1_load_123 ⟨Nat.zero_le _, Nat.zero_le _⟩ hP hS (fun _ h => h) (fun H locs hP hS _ _ => ?_)
            refine lv_iconst (v := 0) hx hb dX1_load_126 (by decide) ?_
            have e9 : S1_load u = ((0 : Int32), S1_give (M_d u) vv u) := by rw [hs, S1_lloop, S1_lfin, if_neg c2, if_pos c3]
            exact W.iret (v := (0 : Int32)) hx hb hr (fun t ht hW => ⟨⟨(0 : Int32), (), rfl, by rw [e9], by show va_P _ _ _ t.heap; rw [e9, ht]; exact hP⟩, hS.F ht⟩) hS.2.2 dX1_load_127
          · refine lv_lload hx hb dX1_load_109 (lv_at hl 2 rfl) ?_
            refine lv_lload hx hb dX1_load_111 (lv_at hl 1 rfl) ?_
            refine lv_lsub hx hb dX1_load_113 ?_
            refine lv_lstore (lv' := [(4, .long (vv - wo)), (8, .int (nI j)), (6, .long wo), (2, .long (S1_plain ((M_x u) + (M_im u).toInt64))), (1, .int (S1_width (1) u)), (0, .ref h)]) hx hb dX1_load_114 hl (by decide) rfl (fun ls hl => ?_)
            refine lv_aload_n hx hb dX1_load_116 rfl (lv_at hl 5 rfl) ?_
            refine lv_aload_n hx hb dX1_load_117 rfl (lv_at hl 5 rfl) ?_
            refine va_get (D := D) (ci := 1) (v := .int (M_d u)) (C := RX1) (T := TX1) (N := 12) hx hb hts iwX1_load hown hK hP 0 rfl rfl 6 (by decide) (hts (.fieldLink RX1 53 "WordMachineModel" "d" "I") flX1_load_53) (fun _ h9 => h9) rfl dX1_load_118 ?_
            refine lv_lload hx hb dX1_load_121 (lv_at hl 0 rfl) ?_
            refine in_v (As := [.int (M_d u), .long (vv - wo)]) (rest := []) (w1 := ww1 cI cJ cB h q1 q2 q3 (S1_give (M_d u) (vv - wo) u)) ⟨hx, hb, hml, hown, hts⟩ (c1_give l hap (M_d u) (vv - wo) u hd) gX1_load_X1_give rfl hdX1_give ⟨Nat.le_of_ble_eq_true rfl, Nat.le_of_ble_eq_true rfl⟩ hK rfl rfl hl.1 rfl (Nat.le_of_ble_eq_true rfl) dX1_load_123 ⟨Nat.zero_le _, Nat.zero_le _⟩ hP hS (fun _ h => h) (fun H locs hP hS _ _ => ?_)
            refine lv_iconst (v := 0) hx hb dX1_load_126 (by decide) ?_
            have e9 : S1_load u = ((0 : Int32), S1_give (M_d u) (vv - wo) u) := by rw [hs, S1_lloop, S1_lfin, if_neg c2, if_neg c3]
            exact W.iret (v := (0 : Int32)) hx hb hr (fun t ht hW => ⟨⟨(0 : Int32), (), rfl, by rw [e9], by show va_P _ _ _ t.heap; rw [e9, ht]; exact hP⟩, hS.F ht⟩) hS.2.2 dX1_load_127
      · exact absurd (rn_ge (width_pos u) hj) c1
    | succ n9 ih =>
      intro j vv wo H locs hP hS ls hl hj hth hs
      refine lv_iload hx hb dX1_load_46 (lv_at hl 0 rfl) ?_
      refine lv_iload_n hx hb dX1_load_48 rfl (lv_at hl 4 rfl) ?_
      refine lv_icmp_ge (tgt := 89) hx hb dX1_load_49 (by decide) (fun (c4 : (S1_width (1) u) ≤ (nI j)) => ?_) (fun (c4 : ¬ (S1_width (1) u) ≤ (nI j)) => ?_)
      · exact absurd c4 (rn_lt (width_pos u) (by omega))
      · refine lv_lload hx hb dX1_load_52 (lv_at hl 2 rfl) ?_
        refine lv_aload_n hx hb dX1_load_54 rfl (lv_at hl 5 rfl) ?_
        refine va_get (D := D) (ci := 1) (v := .ref q3) (C := RX1) (T := TX1) (N := 12) hx hb hts iwX1_load hown hK hP 0 rfl rfl 5 (by decide) (hts (.fieldLink RX1 17 "WordMachineModel" "memory" "[B") flX1_load_17) (fun _ h9 => h9) rfl dX1_load_55 ?_
        refine lv_lload_n hx hb dX1_load_58 rfl (lv_at hl 3 rfl) ?_
        refine lv_l2i (v := (S1_plain ((M_x u) + (M_im u).toInt64)).toInt32) hx hb dX1_load_59 rfl ?_
        refine lv_iload hx hb dX1_load_60 (lv_at hl 0 rfl) ?_
        refine lv_iadd hx hb dX1_load_62 ?_
        refine va_bald hx hb hK hP 3 2 rfl rfl (ix_there hth (width_le u) (by omega)) dX1_load_63 ?_
        refine lv_sipush (v := 255) hx hb dX1_load_64 (by decide) ?_
        refine lv_iand hx hb dX1_load_67 ?_
        refine lv_i2l (v := ((M_mem u (((S1_plain ((M_x u) + (M_im u).toInt64)).toInt32) + (nI j)).toNatClampNeg) &&& 255).toInt64) hx hb dX1_load_68 rfl ?_
        refine lv_lload hx hb dX1_load_69 (lv_at hl 1 rfl) ?_
        refine lv_lmul hx hb dX1_load_71 ?_
        refine lv_ladd hx hb dX1_load_72 ?_
        refine lv_lstore (lv' := [(4, .long (vv + ((((M_mem u (((S1_plain ((M_x u) + (M_im u).toInt64)).toInt32) + (nI j)).toNatClampNeg) &&& 255).toInt64) * wo))), (8, .int (nI j)), (6, .long wo), (2, .long (S1_plain ((M_x u) + (M_im u).toInt64))), (1, .int (S1_width (1) u)), (0, .ref h)]) hx hb dX1_load_73 hl (by decide) rfl (fun ls hl => ?_)
        refine lv_lload hx hb dX1_load_75 (lv_at hl 2 rfl) ?_
        refine lv_ldc2 hx hb hown (hts (.constantLong RX1 106 (256)) ctX1_load_106) dX1_load_77 ?_
        refine lv_lmul hx hb dX1_load_80 ?_
        refine lv_lstore (lv' := [(6, .long (wo * 256)), (4, .long (vv + ((((M_mem u (((S1_plain ((M_x u) + (M_im u).toInt64)).toInt32) + (nI j)).toNatClampNeg) &&& 255).toInt64) * wo))), (8, .int (nI j)), (2, .long (S1_plain ((M_x u) + (M_im u).toInt64))), (1, .int (S1_width (1) u)), (0, .ref h)]) hx hb dX1_load_81 hl (by decide) rfl (fun ls hl => ?_)
        refine lv_iinc (v := (nI j) + 1) (lv' := [(8, .int ((nI j) + 1)), (6, .long (wo * 256)), (4, .long (vv + ((((M_mem u (((S1_plain ((M_x u) + (M_im u).toInt64)).toInt32) + (nI j)).toNatClampNeg) &&& 255).toInt64) * wo))), (2, .long (S1_plain ((M_x u) + (M_im u).toInt64))), (1, .int (S1_width (1) u)), (0, .ref h)]) hx hb dX1_load_83 hl (k := 2) rfl (by rfl) (by decide) rfl (fun ls hl => ?_)
        refine lv_goto (tgt := 46) hx hb dX1_load_86 (by decide) ?_
        rw [nI_1] at hl
        exact ih (j + 1) _ _ H locs hP hS ls (lv_sub hl [0, 1, 2, 3, 4, 5] rfl) (by omega) hth (by rw [hs, S1_lloop, nI_1])
  refine lv_aload_n hx hb dX1_load_0 rfl (lv_at hl 0 rfl) ?_
  refine lv_iconst (v := 1) hx hb dX1_load_1 (by decide) ?_
  refine in_i (v := S1_width (1) u) (As := [.int 1]) (rest := []) (w1 := ww1 cI cJ cB h q1 q2 q3 u) ⟨hx, hb, hml, hown, hts⟩ (c1_width l hap (1) u ) gX1_load_X1_width rfl hdX1_width ⟨Nat.le_of_ble_eq_true rfl, Nat.le_of_ble_eq_true rfl⟩ hK rfl rfl hl.1 rfl (Nat.le_of_ble_eq_true rfl) dX1_load_2 ⟨Nat.zero_le _, Nat.zero_le _⟩ hP hS (fun _ h => h) (fun H locs hP hS _ _ => ?_)
  refine lv_istore_n (lv' := [(1, .int (S1_width (1) u)), (0, .ref h)]) hx hb dX1_load_5 rfl hl (by decide) rfl (fun ls hl => ?_)
  refine lv_iload_n hx hb dX1_load_6 rfl (lv_at hl 0 rfl) ?_
  refine lv_if_ne (tgt := 12) hx hb dX1_load_7 (by decide) (fun (c5 : ¬ (S1_width (1) u) = 0) => ?_) (fun (c5 : (S1_width (1) u) = 0) => ?_)
  · refine lv_aload_n hx hb dX1_load_12 rfl (lv_at hl 1 rfl) ?_
    refine va_get (D := D) (ci := 1) (v := .long (M_x u)) (C := RX1) (T := TX1) (N := 12) hx hb hts iwX1_load hown hK hP 0 rfl rfl 10 (by decide) (hts (.fieldLink RX1 59 "WordMachineModel" "x" "J") flX1_load_59) (fun _ h9 => h9) rfl dX1_load_13 ?_
    refine lv_aload_n hx hb dX1_load_16 rfl (lv_at hl 1 rfl) ?_
    refine va_get (D := D) (ci := 1) (v := .int (M_im u)) (C := RX1) (T := TX1) (N := 12) hx hb hts iwX1_load hown hK hP 0 rfl rfl 9 (by decide) (hts (.fieldLink RX1 73 "WordMachineModel" "immediate" "I") flX1_load_73) (fun _ h9 => h9) rfl dX1_load_17 ?_
    refine lv_i2l (v := (M_im u).toInt64) hx hb dX1_load_20 rfl ?_
    refine lv_ladd hx hb dX1_load_21 ?_
    refine pu_l (v := S1_plain ((M_x u) + ((M_im u).toInt64))) (As := [.long ((M_x u) + ((M_im u).toInt64))]) (rest := []) ⟨hx, hb, hml, hown, hts⟩ (c1_plain l ((M_x u) + ((M_im u).toInt64)) ) gX1_load_X1_plain rfl hdX1_plain ⟨Nat.le_of_ble_eq_true rfl, Nat.le_of_ble_eq_true rfl⟩ hl.1 rfl (Nat.le_of_ble_eq_true rfl) dX1_load_22 ⟨Nat.zero_le _, Nat.zero_le _⟩ hP hS (fun H locs hP hS => ?_)
    refine lv_lstore_n (lv' := [(2, .long (S1_plain ((M_x u) + ((M_im u).toInt64)))), (1, .int (S1_width (1) u)), (0, .ref h)]) hx hb dX1_load_25 rfl hl (by decide) rfl (fun ls hl => ?_)
    refine lv_aload_n hx hb dX1_load_26 rfl (lv_at hl 2 rfl) ?_
    refine lv_lload_n hx hb dX1_load_27 rfl (lv_at hl 0 rfl) ?_
    refine lv_iload_n hx hb dX1_load_28 rfl (lv_at hl 1 rfl) ?_
    refine in_i (v := S1_isThere (S1_plain ((M_x u) + ((M_im u).toInt64))) (S1_width (1) u) u) (As := [.long (S1_plain ((M_x u) + ((M_im u).toInt64))), .int (S1_width (1) u)]) (rest := []) (w1 := ww1 cI cJ cB h q1 q2 q3 u) ⟨hx, hb, hml, hown, hts⟩ (c1_isThere l hap (S1_plain ((M_x u) + ((M_im u).toInt64))) (S1_width (1) u) u (width_ne c5)) gX1_load_X1_isThere rfl hdX1_isThere ⟨Nat.le_of_ble_eq_true rfl, Nat.le_of_ble_eq_true rfl⟩ hK rfl rfl hl.1 rfl (Nat.le_of_ble_eq_true rfl) dX1_load_29 ⟨Nat.zero_le _, Nat.zero_le _⟩ hP hS (fun _ h => h) (fun H locs hP hS _ _ => ?_)
    refine lv_if_ne (tgt := 37) hx hb dX1_load_32 (by decide) (fun (c6 : ¬ (S1_isThere (S1_plain ((M_x u) + ((M_im u).toInt64))) (S1_width (1) u) u) = 0) => ?_) (fun (c6 : (S1_isThere (S1_plain ((M_x u) + ((M_im u).toInt64))) (S1_width (1) u) u) = 0) => ?_)
    · refine lv_lconst (v := 0) hx hb dX1_load_37 (by decide) ?_
      refine lv_lstore (lv' := [(4, .long 0), (2, .long (S1_plain ((M_x u) + ((M_im u).toInt64)))), (1, .int (S1_width (1) u)), (0, .ref h)]) hx hb dX1_load_38 hl (by decide) rfl (fun ls hl => ?_)
      refine lv_lconst (v := 1) hx hb dX1_load_40 (by decide) ?_
      refine lv_lstore (lv' := [(6, .long 1), (4, .long 0), (2, .long (S1_plain ((M_x u) + ((M_im u).toInt64)))), (1, .int (S1_width (1) u)), (0, .ref h)]) hx hb dX1_load_41 hl (by decide) rfl (fun ls hl => ?_)
      refine lv_iconst (v := 0) hx hb dX1_load_43 (by decide) ?_
      refine lv_istore (lv' := [(8, .int 0), (6, .long 1), (4, .long 0), (2, .long (S1_plain ((M_x u) + ((M_im u).toInt64)))), (1, .int (S1_width (1) u)), (0, .ref h)]) hx hb dX1_load_44 hl (by decide) rfl (fun ls hl => ?_)
      exact J (S1_width (1) u).toNatClampNeg 0 0 1 _ _ hP hS ls (lv_sub hl [0, 1, 2, 3, 4, 5] rfl) (by omega) c6 (by rw [S1_load, if_neg c5, if_neg c6]; rfl)
    · refine lv_iconst (v := 4) hx hb dX1_load_35 (by decide) ?_
      have e9 : S1_load u = ((4 : Int32), u) := by rw [S1_load, if_neg c5, if_pos c6]
      exact W.iret (v := (4 : Int32)) hx hb hr (fun t ht hW => ⟨⟨(4 : Int32), (), rfl, by rw [e9], by show va_P _ _ _ t.heap; rw [e9, ht]; exact hP⟩, hS.F ht⟩) hS.2.2 dX1_load_36
  · refine lv_iconst (v := 3) hx hb dX1_load_10 (by decide) ?_
    have e9 : S1_load u = ((3 : Int32), u) := by rw [S1_load, if_pos c5]
    exact W.iret (v := (3 : Int32)) hx hb hr (fun t ht hW => ⟨⟨(3 : Int32), (), rfl, by rw [e9], by show va_P _ _ _ t.heap; rw [e9, ht]; exact hP⟩, hS.F ht⟩) hS.2.2 dX1_load_11
theorem iwX1_store : ∀ w ∈ wsX10, w ∈ wsX1_store := by decide +kernel
theorem flX1_store_17 : Cond.fieldLink RX1 17 "WordMachineModel" "memory" "[B" ∈ wsX1_store := by decide +kernel
theorem flX1_store_53 : Cond.fieldLink RX1 53 "WordMachineModel" "d" "I" ∈ wsX1_store := by decide +kernel
theorem flX1_store_59 : Cond.fieldLink RX1 59 "WordMachineModel" "x" "J" ∈ wsX1_store := by decide +kernel
theorem flX1_store_63 : Cond.fieldLink RX1 63 "WordMachineModel" "y" "J" ∈ wsX1_store := by decide +kernel
theorem flX1_store_66 : Cond.fieldLink RX1 66 "WordMachineModel" "s" "I" ∈ wsX1_store := by decide +kernel
theorem ctX1_store_106 : Cond.constantLong RX1 106 (256) ∈ wsX1_store := by decide +kernel
theorem hdX1_store : yX1_store.cls = RX1 ∧ yX1_store.cls ≠ "java/lang/invoke/MethodHandle" ∧ yX1_store.cls ≠ "java/lang/invoke/VarHandle" ∧ (parseMethodDescriptor yX1_store.desc).map (fun d => d.parameters.length) = some 0 := by decide +kernel
set_option maxHeartbeats 4000000 in
set_option maxRecDepth 100000 in
theorem c1_store (l : Launch) {D : va_G} {cI cJ cB : ClassId} {h q1 q2 q3 : Nat} (hap : ap4 h q1 q2 q3)  (u : MS)  : Ini l yX1_store wsX1_store 1 23 D (ty1 cI cJ cB) (wa0 h q1 q2 q3) [.ref h] (ww1 cI cJ cB h q1 q2 q3 u) (ww1 cI cJ cB h q1 q2 q3 (S1_store u).2) (S1_store u).1 := by
  refine Met.ofW (cc := cX1_store) (maxL := 7) (ret := (some .int)) (by decide) rfl ?_
  intro p e s m args below meth c s₁ B hml hv
  obtain ⟨rfl, hP, hK⟩ := hv
  have hx := B.exec
  have hb := B.bytes
  have hr := B.returns
  have hts := atoms_spec (ws := wsX1_store) B.pre
  have hown : s.vm.findClass RX1 = some m.cls := findClass_of_methodNamed B.named
  have hlocks := B.notSynchronized
  have hS : va_S (wa0 h q1 q2 q3) s.heap s.heap [] := va_S.rf
  have hl := lv_entry ([.ref h]) (n := 7) (Nat.le_of_ble_eq_true rfl)
  rw [lg_entry_eq]
  generalize (lg_sl ([.ref h]) ++ List.replicate (7 - (lg_sl ([.ref h])).length) Slot.unset).toArray = ls at hl ⊢
  have hl : lv_has ls 7 [(0, .ref h)] := hl
  have J : ∀ (n9 j : Nat) (yy : Int64) (w : MS) (H : Heap) (locs : List Loc), va_P D vwCl (ww1 cI cJ cB h q1 q2 q3 w) H → va_S (wa0 h q1 q2 q3) s.heap H locs → ∀ ls : Array Slot, lv_has ls 7 [(6, .int (nI j)), (4, .long yy), (2, .long (S1_plain ((M_x u) + (S1_withSign (((M_s u) * 32) + (M_d u)) (12)).toInt64))), (1, .int (S1_width (0) u)), (0, .ref h)] → j + n9 = (S1_width (0) u).toNatClampNeg → ¬ (S1_isThere (S1_plain ((M_x u) + (S1_withSign (((M_s u) * 32) + (M_d u)) (12)).toInt64)) (S1_width (0) u) u) = 0 → S1_store u = S1_sloop n9 (S1_plain ((M_x u) + (S1_withSign (((M_s u) * 32) + (M_d u)) (12)).toInt64)) (nI j) yy w → W p l e (headSpec wsX1_store ({ frames := 1, cells := 0, slots := 0, locals := 23 })).room s m ([.ref h] : List Value).toArray below meth c H locs 0 0 (MQ below (va_Qi (fun (r : Int32) (_ : Unit) => r = (S1_store u).1) (fun _ t => va_P D vwCl (ww1 cI cJ cB h q1 q2 q3 (S1_store u).2) t.heap) (wa0 h q1 q2 q3)) ([.ref h] : List Value).toArray s 0 0 (wa0 h q1 q2 q3)) (F0 m 59 ls []) := by
    intro n9
    induction n9 with
    | zero =>
      intro j yy w H locs hP hS ls hl hj hth hs
      refine lv_iload hx hb dX1_store_59 (lv_at hl 0 rfl) ?_
      refine lv_iload_n hx hb dX1_store_61 rfl (lv_at hl 3 rfl) ?_
      refine lv_icmp_ge (tgt := 97) hx hb dX1_store_62 (by decide) (fun (c1 : (S1_width (0) u) ≤ (nI j)) => ?_) (fun (c1 : ¬ (S1_width (0) u) ≤ (nI j)) => ?_)
      · refine lv_iconst (v := 0) hx hb dX1_store_97 (by decide) ?_
        have e9 : S1_store u = ((0 : Int32), w) := by rw [hs, S1_sloop]
        exact W.iret (v := (0 : Int32)) hx hb hr (fun t ht hW => ⟨⟨(0 : Int32), (), rfl, by rw [e9], by show va_P _ _ _ t.heap; rw [e9, ht]; exact hP⟩, hS.F ht⟩) hS.2.2 dX1_store_98
      · exact absurd (rn_ge (width_pos0 u) hj) c1
    | succ n9 ih =>
      intro j yy w H locs hP hS ls hl hj hth hs
      refine lv_iload hx hb dX1_store_59 (lv_at hl 0 rfl) ?_
      refine lv_iload_n hx hb dX1_store_61 rfl (lv_at hl 3 rfl) ?_
      refine lv_icmp_ge (tgt := 97) hx hb dX1_store_62 (by decide) (fun (c2 : (S1_width (0) u) ≤ (nI j)) => ?_) (fun (c2 : ¬ (S1_width (0) u) ≤ (nI j)) => ?_)
      · exact absurd c2 (rn_lt (width_pos0 u) (by omega))
      · refine lv_aload_n hx hb dX1_store_65 rfl (lv_at hl 4 rfl) ?_
        refine va_get (D := D) (ci := 1) (v := .ref q3) (C := RX1) (T := TX1) (N := 12) hx hb hts iwX1_store hown hK hP 0 rfl rfl 5 (by decide) (hts (.fieldLink RX1 17 "WordMachineModel" "memory" "[B") flX1_store_17) (fun _ h9 => h9) rfl dX1_store_66 ?_
        refine lv_lload_n hx hb dX1_store_69 rfl (lv_at hl 2 rfl) ?_
        refine lv_l2i (v := (S1_plain ((M_x u) + (S1_withSign (((M_s u) * 32) + (M_d u)) (12)).toInt64)).toInt32) hx hb dX1_store_70 rfl ?_
        refine lv_iload hx hb dX1_store_71 (lv_at hl 0 rfl) ?_
        refine lv_iadd hx hb dX1_store_73 ?_
        refine lv_lload hx hb dX1_store_74 (lv_at hl 1 rfl) ?_
        refine lv_ldc2 hx hb hown (hts (.constantLong RX1 106 (256)) ctX1_store_106) dX1_store_76 ?_
        refine lv_lrem hx hb dX1_store_79 (by decide) ?_
        refine lv_l2i (v := (yy - yy / 256 * 256).toInt32) hx hb dX1_store_80 rfl ?_
        refine lv_i2b (v := ((yy - yy / 256 * 256).toInt32).toInt8.toInt32) hx hb dX1_store_81 rfl ?_
        refine va_bast hx hb hK hP (ap4_D hap) hS 3 2 rfl rfl (ix_there hth (width_le0 u) (by omega)) dX1_store_82 (fun H locs hP _ hS => ?_)
        have hP : va_P D vwCl (ww1 cI cJ cB h q1 q2 q3 (Mp_mem (upd (M_mem w) (((S1_plain ((M_x u) + (S1_withSign (((M_s u) * 32) + (M_d u)) (12)).toInt64)).toInt32) + (nI j)).toNatClampNeg (vp_nar .byte (((yy - yy / 256 * 256).toInt32).toInt8.toInt32))) w)) H := hP
        refine lv_lload hx hb dX1_store_83 (lv_at hl 1 rfl) ?_
        refine lv_ldc2 hx hb hown (hts (.constantLong RX1 106 (256)) ctX1_store_106) dX1_store_85 ?_
        refine lv_ldiv hx hb dX1_store_88 (by decide) ?_
        refine lv_lstore (lv' := [(4, .long (yy / 256)), (6, .int (nI j)), (2, .long (S1_plain ((M_x u) + (S1_withSign (((M_s u) * 32) + (M_d u)) (12)).toInt64))), (1, .int (S1_width (0) u)), (0, .ref h)]) hx hb dX1_store_89 hl (by decide) rfl (fun ls hl => ?_)
        refine lv_iinc (v := (nI j) + 1) (lv' := [(6, .int ((nI j) + 1)), (4, .long (yy / 256)), (2, .long (S1_plain ((M_x u) + (S1_withSign (((M_s u) * 32) + (M_d u)) (12)).toInt64))), (1, .int (S1_width (0) u)), (0, .ref h)]) hx hb dX1_store_91 hl (k := 1) rfl (by rfl) (by decide) rfl (fun ls hl => ?_)
        refine lv_goto (tgt := 59) hx hb dX1_store_94 (by decide) ?_
        rw [nI_1] at hl
        exact ih (j + 1) _ _ H locs hP hS ls (lv_sub hl [0, 1, 2, 3, 4] rfl) (by omega) hth (by rw [hs, S1_sloop, nI_1])
  refine lv_aload_n hx hb dX1_store_0 rfl (lv_at hl 0 rfl) ?_
  refine lv_iconst (v := 0) hx hb dX1_store_1 (by decide) ?_
  refine in_i (v := S1_width (0) u) (As := [.int 0]) (rest := []) (w1 := ww1 cI cJ cB h q1 q2 q3 u) ⟨hx, hb, hml, hown, hts⟩ (c1_width l hap (0) u ) gX1_store_X1_width rfl hdX1_width ⟨Nat.le_of_ble_eq_true rfl, Nat.le_of_ble_eq_true rfl⟩ hK rfl rfl hl.1 rfl (Nat.le_of_ble_eq_true rfl) dX1_store_2 ⟨Nat.zero_le _, Nat.zero_le _⟩ hP hS (fun _ h => h) (fun H locs hP hS _ _ => ?_)
  refine lv_istore_n (lv' := [(1, .int (S1_width (0) u)), (0, .ref h)]) hx hb dX1_store_5 rfl hl (by decide) rfl (fun ls hl => ?_)
  refine lv_iload_n hx hb dX1_store_6 rfl (lv_at hl 0 rfl) ?_
  refine lv_if_ne (tgt := 12) hx hb dX1_store_7 (by decide) (fun (c3 : ¬ (S1_width (0) u) = 0) => ?_) (fun (c3 : (S1_width (0) u) = 0) => ?_)
  · refine lv_aload_n hx hb dX1_store_12 rfl (lv_at hl 1 rfl) ?_
    refine va_get (D := D) (ci := 1) (v := .long (M_x u)) (C := RX1) (T := TX1) (N := 12) hx hb hts iwX1_store hown hK hP 0 rfl rfl 10 (by decide) (hts (.fieldLink RX1 59 "WordMachineModel" "x" "J") flX1_store_59) (fun _ h9 => h9) rfl dX1_store_13 ?_
    refine lv_aload_n hx hb dX1_store_16 rfl (lv_at hl 1 rfl) ?_
    refine va_get (D := D) (ci := 1) (v := .int (M_s u)) (C := RX1) (T := TX1) (N := 12) hx hb hts iwX1_store hown hK hP 0 rfl rfl 8 (by decide) (hts (.fieldLink RX1 66 "WordMachineModel" "s" "I") flX1_store_66) (fun _ h9 => h9) rfl dX1_store_17 ?_
    refine lv_bipush (v := 32) hx hb dX1_store_20 (by decide) ?_
    refine lv_imul hx hb dX1_store_22 ?_
    refine lv_aload_n hx hb dX1_store_23 rfl (lv_at hl 1 rfl) ?_
    refine va_get (D := D) (ci := 1) (v := .int (M_d u)) (C := RX1) (T := TX1) (N := 12) hx hb hts iwX1_store hown hK hP 0 rfl rfl 6 (by decide) (hts (.fieldLink RX1 53 "WordMachineModel" "d" "I") flX1_store_53) (fun _ h9 => h9) rfl dX1_store_24 ?_
    refine lv_iadd hx hb dX1_store_27 ?_
    refine lv_bipush (v := 12) hx hb dX1_store_28 (by decide) ?_
    refine pu_i (v := S1_withSign (((M_s u) * 32) + (M_d u)) (12)) (As := [.int (((M_s u) * 32) + (M_d u)), .int 12]) (rest := [.long (M_x u)]) ⟨hx, hb, hml, hown, hts⟩ (c1_withSign l (((M_s u) * 32) + (M_d u)) (12) ) gX1_store_X1_withSign rfl hdX1_withSign ⟨Nat.le_of_ble_eq_true rfl, Nat.le_of_ble_eq_true rfl⟩ hl.1 rfl (Nat.le_of_ble_eq_true rfl) dX1_store_30 ⟨Nat.zero_le _, Nat.zero_le _⟩ hP hS (fun H locs hP hS => ?_)
    refine lv_i2l (v := (S1_withSign (((M_s u) * 32) + (M_d u)) (12)).toInt64) hx hb dX1_store_33 rfl ?_
    refine lv_ladd hx hb dX1_store_34 ?_
    refine pu_l (v := S1_plain ((M_x u) + ((S1_withSign (((M_s u) * 32) + (M_d u)) (12)).toInt64))) (As := [.long ((M_x u) + ((S1_withSign (((M_s u) * 32) + (M_d u)) (12)).toInt64))]) (rest := []) ⟨hx, hb, hml, hown, hts⟩ (c1_plain l ((M_x u) + ((S1_withSign (((M_s u) * 32) + (M_d u)) (12)).toInt64)) ) gX1_store_X1_plain rfl hdX1_plain ⟨Nat.le_of_ble_eq_true rfl, Nat.le_of_ble_eq_true rfl⟩ hl.1 rfl (Nat.le_of_ble_eq_true rfl) dX1_store_35 ⟨Nat.zero_le _, Nat.zero_le _⟩ hP hS (fun H locs hP hS => ?_)
    refine lv_lstore_n (lv' := [(2, .long (S1_plain ((M_x u) + ((S1_withSign (((M_s u) * 32) + (M_d u)) (12)).toInt64)))), (1, .int (S1_width (0) u)), (0, .ref h)]) hx hb dX1_store_38 rfl hl (by decide) rfl (fun ls hl => ?_)
    refine lv_aload_n hx hb dX1_store_39 rfl (lv_at hl 2 rfl) ?_
    refine lv_lload_n hx hb dX1_store_40 rfl (lv_at hl 0 rfl) ?_
    refine lv_iload_n hx hb dX1_store_41 rfl (lv_at hl 1 rfl) ?_
    refine in_i (v := S1_isThere (S1_plain ((M_x u) + ((S1_withSign (((M_s u) * 32) + (M_d u)) (12)).toInt64))) (S1_width (0) u) u) (As := [.long (S1_plain ((M_x u) + ((S1_withSign (((M_s u) * 32) + (M_d u)) (12)).toInt64))), .int (S1_width (0) u)]) (rest := []) (w1 := ww1 cI cJ cB h q1 q2 q3 u) ⟨hx, hb, hml, hown, hts⟩ (c1_isThere l hap (S1_plain ((M_x u) + ((S1_withSign (((M_s u) * 32) + (M_d u)) (12)).toInt64))) (S1_width (0) u) u (width_ne c3)) gX1_store_X1_isThere rfl hdX1_isThere ⟨Nat.le_of_ble_eq_true rfl, Nat.le_of_ble_eq_true rfl⟩ hK rfl rfl hl.1 rfl (Nat.le_of_ble_eq_true rfl) dX1_store_42 ⟨Nat.zero_le _, Nat.zero_le _⟩ hP hS (fun _ h => h) (fun H locs hP hS _ _ => ?_)
    refine lv_if_ne (tgt := 50) hx hb dX1_store_45 (by decide) (fun (c4 : ¬ (S1_isThere (S1_plain ((M_x u) + ((S1_withSign (((M_s u) * 32) + (M_d u)) (12)).toInt64))) (S1_width (0) u) u) = 0) => ?_) (fun (c4 : (S1_isThere (S1_plain ((M_x u) + ((S1_withSign (((M_s u) * 32) + (M_d u)) (12)).toInt64))) (S1_width (0) u) u) = 0) => ?_)
    · refine lv_aload_n hx hb dX1_store_50 rfl (lv_at hl 2 rfl) ?_
      refine va_get (D := D) (ci := 1) (v := .long (M_y u)) (C := RX1) (T := TX1) (N := 12) hx hb hts iwX1_store hown hK hP 0 rfl rfl 11 (by decide) (hts (.fieldLink RX1 63 "WordMachineModel" "y" "J") flX1_store_63) (fun _ h9 => h9) rfl dX1_store_51 ?_
      refine lv_lstore (lv' := [(4, .long (M_y u)), (2, .long (S1_plain ((M_x u) + ((S1_withSign (((M_s u) * 32) + (M_d u)) (12)).toInt64)))), (1, .int (S1_width (0) u)), (0, .ref h)]) hx hb dX1_store_54 hl (by decide) rfl (fun ls hl => ?_)
      refine lv_iconst (v := 0) hx hb dX1_store_56 (by decide) ?_
      refine lv_istore (lv' := [(6, .int 0), (4, .long (M_y u)), (2, .long (S1_plain ((M_x u) + ((S1_withSign (((M_s u) * 32) + (M_d u)) (12)).toInt64)))), (1, .int (S1_width (0) u)), (0, .ref h)]) hx hb dX1_store_57 hl (by decide) rfl (fun ls hl => ?_)
      exact J (S1_width (0) u).toNatClampNeg 0 (M_y u) u _ _ hP hS ls (lv_sub hl [0, 1, 2, 3, 4] rfl) (by omega) c4 (by rw [S1_store, if_neg c3, if_neg c4]; rfl)
    · refine lv_iconst (v := 4) hx hb dX1_store_48 (by decide) ?_
      have e9 : S1_store u = ((4 : Int32), u) := by rw [S1_store, if_neg c3, if_pos c4]
      exact W.iret (v := (4 : Int32)) hx hb hr (fun t ht hW => ⟨⟨(4 : Int32), (), rfl, by rw [e9], by show va_P _ _ _ t.heap; rw [e9, ht]; exact hP⟩, hS.F ht⟩) hS.2.2 dX1_store_49
  · refine lv_iconst (v := 3) hx hb dX1_store_10 (by decide) ?_
    have e9 : S1_store u = ((3 : Int32), u) := by rw [S1_store, if_pos c3]
    exact W.iret (v := (3 : Int32)) hx hb hr (fun t ht hW => ⟨⟨(3 : Int32), (), rfl, by rw [e9], by show va_P _ _ _ t.heap; rw [e9, ht]; exact hP⟩, hS.F ht⟩) hS.2.2 dX1_store_11
theorem iwX1_branch : ∀ w ∈ wsX10, w ∈ wsX1_branch := by decide +kernel
theorem flX1_branch_39 : Cond.fieldLink RX1 39 "WordMachineModel" "pc" "I" ∈ wsX1_branch := by decide +kernel
theorem flX1_branch_56 : Cond.fieldLink RX1 56 "WordMachineModel" "t" "I" ∈ wsX1_branch := by decide +kernel
theorem flX1_branch_59 : Cond.fieldLink RX1 59 "WordMachineModel" "x" "J" ∈ wsX1_branch := by decide +kernel
theorem flX1_branch_63 : Cond.fieldLink RX1 63 "WordMachineModel" "y" "J" ∈ wsX1_branch := by decide +kernel
theorem hdX1_branch : yX1_branch.cls = RX1 ∧ yX1_branch.cls ≠ "java/lang/invoke/MethodHandle" ∧ yX1_branch.cls ≠ "java/lang/invoke/VarHandle" ∧ (parseMethodDescriptor yX1_branch.desc).map (fun d => d.parameters.length) = some 1 := by decide +kernel
set_option maxHeartbeats 4000000 in
set_option maxRecDepth 100000 in
theorem c1_branch (l : Launch) {D : va_G} {cI cJ cB : ClassId} {h q1 q2 q3 : Nat} (hap : ap4 h q1 q2 q3) (wa : Int32) (u : MS)  : Ini l yX1_branch wsX1_branch 2 43 D (ty1 cI cJ cB) (wa0 h q1 q2 q3) [.ref h, .int wa] (ww1 cI cJ cB h q1 q2 q3 u) (ww1 cI cJ cB h q1 q2 q3 (S1_branch wa u).2) (S1_branch wa u).1 := by
  refine Met.ofW (cc := cX1_branch) (maxL := 4) (ret := (some .int)) (by decide) rfl ?_
  intro p e s m args below meth c s₁ B hml hv
  obtain ⟨rfl, hP, hK⟩ := hv
  have hx := B.exec
  have hb := B.bytes
  have hr := B.returns
  have hts := atoms_spec (ws := wsX1_branch) B.pre
  have hown : s.vm.findClass RX1 = some m.cls := findClass_of_methodNamed B.named
  have hlocks := B.notSynchronized
  have hS : va_S (wa0 h q1 q2 q3) s.heap s.heap [] := va_S.rf
  have hl := lv_entry ([.ref h, .int wa]) (n := 4) (Nat.le_of_ble_eq_true rfl)
  rw [lg_entry_eq]
  generalize (lg_sl ([.ref h, .int wa]) ++ List.replicate (4 - (lg_sl ([.ref h, .int wa])).length) Slot.unset).toArray = ls at hl ⊢
  have hl : lv_has ls 4 [(0, .ref h), (1, .int wa)] := hl
  have J : ∀ (hv : Int32) (H : Heap) (locs : List Loc), va_P D vwCl (ww1 cI cJ cB h q1 q2 q3 u) H → va_S (wa0 h q1 q2 q3) s.heap H locs → ∀ ls : Array Slot, lv_has ls 4 [(2, .int hv), (1, .int wa), (0, .ref h)] → S1_branch wa u = S1_branch_j wa hv u → W p l e (headSpec wsX1_branch ({ frames := 2, cells := 0, slots := 0, locals := 43 })).room s m ([.ref h, .int wa] : List Value).toArray below meth c H locs 0 0 (MQ below (va_Qi (fun (r : Int32) (_ : Unit) => r = (S1_branch wa u).1) (fun _ t => va_P D vwCl (ww1 cI cJ cB h q1 q2 q3 (S1_branch wa u).2) t.heap) (wa0 h q1 q2 q3)) ([.ref h, .int wa] : List Value).toArray s 0 0 (wa0 h q1 q2 q3)) (F0 m 192 ls []) := by
    intro hv H locs hP hS ls hl hs
    refine lv_iload_n hx hb dX1_branch_192 rfl (lv_at hl 1 rfl) ?_
    refine lv_bipush (v := 8) hx hb dX1_branch_193 (by decide) ?_
    refine lv_iconst (v := 4) hx hb dX1_branch_195 (by decide) ?_
    refine pu_i (v := S1_bits wa (8) (4)) (As := [.int wa, .int 8, .int 4]) (rest := []) ⟨hx, hb, hml, hown, hts⟩ (c1_bits l wa (8) (4) ) gX1_branch_X1_bits rfl hdX1_bits ⟨Nat.le_of_ble_eq_true rfl, Nat.le_of_ble_eq_true rfl⟩ hl.1 rfl (Nat.le_of_ble_eq_true rfl) dX1_branch_196 ⟨Nat.zero_le _, Nat.zero_le _⟩ hP hS (fun H locs hP hS => ?_)
    refine lv_iconst (v := 2) hx hb dX1_branch_199 (by decide) ?_
    refine lv_imul hx hb dX1_branch_200 ?_
    refine lv_iload_n hx hb dX1_branch_201 rfl (lv_at hl 1 rfl) ?_
    refine lv_bipush (v := 25) hx hb dX1_branch_202 (by decide) ?_
    refine lv_bipush (v := 6) hx hb dX1_branch_204 (by decide) ?_
    refine pu_i (v := S1_bits wa (25) (6)) (As := [.int wa, .int 25, .int 6]) (rest := [.int ((S1_bits wa (8) (4)) * 2)]) ⟨hx, hb, hml, hown, hts⟩ (c1_bits l wa (25) (6) ) gX1_branch_X1_bits rfl hdX1_bits ⟨Nat.le_of_ble_eq_true rfl, Nat.le_of_ble_eq_true rfl⟩ hl.1 rfl (Nat.le_of_ble_eq_true rfl) dX1_branch_206 ⟨Nat.zero_le _, Nat.zero_le _⟩ hP hS (fun H locs hP hS => ?_)
    refine lv_bipush (v := 32) hx hb dX1_branch_209 (by decide) ?_
    refine lv_imul hx hb dX1_branch_211 ?_
    refine lv_iadd hx hb dX1_branch_212 ?_
    refine lv_iload_n hx hb dX1_branch_213 rfl (lv_at hl 1 rfl) ?_
    refine lv_bipush (v := 7) hx hb dX1_branch_214 (by decide) ?_
    refine lv_iconst (v := 1) hx hb dX1_branch_216 (by decide) ?_
    refine pu_i (v := S1_bits wa (7) (1)) (As := [.int wa, .int 7, .int 1]) (rest := [.int (((S1_bits wa (8) (4)) * 2) + ((S1_bits wa (25) (6)) * 32))]) ⟨hx, hb, hml, hown, hts⟩ (c1_bits l wa (7) (1) ) gX1_branch_X1_bits rfl hdX1_bits ⟨Nat.le_of_ble_eq_true rfl, Nat.le_of_ble_eq_true rfl⟩ hl.1 rfl (Nat.le_of_ble_eq_true rfl) dX1_branch_217 ⟨Nat.zero_le _, Nat.zero_le _⟩ hP hS (fun H locs hP hS => ?_)
    refine lv_sipush (v := 2048) hx hb dX1_branch_220 (by decide) ?_
    refine lv_imul hx hb dX1_branch_223 ?_
    refine lv_iadd hx hb dX1_branch_224 ?_
    refine lv_iload_n hx hb dX1_branch_225 rfl (lv_at hl 1 rfl) ?_
    refine lv_bipush (v := 31) hx hb dX1_branch_226 (by decide) ?_
    refine lv_iconst (v := 1) hx hb dX1_branch_228 (by decide) ?_
    refine pu_i (v := S1_bits wa (31) (1)) (As := [.int wa, .int 31, .int 1]) (rest := [.int ((((S1_bits wa (8) (4)) * 2) + ((S1_bits wa (25) (6)) * 32)) + ((S1_bits wa (7) (1)) * 2048))]) ⟨hx, hb, hml, hown, hts⟩ (c1_bits l wa (31) (1) ) gX1_branch_X1_bits rfl hdX1_bits ⟨Nat.le_of_ble_eq_true rfl, Nat.le_of_ble_eq_true rfl⟩ hl.1 rfl (Nat.le_of_ble_eq_true rfl) dX1_branch_229 ⟨Nat.zero_le _, Nat.zero_le _⟩ hP hS (fun H locs hP hS => ?_)
    refine lv_sipush (v := 4096) hx hb dX1_branch_232 (by decide) ?_
    refine lv_imul hx hb dX1_branch_235 ?_
    refine lv_iadd hx hb dX1_branch_236 ?_
    refine lv_istore_n (lv' := [(3, .int (((((S1_bits wa (8) (4)) * 2) + ((S1_bits wa (25) (6)) * 32)) + ((S1_bits wa (7) (1)) * 2048)) + ((S1_bits wa (31) (1)) * 4096))), (2, .int hv), (1, .int wa), (0, .ref h)]) hx hb dX1_branch_237 rfl hl (by decide) rfl (fun ls hl => ?_)
    refine lv_aload_n hx hb dX1_branch_238 rfl (lv_at hl 3 rfl) ?_
    refine lv_dup hx hb dX1_branch_239 rfl ?_
    refine va_get (D := D) (ci := 1) (v := .int (M_pc u)) (C := RX1) (T := TX1) (N := 12) hx hb hts iwX1_branch hown hK hP 0 rfl rfl 2 (by decide) (hts (.fieldLink RX1 39 "WordMachineModel" "pc" "I") flX1_branch_39) (fun _ h9 => h9) rfl dX1_branch_240 ?_
    refine lv_iload_n hx hb dX1_branch_243 rfl (lv_at hl 1 rfl) ?_
    refine lv_if_eq (tgt := 256) hx hb dX1_branch_244 (by decide) (fun (c1 : hv = 0) => ?_) (fun (c1 : ¬ hv = 0) => ?_)
    · refine lv_iconst (v := 4) hx hb dX1_branch_256 (by decide) ?_
      refine lv_iadd hx hb dX1_branch_257 ?_
      refine va_put (D := D) (ci := 1) (v := .int ((M_pc u) + 4)) (ty := .int) (C := RX1) (T := TX1) (N := 12) hx hb hts iwX1_branch tyX1 tyX1_ok nmX1 hown hK hP (ap4_D hap) hS 0 rfl rfl 2 (by decide) (hts (.fieldLink RX1 39 "WordMachineModel" "pc" "I") flX1_branch_39) (fun _ h9 => h9) rfl (by decide +kernel) rfl rfl (Nat.le_of_ble_eq_true rfl) dX1_branch_258 (fun H locs hP _ hS => ?_)
      have hP : va_P D vwCl (ww1 cI cJ cB h q1 q2 q3 (Mp_pc ((M_pc u) + 4) u)) H := hP
      refine lv_iconst (v := 0) hx hb dX1_branch_261 (by decide) ?_
      have e9 : S1_branch wa u = ((0 : Int32), Mp_pc ((M_pc u) + 4) u) := by rw [hs, S1_branch_j, if_pos c1]
      exact W.iret (v := (0 : Int32)) hx hb hr (fun t ht hW => ⟨⟨(0 : Int32), (), rfl, by rw [e9], by show va_P _ _ _ t.heap; rw [e9, ht]; exact hP⟩, hS.F ht⟩) hS.2.2 dX1_branch_262
    · refine lv_iload_n hx hb dX1_branch_247 rfl (lv_at hl 0 rfl) ?_
      refine lv_bipush (v := 13) hx hb dX1_branch_248 (by decide) ?_
      refine pu_i (v := S1_withSign (((((S1_bits wa (8) (4)) * 2) + ((S1_bits wa (25) (6)) * 32)) + ((S1_bits wa (7) (1)) * 2048)) + ((S1_bits wa (31) (1)) * 4096)) (13)) (As := [.int (((((S1_bits wa (8) (4)) * 2) + ((S1_bits wa (25) (6)) * 32)) + ((S1_bits wa (7) (1)) * 2048)) + ((S1_bits wa (31) (1)) * 4096)), .int 13]) (rest := [.int (M_pc u), .ref h]) ⟨hx, hb, hml, hown, hts⟩ (c1_withSign l (((((S1_bits wa (8) (4)) * 2) + ((S1_bits wa (25) (6)) * 32)) + ((S1_bits wa (7) (1)) * 2048)) + ((S1_bits wa (31) (1)) * 4096)) (13) ) gX1_branch_X1_withSign rfl hdX1_withSign ⟨Nat.le_of_ble_eq_true rfl, Nat.le_of_ble_eq_true rfl⟩ hl.1 rfl (Nat.le_of_ble_eq_true rfl) dX1_branch_250 ⟨Nat.zero_le _, Nat.zero_le _⟩ hP hS (fun H locs hP hS => ?_)
      refine lv_goto (tgt := 257) hx hb dX1_branch_253 (by decide) ?_
      refine lv_iadd hx hb dX1_branch_257 ?_
      refine va_put (D := D) (ci := 1) (v := .int ((M_pc u) + (S1_withSign (((((S1_bits wa (8) (4)) * 2) + ((S1_bits wa (25) (6)) * 32)) + ((S1_bits wa (7) (1)) * 2048)) + ((S1_bits wa (31) (1)) * 4096)) (13)))) (ty := .int) (C := RX1) (T := TX1) (N := 12) hx hb hts iwX1_branch tyX1 tyX1_ok nmX1 hown hK hP (ap4_D hap) hS 0 rfl rfl 2 (by decide) (hts (.fieldLink RX1 39 "WordMachineModel" "pc" "I") flX1_branch_39) (fun _ h9 => h9) rfl (by decide +kernel) rfl rfl (Nat.le_of_ble_eq_true rfl) dX1_branch_258 (fun H locs hP _ hS => ?_)
      have hP : va_P D vwCl (ww1 cI cJ cB h q1 q2 q3 (Mp_pc ((M_pc u) + (S1_withSign (((((S1_bits wa (8) (4)) * 2) + ((S1_bits wa (25) (6)) * 32)) + ((S1_bits wa (7) (1)) * 2048)) + ((S1_bits wa (31) (1)) * 4096)) (13))) u)) H := hP
      refine lv_iconst (v := 0) hx hb dX1_branch_261 (by decide) ?_
      have e9 : S1_branch wa u = ((0 : Int32), Mp_pc ((M_pc u) + (S1_withSign (((((S1_bits wa (8) (4)) * 2) + ((S1_bits wa (25) (6)) * 32)) + ((S1_bits wa (7) (1)) * 2048)) + ((S1_bits wa (31) (1)) * 4096)) (13))) u) := by rw [hs, S1_branch_j, if_neg c1]
      exact W.iret (v := (0 : Int32)) hx hb hr (fun t ht hW => ⟨⟨(0 : Int32), (), rfl, by rw [e9], by show va_P _ _ _ t.heap; rw [e9, ht]; exact hP⟩, hS.F ht⟩) hS.2.2 dX1_branch_262
  refine lv_aload_n hx hb dX1_branch_0 rfl (lv_at hl 0 rfl) ?_
  refine va_get (D := D) (ci := 1) (v := .int (M_t u)) (C := RX1) (T := TX1) (N := 12) hx hb hts iwX1_branch hown hK hP 0 rfl rfl 7 (by decide) (hts (.fieldLink RX1 56 "WordMachineModel" "t" "I") flX1_branch_56) (fun _ h9 => h9) rfl dX1_branch_1 ?_
  by_cases c2 : (M_t u) = 0
  · refine lv_tableIn (tgt := 52) hx hb dX1_branch_4 (by rw [c2]; decide) (by rw [c2]; decide) (by rw [c2]; rfl) (by decide) ?_
    refine lv_aload_n hx hb dX1_branch_52 rfl (lv_at hl 0 rfl) ?_
    refine va_get (D := D) (ci := 1) (v := .long (M_x u)) (C := RX1) (T := TX1) (N := 12) hx hb hts iwX1_branch hown hK hP 0 rfl rfl 10 (by decide) (hts (.fieldLink RX1 59 "WordMachineModel" "x" "J") flX1_branch_59) (fun _ h9 => h9) rfl dX1_branch_53 ?_
    refine lv_aload_n hx hb dX1_branch_56 rfl (lv_at hl 0 rfl) ?_
    refine va_get (D := D) (ci := 1) (v := .long (M_y u)) (C := RX1) (T := TX1) (N := 12) hx hb hts iwX1_branch hown hK hP 0 rfl rfl 11 (by decide) (hts (.fieldLink RX1 63 "WordMachineModel" "y" "J") flX1_branch_63) (fun _ h9 => h9) rfl dX1_branch_57 ?_
    refine W.lcmp hx hb dX1_branch_60 ?_
    refine lv_if_ne (tgt := 68) hx hb dX1_branch_61 (by decide) (fun (c3 : ¬ (lg_cmp (M_x u) (M_y u)) = 0) => ?_) (fun (c3 : (lg_cmp (M_x u) (M_y u)) = 0) => ?_)
    · refine lv_iconst (v := 0) hx hb dX1_branch_68 (by decide) ?_
      refine lv_istore_n (lv' := [(2, .int 0), (0, .ref h), (1, .int wa)]) hx hb dX1_branch_69 rfl hl (by decide) rfl (fun ls hl => ?_)
      refine lv_goto (tgt := 192) hx hb dX1_branch_70 (by decide) ?_
      exact J (0) _ _ hP hS ls (lv_sub hl [0, 2, 1] rfl) (by rw [S1_branch, if_pos c2, if_neg c3])
    · refine lv_iconst (v := 1) hx hb dX1_branch_64 (by decide) ?_
      refine lv_goto (tgt := 69) hx hb dX1_branch_65 (by decide) ?_
      refine lv_istore_n (lv' := [(2, .int 1), (0, .ref h), (1, .int wa)]) hx hb dX1_branch_69 rfl hl (by decide) rfl (fun ls hl => ?_)
      refine lv_goto (tgt := 192) hx hb dX1_branch_70 (by decide) ?_
      exact J (1) _ _ hP hS ls (lv_sub hl [0, 2, 1] rfl) (by rw [S1_branch, if_pos c2, if_pos c3])
  · skip
    by_cases c4 : (M_t u) = 1
    · refine lv_tableIn (tgt := 73) hx hb dX1_branch_4 (by rw [c4]; decide) (by rw [c4]; decide) (by rw [c4]; rfl) (by decide) ?_
      refine lv_aload_n hx hb dX1_branch_73 rfl (lv_at hl 0 rfl) ?_
      refine va_get (D := D) (ci := 1) (v := .long (M_x u)) (C := RX1) (T := TX1) (N := 12) hx hb hts iwX1_branch hown hK hP 0 rfl rfl 10 (by decide) (hts (.fieldLink RX1 59 "WordMachineModel" "x" "J") flX1_branch_59) (fun _ h9 => h9) rfl dX1_branch_74 ?_
      refine lv_aload_n hx hb dX1_branch_77 rfl (lv_at hl 0 rfl) ?_
      refine va_get (D := D) (ci := 1) (v := .long (M_y u)) (C := RX1) (T := TX1) (N := 12) hx hb hts iwX1_branch hown hK hP 0 rfl rfl 11 (by decide) (hts (.fieldLink RX1 63 "WordMachineModel" "y" "J") flX1_branch_63) (fun _ h9 => h9) rfl dX1_branch_78 ?_
      refine W.lcmp hx hb dX1_branch_81 ?_
      refine lv_if_eq (tgt := 89) hx hb dX1_branch_82 (by decide) (fun (c5 : (lg_cmp (M_x u) (M_y u)) = 0) => ?_) (fun (c5 : ¬ (lg_cmp (M_x u) (M_y u)) = 0) => ?_)
      · refine lv_iconst (v := 0) hx hb dX1_branch_89 (by decide) ?_
        refine lv_istore_n (lv' := [(2, .int 0), (0, .ref h), (1, .int wa)]) hx hb dX1_branch_90 rfl hl (by decide) rfl (fun ls hl => ?_)
        refine lv_goto (tgt := 192) hx hb dX1_branch_91 (by decide) ?_
        exact J (0) _ _ hP hS ls (lv_sub hl [0, 2, 1] rfl) (by rw [S1_branch, if_neg c2, if_pos c4, if_pos c5])
      · refine lv_iconst (v := 1) hx hb dX1_branch_85 (by decide) ?_
        refine lv_goto (tgt := 90) hx hb dX1_branch_86 (by decide) ?_
        refine lv_istore_n (lv' := [(2, .int 1), (0, .ref h), (1, .int wa)]) hx hb dX1_branch_90 rfl hl (by decide) rfl (fun ls hl => ?_)
        refine lv_goto (tgt := 192) hx hb dX1_branch_91 (by decide) ?_
        exact J (1) _ _ hP hS ls (lv_sub hl [0, 2, 1] rfl) (by rw [S1_branch, if_neg c2, if_pos c4, if_neg c5])
    · skip
      by_cases c6 : (M_t u) = 2
      · refine lv_tableIn (tgt := 190) hx hb dX1_branch_4 (by rw [c6]; decide) (by rw [c6]; decide) (by rw [c6]; rfl) (by decide) ?_
        refine lv_iconst (v := 3) hx hb dX1_branch_190 (by decide) ?_
        have e9 : S1_branch wa u = ((3 : Int32), u) := by rw [S1_branch, if_neg c2, if_neg c4, if_pos c6]
        exact W.iret (v := (3 : Int32)) hx hb hr (fun t ht hW => ⟨⟨(3 : Int32), (), rfl, by rw [e9], by show va_P _ _ _ t.heap; rw [e9, ht]; exact hP⟩, hS.F ht⟩) hS.2.2 dX1_branch_191
      · skip
        by_cases c7 : (M_t u) = 3
        · refine lv_tableIn (tgt := 190) hx hb dX1_branch_4 (by rw [c7]; decide) (by rw [c7]; decide) (by rw [c7]; rfl) (by decide) ?_
          refine lv_iconst (v := 3) hx hb dX1_branch_190 (by decide) ?_
          have e9 : S1_branch wa u = ((3 : Int32), u) := by rw [S1_branch, if_neg c2, if_neg c4, if_neg c6, if_pos c7]
          exact W.iret (v := (3 : Int32)) hx hb hr (fun t ht hW => ⟨⟨(3 : Int32), (), rfl, by rw [e9], by show va_P _ _ _ t.heap; rw [e9, ht]; exact hP⟩, hS.F ht⟩) hS.2.2 dX1_branch_191
        · skip
          by_cases c8 : (M_t u) = 4
          · refine lv_tableIn (tgt := 94) hx hb dX1_branch_4 (by rw [c8]; decide) (by rw [c8]; decide) (by rw [c8]; rfl) (by decide) ?_
            refine lv_aload_n hx hb dX1_branch_94 rfl (lv_at hl 0 rfl) ?_
            refine va_get (D := D) (ci := 1) (v := .long (M_x u)) (C := RX1) (T := TX1) (N := 12) hx hb hts iwX1_branch hown hK hP 0 rfl rfl 10 (by decide) (hts (.fieldLink RX1 59 "WordMachineModel" "x" "J") flX1_branch_59) (fun _ h9 => h9) rfl dX1_branch_95 ?_
            refine pu_l (v := S1_signed (M_x u)) (As := [.long (M_x u)]) (rest := []) ⟨hx, hb, hml, hown, hts⟩ (c1_signed l (M_x u) ) gX1_branch_X1_signed rfl hdX1_signed ⟨Nat.le_of_ble_eq_true rfl, Nat.le_of_ble_eq_true rfl⟩ hl.1 rfl (Nat.le_of_ble_eq_true rfl) dX1_branch_98 ⟨Nat.zero_le _, Nat.zero_le _⟩ hP hS (fun H locs hP hS => ?_)
            refine lv_aload_n hx hb dX1_branch_101 rfl (lv_at hl 0 rfl) ?_
            refine va_get (D := D) (ci := 1) (v := .long (M_y u)) (C := RX1) (T := TX1) (N := 12) hx hb hts iwX1_branch hown hK hP 0 rfl rfl 11 (by decide) (hts (.fieldLink RX1 63 "WordMachineModel" "y" "J") flX1_branch_63) (fun _ h9 => h9) rfl dX1_branch_102 ?_
            refine pu_l (v := S1_signed (M_y u)) (As := [.long (M_y u)]) (rest := [.long (S1_signed (M_x u))]) ⟨hx, hb, hml, hown, hts⟩ (c1_signed l (M_y u) ) gX1_branch_X1_signed rfl hdX1_signed ⟨Nat.le_of_ble_eq_true rfl, Nat.le_of_ble_eq_true rfl⟩ hl.1 rfl (Nat.le_of_ble_eq_true rfl) dX1_branch_105 ⟨Nat.zero_le _, Nat.zero_le _⟩ hP hS (fun H locs hP hS => ?_)
            refine W.lcmp hx hb dX1_branch_108 ?_
            refine lv_if_ge (tgt := 116) hx hb dX1_branch_109 (by decide) (fun (c9 : 0 ≤ (lg_cmp (S1_signed (M_x u)) (S1_signed (M_y u)))) => ?_) (fun (c9 : ¬ 0 ≤ (lg_cmp (S1_signed (M_x u)) (S1_signed (M_y u)))) => ?_)
            · refine lv_iconst (v := 0) hx hb dX1_branch_116 (by decide) ?_
              refine lv_istore_n (lv' := [(2, .int 0), (0, .ref h), (1, .int wa)]) hx hb dX1_branch_117 rfl hl (by decide) rfl (fun ls hl => ?_)
              refine lv_goto (tgt := 192) hx hb dX1_branch_118 (by decide) ?_
              exact J (0) _ _ hP hS ls (lv_sub hl [0, 2, 1] rfl) (by rw [S1_branch, if_neg c2, if_neg c4, if_neg c6, if_neg c7, if_pos c8, if_pos c9])
            · refine lv_iconst (v := 1) hx hb dX1_branch_112 (by decide) ?_
              refine lv_goto (tgt := 117) hx hb dX1_branch_113 (by decide) ?_
              refine lv_istore_n (lv' := [(2, .int 1), (0, .ref h), (1, .int wa)]) hx hb dX1_branch_117 rfl hl (by decide) rfl (fun ls hl => ?_)
              refine lv_goto (tgt := 192) hx hb dX1_branch_118 (by decide) ?_
              exact J (1) _ _ hP hS ls (lv_sub hl [0, 2, 1] rfl) (by rw [S1_branch, if_neg c2, if_neg c4, if_neg c6, if_neg c7, if_pos c8, if_neg c9])
          · skip
            by_cases c10 : (M_t u) = 5
            · refine lv_tableIn (tgt := 121) hx hb dX1_branch_4 (by rw [c10]; decide) (by rw [c10]; decide) (by rw [c10]; rfl) (by decide) ?_
              refine lv_aload_n hx hb dX1_branch_121 rfl (lv_at hl 0 rfl) ?_
              refine va_get (D := D) (ci := 1) (v := .long (M_x u)) (C := RX1) (T := TX1) (N := 12) hx hb hts iwX1_branch hown hK hP 0 rfl rfl 10 (by decide) (hts (.fieldLink RX1 59 "WordMachineModel" "x" "J") flX1_branch_59) (fun _ h9 => h9) rfl dX1_branch_122 ?_
              refine pu_l (v := S1_signed (M_x u)) (As := [.long (M_x u)]) (rest := []) ⟨hx, hb, hml, hown, hts⟩ (c1_signed l (M_x u) ) gX1_branch_X1_signed rfl hdX1_signed ⟨Nat.le_of_ble_eq_true rfl, Nat.le_of_ble_eq_true rfl⟩ hl.1 rfl (Nat.le_of_ble_eq_true rfl) dX1_branch_125 ⟨Nat.zero_le _, Nat.zero_le _⟩ hP hS (fun H locs hP hS => ?_)
              refine lv_aload_n hx hb dX1_branch_128 rfl (lv_at hl 0 rfl) ?_
              refine va_get (D := D) (ci := 1) (v := .long (M_y u)) (C := RX1) (T := TX1) (N := 12) hx hb hts iwX1_branch hown hK hP 0 rfl rfl 11 (by decide) (hts (.fieldLink RX1 63 "WordMachineModel" "y" "J") flX1_branch_63) (fun _ h9 => h9) rfl dX1_branch_129 ?_
              refine pu_l (v := S1_signed (M_y u)) (As := [.long (M_y u)]) (rest := [.long (S1_signed (M_x u))]) ⟨hx, hb, hml, hown, hts⟩ (c1_signed l (M_y u) ) gX1_branch_X1_signed rfl hdX1_signed ⟨Nat.le_of_ble_eq_true rfl, Nat.le_of_ble_eq_true rfl⟩ hl.1 rfl (Nat.le_of_ble_eq_true rfl) dX1_branch_132 ⟨Nat.zero_le _, Nat.zero_le _⟩ hP hS (fun H locs hP hS => ?_)
              refine W.lcmp hx hb dX1_branch_135 ?_
              refine lv_if_lt (tgt := 143) hx hb dX1_branch_136 (by decide) (fun (c11 : (lg_cmp (S1_signed (M_x u)) (S1_signed (M_y u))) < 0) => ?_) (fun (c11 : ¬ (lg_cmp (S1_signed (M_x u)) (S1_signed (M_y u))) < 0) => ?_)
              · refine lv_iconst (v := 0) hx hb dX1_branch_143 (by decide) ?_
                refine lv_istore_n (lv' := [(2, .int 0), (0, .ref h), (1, .int wa)]) hx hb dX1_branch_144 rfl hl (by decide) rfl (fun ls hl => ?_)
                refine lv_goto (tgt := 192) hx hb dX1_branch_145 (by decide) ?_
                exact J (0) _ _ hP hS ls (lv_sub hl [0, 2, 1] rfl) (by rw [S1_branch, if_neg c2, if_neg c4, if_neg c6, if_neg c7, if_neg c8, if_pos c10, if_pos c11])
              · refine lv_iconst (v := 1) hx hb dX1_branch_139 (by decide) ?_
                refine lv_goto (tgt := 144) hx hb dX1_branch_140 (by decide) ?_
                refine lv_istore_n (lv' := [(2, .int 1), (0, .ref h), (1, .int wa)]) hx hb dX1_branch_144 rfl hl (by decide) rfl (fun ls hl => ?_)
                refine lv_goto (tgt := 192) hx hb dX1_branch_145 (by decide) ?_
                exact J (1) _ _ hP hS ls (lv_sub hl [0, 2, 1] rfl) (by rw [S1_branch, if_neg c2, if_neg c4, if_neg c6, if_neg c7, if_neg c8, if_pos c10, if_neg c11])
            · skip
              by_cases c12 : (M_t u) = 6
              · refine lv_tableIn (tgt := 148) hx hb dX1_branch_4 (by rw [c12]; decide) (by rw [c12]; decide) (by rw [c12]; rfl) (by decide) ?_
                refine lv_aload_n hx hb dX1_branch_148 rfl (lv_at hl 0 rfl) ?_
                refine va_get (D := D) (ci := 1) (v := .long (M_x u)) (C := RX1) (T := TX1) (N := 12) hx hb hts iwX1_branch hown hK hP 0 rfl rfl 10 (by decide) (hts (.fieldLink RX1 59 "WordMachineModel" "x" "J") flX1_branch_59) (fun _ h9 => h9) rfl dX1_branch_149 ?_
                refine lv_aload_n hx hb dX1_branch_152 rfl (lv_at hl 0 rfl) ?_
                refine va_get (D := D) (ci := 1) (v := .long (M_y u)) (C := RX1) (T := TX1) (N := 12) hx hb hts iwX1_branch hown hK hP 0 rfl rfl 11 (by decide) (hts (.fieldLink RX1 63 "WordMachineModel" "y" "J") flX1_branch_63) (fun _ h9 => h9) rfl dX1_branch_153 ?_
                refine W.lcmp hx hb dX1_branch_156 ?_
                refine lv_if_ge (tgt := 164) hx hb dX1_branch_157 (by decide) (fun (c13 : 0 ≤ (lg_cmp (M_x u) (M_y u))) => ?_) (fun (c13 : ¬ 0 ≤ (lg_cmp (M_x u) (M_y u))) => ?_)
                · refine lv_iconst (v := 0) hx hb dX1_branch_164 (by decide) ?_
                  refine lv_istore_n (lv' := [(2, .int 0), (0, .ref h), (1, .int wa)]) hx hb dX1_branch_165 rfl hl (by decide) rfl (fun ls hl => ?_)
                  refine lv_goto (tgt := 192) hx hb dX1_branch_166 (by decide) ?_
                  exact J (0) _ _ hP hS ls (lv_sub hl [0, 2, 1] rfl) (by rw [S1_branch, if_neg c2, if_neg c4, if_neg c6, if_neg c7, if_neg c8, if_neg c10, if_pos c12, if_pos c13])
                · refine lv_iconst (v := 1) hx hb dX1_branch_160 (by decide) ?_
                  refine lv_goto (tgt := 165) hx hb dX1_branch_161 (by decide) ?_
                  refine lv_istore_n (lv' := [(2, .int 1), (0, .ref h), (1, .int wa)]) hx hb dX1_branch_165 rfl hl (by decide) rfl (fun ls hl => ?_)
                  refine lv_goto (tgt := 192) hx hb dX1_branch_166 (by decide) ?_
                  exact J (1) _ _ hP hS ls (lv_sub hl [0, 2, 1] rfl) (by rw [S1_branch, if_neg c2, if_neg c4, if_neg c6, if_neg c7, if_neg c8, if_neg c10, if_pos c12, if_neg c13])
              · skip
                by_cases c14 : (M_t u) = 7
                · refine lv_tableIn (tgt := 169) hx hb dX1_branch_4 (by rw [c14]; decide) (by rw [c14]; decide) (by rw [c14]; rfl) (by decide) ?_
                  refine lv_aload_n hx hb dX1_branch_169 rfl (lv_at hl 0 rfl) ?_
                  refine va_get (D := D) (ci := 1) (v := .long (M_x u)) (C := RX1) (T := TX1) (N := 12) hx hb hts iwX1_branch hown hK hP 0 rfl rfl 10 (by decide) (hts (.fieldLink RX1 59 "WordMachineModel" "x" "J") flX1_branch_59) (fun _ h9 => h9) rfl dX1_branch_170 ?_
                  refine lv_aload_n hx hb dX1_branch_173 rfl (lv_at hl 0 rfl) ?_
                  refine va_get (D := D) (ci := 1) (v := .long (M_y u)) (C := RX1) (T := TX1) (N := 12) hx hb hts iwX1_branch hown hK hP 0 rfl rfl 11 (by decide) (hts (.fieldLink RX1 63 "WordMachineModel" "y" "J") flX1_branch_63) (fun _ h9 => h9) rfl dX1_branch_174 ?_
                  refine W.lcmp hx hb dX1_branch_177 ?_
                  refine lv_if_lt (tgt := 185) hx hb dX1_branch_178 (by decide) (fun (c15 : (lg_cmp (M_x u) (M_y u)) < 0) => ?_) (fun (c15 : ¬ (lg_cmp (M_x u) (M_y u)) < 0) => ?_)
                  · refine lv_iconst (v := 0) hx hb dX1_branch_185 (by decide) ?_
                    refine lv_istore_n (lv' := [(2, .int 0), (0, .ref h), (1, .int wa)]) hx hb dX1_branch_186 rfl hl (by decide) rfl (fun ls hl => ?_)
                    refine lv_goto (tgt := 192) hx hb dX1_branch_187 (by decide) ?_
                    exact J (0) _ _ hP hS ls (lv_sub hl [0, 2, 1] rfl) (by rw [S1_branch, if_neg c2, if_neg c4, if_neg c6, if_neg c7, if_neg c8, if_neg c10, if_neg c12, if_pos c14, if_pos c15])
                  · refine lv_iconst (v := 1) hx hb dX1_branch_181 (by decide) ?_
                    refine lv_goto (tgt := 186) hx hb dX1_branch_182 (by decide) ?_
                    refine lv_istore_n (lv' := [(2, .int 1), (0, .ref h), (1, .int wa)]) hx hb dX1_branch_186 rfl hl (by decide) rfl (fun ls hl => ?_)
                    refine lv_goto (tgt := 192) hx hb dX1_branch_187 (by decide) ?_
                    exact J (1) _ _ hP hS ls (lv_sub hl [0, 2, 1] rfl) (by rw [S1_branch, if_neg c2, if_neg c4, if_neg c6, if_neg c7, if_neg c8, if_neg c10, if_neg c12, if_pos c14, if_neg c15])
                · skip
                  refine lv_tableOut (tgt := 190) hx hb dX1_branch_4 (by have nc2 := lv_neT c2 (show (0 : Int32).toInt = 0 from by decide); have nc4 := lv_neT c4 (show (1 : Int32).toInt = 1 from by decide); have nc6 := lv_neT c6 (show (2 : Int32).toInt = 2 from by decide); have nc7 := lv_neT c7 (show (3 : Int32).toInt = 3 from by decide); have nc8 := lv_neT c8 (show (4 : Int32).toInt = 4 from by decide); have nc10 := lv_neT c10 (show (5 : Int32).toInt = 5 from by decide); have nc12 := lv_neT c12 (show (6 : Int32).toInt = 6 from by decide); have nc14 := lv_neT c14 (show (7 : Int32).toInt = 7 from by decide); omega) (by decide) ?_
                  refine lv_iconst (v := 3) hx hb dX1_branch_190 (by decide) ?_
                  have e9 : S1_branch wa u = ((3 : Int32), u) := by rw [S1_branch, if_neg c2, if_neg c4, if_neg c6, if_neg c7, if_neg c8, if_neg c10, if_neg c12, if_neg c14]
                  exact W.iret (v := (3 : Int32)) hx hb hr (fun t ht hW => ⟨⟨(3 : Int32), (), rfl, by rw [e9], by show va_P _ _ _ t.heap; rw [e9, ht]; exact hP⟩, hS.F ht⟩) hS.2.2 dX1_branch_191
theorem iwX1_work : ∀ w ∈ wsX10, w ∈ wsX1_work := by decide +kernel
theorem flX1_work_39 : Cond.fieldLink RX1 39 "WordMachineModel" "pc" "I" ∈ wsX1_work := by decide +kernel
theorem flX1_work_53 : Cond.fieldLink RX1 53 "WordMachineModel" "d" "I" ∈ wsX1_work := by decide +kernel
theorem flX1_work_56 : Cond.fieldLink RX1 56 "WordMachineModel" "t" "I" ∈ wsX1_work := by decide +kernel
theorem flX1_work_59 : Cond.fieldLink RX1 59 "WordMachineModel" "x" "J" ∈ wsX1_work := by decide +kernel
theorem flX1_work_73 : Cond.fieldLink RX1 73 "WordMachineModel" "immediate" "I" ∈ wsX1_work := by decide +kernel
theorem ctX1_work_83 : Cond.constant RX1 83 (1048576) ∈ wsX1_work := by decide +kernel
theorem hdX1_work : yX1_work.cls = RX1 ∧ yX1_work.cls ≠ "java/lang/invoke/MethodHandle" ∧ yX1_work.cls ≠ "java/lang/invoke/VarHandle" ∧ (parseMethodDescriptor yX1_work.desc).map (fun d => d.parameters.length) = some 2 := by decide +kernel
set_option maxHeartbeats 4000000 in
set_option maxRecDepth 100000 in
theorem c1_work (l : Launch) {D : va_G} {cI cJ cB : ClassId} {h q1 q2 q3 : Nat} (hap : ap4 h q1 q2 q3) (oa : Int32) (wa : Int32) (u : MS) (hd : M_d u < 32) (hy : ¬ M_y u = 0 → ¬ S1_signed (M_y u) = 0) : Ini l yX1_work wsX1_work 3 80 D (ty1 cI cJ cB) (wa0 h q1 q2 q3) [.ref h, .int oa, .int wa] (ww1 cI cJ cB h q1 q2 q3 u) (ww1 cI cJ cB h q1 q2 q3 (S1_work oa wa u).2) (S1_work oa wa u).1 := by
  refine Met.ofW (cc := cX1_work) (maxL := 4) (ret := (some .int)) (by decide) rfl ?_
  intro p e s m args below meth c s₁ B hml hv
  obtain ⟨rfl, hP, hK⟩ := hv
  have hx := B.exec
  have hb := B.bytes
  have hr := B.returns
  have hts := atoms_spec (ws := wsX1_work) B.pre
  have hown : s.vm.findClass RX1 = some m.cls := findClass_of_methodNamed B.named
  have hlocks := B.notSynchronized
  have hS : va_S (wa0 h q1 q2 q3) s.heap s.heap [] := va_S.rf
  have hl := lv_entry ([.ref h, .int oa, .int wa]) (n := 4) (Nat.le_of_ble_eq_true rfl)
  rw [lg_entry_eq]
  generalize (lg_sl ([.ref h, .int oa, .int wa]) ++ List.replicate (4 - (lg_sl ([.ref h, .int oa, .int wa])).length) Slot.unset).toArray = ls at hl ⊢
  have hl : lv_has ls 4 [(0, .ref h), (1, .int oa), (2, .int wa)] := hl
  refine lv_iload_n hx hb dX1_work_0 rfl (lv_at hl 1 rfl) ?_
  refine lv_bipush (v := 99) hx hb dX1_work_1 (by decide) ?_
  refine lv_icmp_ne (tgt := 12) hx hb dX1_work_3 (by decide) (fun (c1 : ¬ oa = 99) => ?_) (fun (c1 : oa = 99) => ?_)
  · refine lv_iload_n hx hb dX1_work_12 rfl (lv_at hl 1 rfl) ?_
    refine lv_bipush (v := 111) hx hb dX1_work_13 (by decide) ?_
    refine lv_icmp_ne (tgt := 97) hx hb dX1_work_15 (by decide) (fun (c2 : ¬ oa = 111) => ?_) (fun (c2 : oa = 111) => ?_)
    · refine lv_iload_n hx hb dX1_work_97 rfl (lv_at hl 1 rfl) ?_
      refine lv_bipush (v := 103) hx hb dX1_work_98 (by decide) ?_
      refine lv_icmp_ne (tgt := 147) hx hb dX1_work_100 (by decide) (fun (c3 : ¬ oa = 103) => ?_) (fun (c3 : oa = 103) => ?_)
      · refine lv_iload_n hx hb dX1_work_147 rfl (lv_at hl 1 rfl) ?_
        refine lv_iconst (v := 3) hx hb dX1_work_148 (by decide) ?_
        refine lv_icmp_ne (tgt := 159) hx hb dX1_work_149 (by decide) (fun (c4 : ¬ oa = 3) => ?_) (fun (c4 : oa = 3) => ?_)
        · refine lv_iload_n hx hb dX1_work_159 rfl (lv_at hl 1 rfl) ?_
          refine lv_bipush (v := 35) hx hb dX1_work_160 (by decide) ?_
          refine lv_icmp_ne (tgt := 172) hx hb dX1_work_162 (by decide) (fun (c5 : ¬ oa = 35) => ?_) (fun (c5 : oa = 35) => ?_)
          · refine lv_aload_n hx hb dX1_work_172 rfl (lv_at hl 0 rfl) ?_
            refine lv_iload_n hx hb dX1_work_173 rfl (lv_at hl 1 rfl) ?_
            refine lv_iload_n hx hb dX1_work_174 rfl (lv_at hl 2 rfl) ?_
            refine in_i (v := (S1_number oa wa u).1) (As := [.int oa, .int wa]) (rest := []) (w1 := ww1 cI cJ cB h q1 q2 q3 ((S1_number oa wa u).2)) ⟨hx, hb, hml, hown, hts⟩ (c1_number l hap oa wa u hd hy) gX1_work_X1_number rfl hdX1_number ⟨Nat.le_of_ble_eq_true rfl, Nat.le_of_ble_eq_true rfl⟩ hK rfl rfl hl.1 rfl (Nat.le_of_ble_eq_true rfl) dX1_work_175 ⟨Nat.zero_le _, Nat.zero_le _⟩ hP hS (fun _ h => h) (fun H locs hP hS _ _ => ?_)
            refine lv_istore_n (lv' := [(3, .int ((S1_number oa wa u).1)), (0, .ref h), (1, .int oa), (2, .int wa)]) hx hb dX1_work_178 rfl hl (by decide) rfl (fun ls hl => ?_)
            refine lv_iload_n hx hb dX1_work_179 rfl (lv_at hl 0 rfl) ?_
            refine lv_if_ne (tgt := 193) hx hb dX1_work_180 (by decide) (fun (c6 : ¬ ((S1_number oa wa u).1) = 0) => ?_) (fun (c6 : ((S1_number oa wa u).1) = 0) => ?_)
            · refine lv_iload_n hx hb dX1_work_193 rfl (lv_at hl 0 rfl) ?_
              have e9 : S1_work oa wa u = ((S1_number oa wa u).1, (S1_number oa wa u).2) := by rw [S1_work, if_neg c1, if_neg c2, if_neg c3, if_neg c4, if_neg c5, if_neg c6]
              exact W.iret (v := (S1_number oa wa u).1) hx hb hr (fun t ht hW => ⟨⟨(S1_number oa wa u).1, (), rfl, by rw [e9], by show va_P _ _ _ t.heap; rw [e9, ht]; exact hP⟩, hS.F ht⟩) hS.2.2 dX1_work_194
            · refine lv_aload_n hx hb dX1_work_183 rfl (lv_at hl 1 rfl) ?_
              refine lv_dup hx hb dX1_work_184 rfl ?_
              refine va_get (D := D) (ci := 1) (v := .int (M_pc ((S1_number oa wa u).2))) (C := RX1) (T := TX1) (N := 12) hx hb hts iwX1_work hown hK hP 0 rfl rfl 2 (by decide) (hts (.fieldLink RX1 39 "WordMachineModel" "pc" "I") flX1_work_39) (fun _ h9 => h9) rfl dX1_work_185 ?_
              refine lv_iconst (v := 4) hx hb dX1_work_188 (by decide) ?_
              refine lv_iadd hx hb dX1_work_189 ?_
              refine va_put (D := D) (ci := 1) (v := .int ((M_pc ((S1_number oa wa u).2)) + 4)) (ty := .int) (C := RX1) (T := TX1) (N := 12) hx hb hts iwX1_work tyX1 tyX1_ok nmX1 hown hK hP (ap4_D hap) hS 0 rfl rfl 2 (by decide) (hts (.fieldLink RX1 39 "WordMachineModel" "pc" "I") flX1_work_39) (fun _ h9 => h9) rfl (by decide +kernel) rfl rfl (Nat.le_of_ble_eq_true rfl) dX1_work_190 (fun H locs hP _ hS => ?_)
              have hP : va_P D vwCl (ww1 cI cJ cB h q1 q2 q3 (Mp_pc ((M_pc ((S1_number oa wa u).2)) + 4) ((S1_number oa wa u).2))) H := hP
              refine lv_iload_n hx hb dX1_work_193 rfl (lv_at hl 0 rfl) ?_
              have e9 : S1_work oa wa u = ((S1_number oa wa u).1, Mp_pc ((M_pc ((S1_number oa wa u).2)) + 4) ((S1_number oa wa u).2)) := by rw [S1_work, if_neg c1, if_neg c2, if_neg c3, if_neg c4, if_neg c5, if_pos c6]
              exact W.iret (v := (S1_number oa wa u).1) hx hb hr (fun t ht hW => ⟨⟨(S1_number oa wa u).1, (), rfl, by rw [e9], by show va_P _ _ _ t.heap; rw [e9, ht]; exact hP⟩, hS.F ht⟩) hS.2.2 dX1_work_194
          · refine lv_aload_n hx hb dX1_work_165 rfl (lv_at hl 0 rfl) ?_
            refine in_i (v := (S1_store u).1) (As := []) (rest := []) (w1 := ww1 cI cJ cB h q1 q2 q3 ((S1_store u).2)) ⟨hx, hb, hml, hown, hts⟩ (c1_store l hap  u ) gX1_work_X1_store rfl hdX1_store ⟨Nat.le_of_ble_eq_true rfl, Nat.le_of_ble_eq_true rfl⟩ hK rfl rfl hl.1 rfl (Nat.le_of_ble_eq_true rfl) dX1_work_166 ⟨Nat.zero_le _, Nat.zero_le _⟩ hP hS (fun _ h => h) (fun H locs hP hS _ _ => ?_)
            refine lv_goto (tgt := 178) hx hb dX1_work_169 (by decide) ?_
            refine lv_istore_n (lv' := [(3, .int ((S1_store u).1)), (0, .ref h), (1, .int oa), (2, .int wa)]) hx hb dX1_work_178 rfl hl (by decide) rfl (fun ls hl => ?_)
            refine lv_iload_n hx hb dX1_work_179 rfl (lv_at hl 0 rfl) ?_
            refine lv_if_ne (tgt := 193) hx hb dX1_work_180 (by decide) (fun (c7 : ¬ ((S1_store u).1) = 0) => ?_) (fun (c7 : ((S1_store u).1) = 0) => ?_)
            · refine lv_iload_n hx hb dX1_work_193 rfl (lv_at hl 0 rfl) ?_
              have e9 : S1_work oa wa u = ((S1_store u).1, (S1_store u).2) := by rw [S1_work, if_neg c1, if_neg c2, if_neg c3, if_neg c4, if_pos c5, if_neg c7]
              exact W.iret (v := (S1_store u).1) hx hb hr (fun t ht hW => ⟨⟨(S1_store u).1, (), rfl, by rw [e9], by show va_P _ _ _ t.heap; rw [e9, ht]; exact hP⟩, hS.F ht⟩) hS.2.2 dX1_work_194
            · refine lv_aload_n hx hb dX1_work_183 rfl (lv_at hl 1 rfl) ?_
              refine lv_dup hx hb dX1_work_184 rfl ?_
              refine va_get (D := D) (ci := 1) (v := .int (M_pc ((S1_store u).2))) (C := RX1) (T := TX1) (N := 12) hx hb hts iwX1_work hown hK hP 0 rfl rfl 2 (by decide) (hts (.fieldLink RX1 39 "WordMachineModel" "pc" "I") flX1_work_39) (fun _ h9 => h9) rfl dX1_work_185 ?_
              refine lv_iconst (v := 4) hx hb dX1_work_188 (by decide) ?_
              refine lv_iadd hx hb dX1_work_189 ?_
              refine va_put (D := D) (ci := 1) (v := .int ((M_pc ((S1_store u).2)) + 4)) (ty := .int) (C := RX1) (T := TX1) (N := 12) hx hb hts iwX1_work tyX1 tyX1_ok nmX1 hown hK hP (ap4_D hap) hS 0 rfl rfl 2 (by decide) (hts (.fieldLink RX1 39 "WordMachineModel" "pc" "I") flX1_work_39) (fun _ h9 => h9) rfl (by decide +kernel) rfl rfl (Nat.le_of_ble_eq_true rfl) dX1_work_190 (fun H locs hP _ hS => ?_)
              have hP : va_P D vwCl (ww1 cI cJ cB h q1 q2 q3 (Mp_pc ((M_pc ((S1_store u).2)) + 4) ((S1_store u).2))) H := hP
              refine lv_iload_n hx hb dX1_work_193 rfl (lv_at hl 0 rfl) ?_
              have e9 : S1_work oa wa u = ((S1_store u).1, Mp_pc ((M_pc ((S1_store u).2)) + 4) ((S1_store u).2)) := by rw [S1_work, if_neg c1, if_neg c2, if_neg c3, if_neg c4, if_pos c5, if_pos c7]
              exact W.iret (v := (S1_store u).1) hx hb hr (fun t ht hW => ⟨⟨(S1_store u).1, (), rfl, by rw [e9], by show va_P _ _ _ t.heap; rw [e9, ht]; exact hP⟩, hS.F ht⟩) hS.2.2 dX1_work_194
        · refine lv_aload_n hx hb dX1_work_152 rfl (lv_at hl 0 rfl) ?_
          refine in_i (v := (S1_load u).1) (As := []) (rest := []) (w1 := ww1 cI cJ cB h q1 q2 q3 ((S1_load u).2)) ⟨hx, hb, hml, hown, hts⟩ (c1_load l hap  u hd) gX1_work_X1_load rfl hdX1_load ⟨Nat.le_of_ble_eq_true rfl, Nat.le_of_ble_eq_true rfl⟩ hK rfl rfl hl.1 rfl (Nat.le_of_ble_eq_true rfl) dX1_work_153 ⟨Nat.zero_le _, Nat.zero_le _⟩ hP hS (fun _ h => h) (fun H locs hP hS _ _ => ?_)
          refine lv_goto (tgt := 178) hx hb dX1_work_156 (by decide) ?_
          refine lv_istore_n (lv' := [(3, .int ((S1_load u).1)), (0, .ref h), (1, .int oa), (2, .int wa)]) hx hb dX1_work_178 rfl hl (by decide) rfl (fun ls hl => ?_)
          refine lv_iload_n hx hb dX1_work_179 rfl (lv_at hl 0 rfl) ?_
          refine lv_if_ne (tgt := 193) hx hb dX1_work_180 (by decide) (fun (c8 : ¬ ((S1_load u).1) = 0) => ?_) (fun (c8 : ((S1_load u).1) = 0) => ?_)
          · refine lv_iload_n hx hb dX1_work_193 rfl (lv_at hl 0 rfl) ?_
            have e9 : S1_work oa wa u = ((S1_load u).1, (S1_load u).2) := by rw [S1_work, if_neg c1, if_neg c2, if_neg c3, if_pos c4, if_neg c8]
            exact W.iret (v := (S1_load u).1) hx hb hr (fun t ht hW => ⟨⟨(S1_load u).1, (), rfl, by rw [e9], by show va_P _ _ _ t.heap; rw [e9, ht]; exact hP⟩, hS.F ht⟩) hS.2.2 dX1_work_194
          · refine lv_aload_n hx hb dX1_work_183 rfl (lv_at hl 1 rfl) ?_
            refine lv_dup hx hb dX1_work_184 rfl ?_
            refine va_get (D := D) (ci := 1) (v := .int (M_pc ((S1_load u).2))) (C := RX1) (T := TX1) (N := 12) hx hb hts iwX1_work hown hK hP 0 rfl rfl 2 (by decide) (hts (.fieldLink RX1 39 "WordMachineModel" "pc" "I") flX1_work_39) (fun _ h9 => h9) rfl dX1_work_185 ?_
            refine lv_iconst (v := 4) hx hb dX1_work_188 (by decide) ?_
            refine lv_iadd hx hb dX1_work_189 ?_
            refine va_put (D := D) (ci := 1) (v := .int ((M_pc ((S1_load u).2)) + 4)) (ty := .int) (C := RX1) (T := TX1) (N := 12) hx hb hts iwX1_work tyX1 tyX1_ok nmX1 hown hK hP (ap4_D hap) hS 0 rfl rfl 2 (by decide) (hts (.fieldLink RX1 39 "WordMachineModel" "pc" "I") flX1_work_39) (fun _ h9 => h9) rfl (by decide +kernel) rfl rfl (Nat.le_of_ble_eq_true rfl) dX1_work_190 (fun H locs hP _ hS => ?_)
            have hP : va_P D vwCl (ww1 cI cJ cB h q1 q2 q3 (Mp_pc ((M_pc ((S1_load u).2)) + 4) ((S1_load u).2))) H := hP
            refine lv_iload_n hx hb dX1_work_193 rfl (lv_at hl 0 rfl) ?_
            have e9 : S1_work oa wa u = ((S1_load u).1, Mp_pc ((M_pc ((S1_load u).2)) + 4) ((S1_load u).2)) := by rw [S1_work, if_neg c1, if_neg c2, if_neg c3, if_pos c4, if_pos c8]
            exact W.iret (v := (S1_load u).1) hx hb hr (fun t ht hW => ⟨⟨(S1_load u).1, (), rfl, by rw [e9], by show va_P _ _ _ t.heap; rw [e9, ht]; exact hP⟩, hS.F ht⟩) hS.2.2 dX1_work_194
      · refine lv_aload_n hx hb dX1_work_103 rfl (lv_at hl 0 rfl) ?_
        refine va_get (D := D) (ci := 1) (v := .int (M_t u)) (C := RX1) (T := TX1) (N := 12) hx hb hts iwX1_work hown hK hP 0 rfl rfl 7 (by decide) (hts (.fieldLink RX1 56 "WordMachineModel" "t" "I") flX1_work_56) (fun _ h9 => h9) rfl dX1_work_104 ?_
        refine lv_if_ne (tgt := 147) hx hb dX1_work_107 (by decide) (fun (c9 : ¬ (M_t u) = 0) => ?_) (fun (c9 : (M_t u) = 0) => ?_)
        · refine lv_iload_n hx hb dX1_work_147 rfl (lv_at hl 1 rfl) ?_
          refine lv_iconst (v := 3) hx hb dX1_work_148 (by decide) ?_
          refine lv_icmp_ne (tgt := 159) hx hb dX1_work_149 (by decide) (fun (c10 : ¬ oa = 3) => ?_) (fun (c10 : oa = 3) => ?_)
          · refine lv_iload_n hx hb dX1_work_159 rfl (lv_at hl 1 rfl) ?_
            refine lv_bipush (v := 35) hx hb dX1_work_160 (by decide) ?_
            refine lv_icmp_ne (tgt := 172) hx hb dX1_work_162 (by decide) (fun (c11 : ¬ oa = 35) => ?_) (fun (c11 : oa = 35) => ?_)
            · refine lv_aload_n hx hb dX1_work_172 rfl (lv_at hl 0 rfl) ?_
              refine lv_iload_n hx hb dX1_work_173 rfl (lv_at hl 1 rfl) ?_
              refine lv_iload_n hx hb dX1_work_174 rfl (lv_at hl 2 rfl) ?_
              refine in_i (v := (S1_number oa wa u).1) (As := [.int oa, .int wa]) (rest := []) (w1 := ww1 cI cJ cB h q1 q2 q3 ((S1_number oa wa u).2)) ⟨hx, hb, hml, hown, hts⟩ (c1_number l hap oa wa u hd hy) gX1_work_X1_number rfl hdX1_number ⟨Nat.le_of_ble_eq_true rfl, Nat.le_of_ble_eq_true rfl⟩ hK rfl rfl hl.1 rfl (Nat.le_of_ble_eq_true rfl) dX1_work_175 ⟨Nat.zero_le _, Nat.zero_le _⟩ hP hS (fun _ h => h) (fun H locs hP hS _ _ => ?_)
              refine lv_istore_n (lv' := [(3, .int ((S1_number oa wa u).1)), (0, .ref h), (1, .int oa), (2, .int wa)]) hx hb dX1_work_178 rfl hl (by decide) rfl (fun ls hl => ?_)
              refine lv_iload_n hx hb dX1_work_179 rfl (lv_at hl 0 rfl) ?_
              refine lv_if_ne (tgt := 193) hx hb dX1_work_180 (by decide) (fun (c12 : ¬ ((S1_number oa wa u).1) = 0) => ?_) (fun (c12 : ((S1_number oa wa u).1) = 0) => ?_)
              · refine lv_iload_n hx hb dX1_work_193 rfl (lv_at hl 0 rfl) ?_
                have e9 : S1_work oa wa u = ((S1_number oa wa u).1, (S1_number oa wa u).2) := by rw [S1_work, if_neg c1, if_neg c2, if_pos c3, if_neg c9, if_neg c10, if_neg c11, if_neg c12]
                exact W.iret (v := (S1_number oa wa u).1) hx hb hr (fun t ht hW => ⟨⟨(S1_number oa wa u).1, (), rfl, by rw [e9], by show va_P _ _ _ t.heap; rw [e9, ht]; exact hP⟩, hS.F ht⟩) hS.2.2 dX1_work_194
              · refine lv_aload_n hx hb dX1_work_183 rfl (lv_at hl 1 rfl) ?_
                refine lv_dup hx hb dX1_work_184 rfl ?_
                refine va_get (D := D) (ci := 1) (v := .int (M_pc ((S1_number oa wa u).2))) (C := RX1) (T := TX1) (N := 12) hx hb hts iwX1_work hown hK hP 0 rfl rfl 2 (by decide) (hts (.fieldLink RX1 39 "WordMachineModel" "pc" "I") flX1_work_39) (fun _ h9 => h9) rfl dX1_work_185 ?_
                refine lv_iconst (v := 4) hx hb dX1_work_188 (by decide) ?_
                refine lv_iadd hx hb dX1_work_189 ?_
                refine va_put (D := D) (ci := 1) (v := .int ((M_pc ((S1_number oa wa u).2)) + 4)) (ty := .int) (C := RX1) (T := TX1) (N := 12) hx hb hts iwX1_work tyX1 tyX1_ok nmX1 hown hK hP (ap4_D hap) hS 0 rfl rfl 2 (by decide) (hts (.fieldLink RX1 39 "WordMachineModel" "pc" "I") flX1_work_39) (fun _ h9 => h9) rfl (by decide +kernel) rfl rfl (Nat.le_of_ble_eq_true rfl) dX1_work_190 (fun H locs hP _ hS => ?_)
                have hP : va_P D vwCl (ww1 cI cJ cB h q1 q2 q3 (Mp_pc ((M_pc ((S1_number oa wa u).2)) + 4) ((S1_number oa wa u).2))) H := hP
                refine lv_iload_n hx hb dX1_work_193 rfl (lv_at hl 0 rfl) ?_
                have e9 : S1_work oa wa u = ((S1_number oa wa u).1, Mp_pc ((M_pc ((S1_number oa wa u).2)) + 4) ((S1_number oa wa u).2)) := by rw [S1_work, if_neg c1, if_neg c2, if_pos c3, if_neg c9, if_neg c10, if_neg c11, if_pos c12]
                exact W.iret (v := (S1_number oa wa u).1) hx hb hr (fun t ht hW => ⟨⟨(S1_number oa wa u).1, (), rfl, by rw [e9], by show va_P _ _ _ t.heap; rw [e9, ht]; exact hP⟩, hS.F ht⟩) hS.2.2 dX1_work_194
            · refine lv_aload_n hx hb dX1_work_165 rfl (lv_at hl 0 rfl) ?_
              refine in_i (v := (S1_store u).1) (As := []) (rest := []) (w1 := ww1 cI cJ cB h q1 q2 q3 ((S1_store u).2)) ⟨hx, hb, hml, hown, hts⟩ (c1_store l hap  u ) gX1_work_X1_store rfl hdX1_store ⟨Nat.le_of_ble_eq_true rfl, Nat.le_of_ble_eq_true rfl⟩ hK rfl rfl hl.1 rfl (Nat.le_of_ble_eq_true rfl) dX1_work_166 ⟨Nat.zero_le _, Nat.zero_le _⟩ hP hS (fun _ h => h) (fun H locs hP hS _ _ => ?_)
              refine lv_goto (tgt := 178) hx hb dX1_work_169 (by decide) ?_
              refine lv_istore_n (lv' := [(3, .int ((S1_store u).1)), (0, .ref h), (1, .int oa), (2, .int wa)]) hx hb dX1_work_178 rfl hl (by decide) rfl (fun ls hl => ?_)
              refine lv_iload_n hx hb dX1_work_179 rfl (lv_at hl 0 rfl) ?_
              refine lv_if_ne (tgt := 193) hx hb dX1_work_180 (by decide) (fun (c13 : ¬ ((S1_store u).1) = 0) => ?_) (fun (c13 : ((S1_store u).1) = 0) => ?_)
              · refine lv_iload_n hx hb dX1_work_193 rfl (lv_at hl 0 rfl) ?_
                have e9 : S1_work oa wa u = ((S1_store u).1, (S1_store u).2) := by rw [S1_work, if_neg c1, if_neg c2, if_pos c3, if_neg c9, if_neg c10, if_pos c11, if_neg c13]
                exact W.iret (v := (S1_store u).1) hx hb hr (fun t ht hW => ⟨⟨(S1_store u).1, (), rfl, by rw [e9], by show va_P _ _ _ t.heap; rw [e9, ht]; exact hP⟩, hS.F ht⟩) hS.2.2 dX1_work_194
              · refine lv_aload_n hx hb dX1_work_183 rfl (lv_at hl 1 rfl) ?_
                refine lv_dup hx hb dX1_work_184 rfl ?_
                refine va_get (D := D) (ci := 1) (v := .int (M_pc ((S1_store u).2))) (C := RX1) (T := TX1) (N := 12) hx hb hts iwX1_work hown hK hP 0 rfl rfl 2 (by decide) (hts (.fieldLink RX1 39 "WordMachineModel" "pc" "I") flX1_work_39) (fun _ h9 => h9) rfl dX1_work_185 ?_
                refine lv_iconst (v := 4) hx hb dX1_work_188 (by decide) ?_
                refine lv_iadd hx hb dX1_work_189 ?_
                refine va_put (D := D) (ci := 1) (v := .int ((M_pc ((S1_store u).2)) + 4)) (ty := .int) (C := RX1) (T := TX1) (N := 12) hx hb hts iwX1_work tyX1 tyX1_ok nmX1 hown hK hP (ap4_D hap) hS 0 rfl rfl 2 (by decide) (hts (.fieldLink RX1 39 "WordMachineModel" "pc" "I") flX1_work_39) (fun _ h9 => h9) rfl (by decide +kernel) rfl rfl (Nat.le_of_ble_eq_true rfl) dX1_work_190 (fun H locs hP _ hS => ?_)
                have hP : va_P D vwCl (ww1 cI cJ cB h q1 q2 q3 (Mp_pc ((M_pc ((S1_store u).2)) + 4) ((S1_store u).2))) H := hP
                refine lv_iload_n hx hb dX1_work_193 rfl (lv_at hl 0 rfl) ?_
                have e9 : S1_work oa wa u = ((S1_store u).1, Mp_pc ((M_pc ((S1_store u).2)) + 4) ((S1_store u).2)) := by rw [S1_work, if_neg c1, if_neg c2, if_pos c3, if_neg c9, if_neg c10, if_pos c11, if_pos c13]
                exact W.iret (v := (S1_store u).1) hx hb hr (fun t ht hW => ⟨⟨(S1_store u).1, (), rfl, by rw [e9], by show va_P _ _ _ t.heap; rw [e9, ht]; exact hP⟩, hS.F ht⟩) hS.2.2 dX1_work_194
          · refine lv_aload_n hx hb dX1_work_152 rfl (lv_at hl 0 rfl) ?_
            refine in_i (v := (S1_load u).1) (As := []) (rest := []) (w1 := ww1 cI cJ cB h q1 q2 q3 ((S1_load u).2)) ⟨hx, hb, hml, hown, hts⟩ (c1_load l hap  u hd) gX1_work_X1_load rfl hdX1_load ⟨Nat.le_of_ble_eq_true rfl, Nat.le_of_ble_eq_true rfl⟩ hK rfl rfl hl.1 rfl (Nat.le_of_ble_eq_true rfl) dX1_work_153 ⟨Nat.zero_le _, Nat.zero_le _⟩ hP hS (fun _ h => h) (fun H locs hP hS _ _ => ?_)
            refine lv_goto (tgt := 178) hx hb dX1_work_156 (by decide) ?_
            refine lv_istore_n (lv' := [(3, .int ((S1_load u).1)), (0, .ref h), (1, .int oa), (2, .int wa)]) hx hb dX1_work_178 rfl hl (by decide) rfl (fun ls hl => ?_)
            refine lv_iload_n hx hb dX1_work_179 rfl (lv_at hl 0 rfl) ?_
            refine lv_if_ne (tgt := 193) hx hb dX1_work_180 (by decide) (fun (c14 : ¬ ((S1_load u).1) = 0) => ?_) (fun (c14 : ((S1_load u).1) = 0) => ?_)
            · refine lv_iload_n hx hb dX1_work_193 rfl (lv_at hl 0 rfl) ?_
              have e9 : S1_work oa wa u = ((S1_load u).1, (S1_load u).2) := by rw [S1_work, if_neg c1, if_neg c2, if_pos c3, if_neg c9, if_pos c10, if_neg c14]
              exact W.iret (v := (S1_load u).1) hx hb hr (fun t ht hW => ⟨⟨(S1_load u).1, (), rfl, by rw [e9], by show va_P _ _ _ t.heap; rw [e9, ht]; exact hP⟩, hS.F ht⟩) hS.2.2 dX1_work_194
            · refine lv_aload_n hx hb dX1_work_183 rfl (lv_at hl 1 rfl) ?_
              refine lv_dup hx hb dX1_work_184 rfl ?_
              refine va_get (D := D) (ci := 1) (v := .int (M_pc ((S1_load u).2))) (C := RX1) (T := TX1) (N := 12) hx hb hts iwX1_work hown hK hP 0 rfl rfl 2 (by decide) (hts (.fieldLink RX1 39 "WordMachineModel" "pc" "I") flX1_work_39) (fun _ h9 => h9) rfl dX1_work_185 ?_
              refine lv_iconst (v := 4) hx hb dX1_work_188 (by decide) ?_
              refine lv_iadd hx hb dX1_work_189 ?_
              refine va_put (D := D) (ci := 1) (v := .int ((M_pc ((S1_load u).2)) + 4)) (ty := .int) (C := RX1) (T := TX1) (N := 12) hx hb hts iwX1_work tyX1 tyX1_ok nmX1 hown hK hP (ap4_D hap) hS 0 rfl rfl 2 (by decide) (hts (.fieldLink RX1 39 "WordMachineModel" "pc" "I") flX1_work_39) (fun _ h9 => h9) rfl (by decide +kernel) rfl rfl (Nat.le_of_ble_eq_true rfl) dX1_work_190 (fun H locs hP _ hS => ?_)
              have hP : va_P D vwCl (ww1 cI cJ cB h q1 q2 q3 (Mp_pc ((M_pc ((S1_load u).2)) + 4) ((S1_load u).2))) H := hP
              refine lv_iload_n hx hb dX1_work_193 rfl (lv_at hl 0 rfl) ?_
              have e9 : S1_work oa wa u = ((S1_load u).1, Mp_pc ((M_pc ((S1_load u).2)) + 4) ((S1_load u).2)) := by rw [S1_work, if_neg c1, if_neg c2, if_pos c3, if_neg c9, if_pos c10, if_pos c14]
              exact W.iret (v := (S1_load u).1) hx hb hr (fun t ht hW => ⟨⟨(S1_load u).1, (), rfl, by rw [e9], by show va_P _ _ _ t.heap; rw [e9, ht]; exact hP⟩, hS.F ht⟩) hS.2.2 dX1_work_194
        · refine lv_aload_n hx hb dX1_work_110 rfl (lv_at hl 0 rfl) ?_
          refine va_get (D := D) (ci := 1) (v := .long (M_x u)) (C := RX1) (T := TX1) (N := 12) hx hb hts iwX1_work hown hK hP 0 rfl rfl 10 (by decide) (hts (.fieldLink RX1 59 "WordMachineModel" "x" "J") flX1_work_59) (fun _ h9 => h9) rfl dX1_work_111 ?_
          refine lv_aload_n hx hb dX1_work_114 rfl (lv_at hl 0 rfl) ?_
          refine va_get (D := D) (ci := 1) (v := .int (M_im u)) (C := RX1) (T := TX1) (N := 12) hx hb hts iwX1_work hown hK hP 0 rfl rfl 9 (by decide) (hts (.fieldLink RX1 73 "WordMachineModel" "immediate" "I") flX1_work_73) (fun _ h9 => h9) rfl dX1_work_115 ?_
          refine lv_i2l (v := (M_im u).toInt64) hx hb dX1_work_118 rfl ?_
          refine lv_ladd hx hb dX1_work_119 ?_
          refine lv_l2i (v := ((M_x u) + ((M_im u).toInt64)).toInt32) hx hb dX1_work_120 rfl ?_
          refine lv_bipush (v := (-2)) hx hb dX1_work_121 (by decide) ?_
          refine lv_iand hx hb dX1_work_123 ?_
          refine lv_istore_n (lv' := [(3, .int ((((M_x u) + ((M_im u).toInt64)).toInt32) &&& (-2))), (0, .ref h), (1, .int oa), (2, .int wa)]) hx hb dX1_work_124 rfl hl (by decide) rfl (fun ls hl => ?_)
          refine lv_aload_n hx hb dX1_work_125 rfl (lv_at hl 1 rfl) ?_
          refine lv_aload_n hx hb dX1_work_126 rfl (lv_at hl 1 rfl) ?_
          refine va_get (D := D) (ci := 1) (v := .int (M_d u)) (C := RX1) (T := TX1) (N := 12) hx hb hts iwX1_work hown hK hP 0 rfl rfl 6 (by decide) (hts (.fieldLink RX1 53 "WordMachineModel" "d" "I") flX1_work_53) (fun _ h9 => h9) rfl dX1_work_127 ?_
          refine lv_aload_n hx hb dX1_work_130 rfl (lv_at hl 1 rfl) ?_
          refine va_get (D := D) (ci := 1) (v := .int (M_pc u)) (C := RX1) (T := TX1) (N := 12) hx hb hts iwX1_work hown hK hP 0 rfl rfl 2 (by decide) (hts (.fieldLink RX1 39 "WordMachineModel" "pc" "I") flX1_work_39) (fun _ h9 => h9) rfl dX1_work_131 ?_
          refine lv_iconst (v := 4) hx hb dX1_work_134 (by decide) ?_
          refine lv_iadd hx hb dX1_work_135 ?_
          refine lv_i2l (v := ((M_pc u) + 4).toInt64) hx hb dX1_work_136 rfl ?_
          refine in_v (As := [.int (M_d u), .long (((M_pc u) + 4).toInt64)]) (rest := []) (w1 := ww1 cI cJ cB h q1 q2 q3 (S1_give (M_d u) (((M_pc u) + 4).toInt64) u)) ⟨hx, hb, hml, hown, hts⟩ (c1_give l hap (M_d u) (((M_pc u) + 4).toInt64) u hd) gX1_work_X1_give rfl hdX1_give ⟨Nat.le_of_ble_eq_true rfl, Nat.le_of_ble_eq_true rfl⟩ hK rfl rfl hl.1 rfl (Nat.le_of_ble_eq_true rfl) dX1_work_137 ⟨Nat.zero_le _, Nat.zero_le _⟩ hP hS (fun _ h => h) (fun H locs hP hS _ _ => ?_)
          refine lv_aload_n hx hb dX1_work_140 rfl (lv_at hl 1 rfl) ?_
          refine lv_iload_n hx hb dX1_work_141 rfl (lv_at hl 0 rfl) ?_
          refine va_put (D := D) (ci := 1) (v := .int ((((M_x u) + ((M_im u).toInt64)).toInt32) &&& (-2))) (ty := .int) (C := RX1) (T := TX1) (N := 12) hx hb hts iwX1_work tyX1 tyX1_ok nmX1 hown hK hP (ap4_D hap) hS 0 rfl rfl 2 (by decide) (hts (.fieldLink RX1 39 "WordMachineModel" "pc" "I") flX1_work_39) (fun _ h9 => h9) rfl (by decide +kernel) rfl rfl (Nat.le_of_ble_eq_true rfl) dX1_work_142 (fun H locs hP _ hS => ?_)
          have hP : va_P D vwCl (ww1 cI cJ cB h q1 q2 q3 (Mp_pc ((((M_x u) + ((M_im u).toInt64)).toInt32) &&& (-2)) (S1_give (M_d u) (((M_pc u) + 4).toInt64) u))) H := hP
          refine lv_iconst (v := 0) hx hb dX1_work_145 (by decide) ?_
          have e9 : S1_work oa wa u = ((0 : Int32), Mp_pc ((((M_x u) + ((M_im u).toInt64)).toInt32) &&& (-2)) (S1_give (M_d u) (((M_pc u) + 4).toInt64) u)) := by rw [S1_work, if_neg c1, if_neg c2, if_pos c3, if_pos c9]
          exact W.iret (v := (0 : Int32)) hx hb hr (fun t ht hW => ⟨⟨(0 : Int32), (), rfl, by rw [e9], by show va_P _ _ _ t.heap; rw [e9, ht]; exact hP⟩, hS.F ht⟩) hS.2.2 dX1_work_146
    · refine lv_iload_n hx hb dX1_work_18 rfl (lv_at hl 2 rfl) ?_
      refine lv_bipush (v := 21) hx hb dX1_work_19 (by decide) ?_
      refine lv_bipush (v := 10) hx hb dX1_work_21 (by decide) ?_
      refine pu_i (v := S1_bits wa (21) (10)) (As := [.int wa, .int 21, .int 10]) (rest := []) ⟨hx, hb, hml, hown, hts⟩ (c1_bits l wa (21) (10) ) gX1_work_X1_bits rfl hdX1_bits ⟨Nat.le_of_ble_eq_true rfl, Nat.le_of_ble_eq_true rfl⟩ hl.1 rfl (Nat.le_of_ble_eq_true rfl) dX1_work_23 ⟨Nat.zero_le _, Nat.zero_le _⟩ hP hS (fun H locs hP hS => ?_)
      refine lv_iconst (v := 2) hx hb dX1_work_26 (by decide) ?_
      refine lv_imul hx hb dX1_work_27 ?_
      refine lv_iload_n hx hb dX1_work_28 rfl (lv_at hl 2 rfl) ?_
      refine lv_bipush (v := 20) hx hb dX1_work_29 (by decide) ?_
      refine lv_iconst (v := 1) hx hb dX1_work_31 (by decide) ?_
      refine pu_i (v := S1_bits wa (20) (1)) (As := [.int wa, .int 20, .int 1]) (rest := [.int ((S1_bits wa (21) (10)) * 2)]) ⟨hx, hb, hml, hown, hts⟩ (c1_bits l wa (20) (1) ) gX1_work_X1_bits rfl hdX1_bits ⟨Nat.le_of_ble_eq_true rfl, Nat.le_of_ble_eq_true rfl⟩ hl.1 rfl (Nat.le_of_ble_eq_true rfl) dX1_work_32 ⟨Nat.zero_le _, Nat.zero_le _⟩ hP hS (fun H locs hP hS => ?_)
      refine lv_sipush (v := 2048) hx hb dX1_work_35 (by decide) ?_
      refine lv_imul hx hb dX1_work_38 ?_
      refine lv_iadd hx hb dX1_work_39 ?_
      refine lv_iload_n hx hb dX1_work_40 rfl (lv_at hl 2 rfl) ?_
      refine lv_bipush (v := 12) hx hb dX1_work_41 (by decide) ?_
      refine lv_bipush (v := 8) hx hb dX1_work_43 (by decide) ?_
      refine pu_i (v := S1_bits wa (12) (8)) (As := [.int wa, .int 12, .int 8]) (rest := [.int (((S1_bits wa (21) (10)) * 2) + ((S1_bits wa (20) (1)) * 2048))]) ⟨hx, hb, hml, hown, hts⟩ (c1_bits l wa (12) (8) ) gX1_work_X1_bits rfl hdX1_bits ⟨Nat.le_of_ble_eq_true rfl, Nat.le_of_ble_eq_true rfl⟩ hl.1 rfl (Nat.le_of_ble_eq_true rfl) dX1_work_45 ⟨Nat.zero_le _, Nat.zero_le _⟩ hP hS (fun H locs hP hS => ?_)
      refine lv_sipush (v := 4096) hx hb dX1_work_48 (by decide) ?_
      refine lv_imul hx hb dX1_work_51 ?_
      refine lv_iadd hx hb dX1_work_52 ?_
      refine lv_iload_n hx hb dX1_work_53 rfl (lv_at hl 2 rfl) ?_
      refine lv_bipush (v := 31) hx hb dX1_work_54 (by decide) ?_
      refine lv_iconst (v := 1) hx hb dX1_work_56 (by decide) ?_
      refine pu_i (v := S1_bits wa (31) (1)) (As := [.int wa, .int 31, .int 1]) (rest := [.int ((((S1_bits wa (21) (10)) * 2) + ((S1_bits wa (20) (1)) * 2048)) + ((S1_bits wa (12) (8)) * 4096))]) ⟨hx, hb, hml, hown, hts⟩ (c1_bits l wa (31) (1) ) gX1_work_X1_bits rfl hdX1_bits ⟨Nat.le_of_ble_eq_true rfl, Nat.le_of_ble_eq_true rfl⟩ hl.1 rfl (Nat.le_of_ble_eq_true rfl) dX1_work_57 ⟨Nat.zero_le _, Nat.zero_le _⟩ hP hS (fun H locs hP hS => ?_)
      refine lv_ldc hx hb hown (hts (.constant RX1 83 (1048576)) ctX1_work_83) dX1_work_60 ?_
      refine lv_imul hx hb dX1_work_62 ?_
      refine lv_iadd hx hb dX1_work_63 ?_
      refine lv_istore_n (lv' := [(3, .int (((((S1_bits wa (21) (10)) * 2) + ((S1_bits wa (20) (1)) * 2048)) + ((S1_bits wa (12) (8)) * 4096)) + ((S1_bits wa (31) (1)) * 1048576))), (0, .ref h), (1, .int oa), (2, .int wa)]) hx hb dX1_work_64 rfl hl (by decide) rfl (fun ls hl => ?_)
      refine lv_aload_n hx hb dX1_work_65 rfl (lv_at hl 1 rfl) ?_
      refine lv_aload_n hx hb dX1_work_66 rfl (lv_at hl 1 rfl) ?_
      refine va_get (D := D) (ci := 1) (v := .int (M_d u)) (C := RX1) (T := TX1) (N := 12) hx hb hts iwX1_work hown hK hP 0 rfl rfl 6 (by decide) (hts (.fieldLink RX1 53 "WordMachineModel" "d" "I") flX1_work_53) (fun _ h9 => h9) rfl dX1_work_67 ?_
      refine lv_aload_n hx hb dX1_work_70 rfl (lv_at hl 1 rfl) ?_
      refine va_get (D := D) (ci := 1) (v := .int (M_pc u)) (C := RX1) (T := TX1) (N := 12) hx hb hts iwX1_work hown hK hP 0 rfl rfl 2 (by decide) (hts (.fieldLink RX1 39 "WordMachineModel" "pc" "I") flX1_work_39) (fun _ h9 => h9) rfl dX1_work_71 ?_
      refine lv_iconst (v := 4) hx hb dX1_work_74 (by decide) ?_
      refine lv_iadd hx hb dX1_work_75 ?_
      refine lv_i2l (v := ((M_pc u) + 4).toInt64) hx hb dX1_work_76 rfl ?_
      refine in_v (As := [.int (M_d u), .long (((M_pc u) + 4).toInt64)]) (rest := []) (w1 := ww1 cI cJ cB h q1 q2 q3 (S1_give (M_d u) (((M_pc u) + 4).toInt64) u)) ⟨hx, hb, hml, hown, hts⟩ (c1_give l hap (M_d u) (((M_pc u) + 4).toInt64) u hd) gX1_work_X1_give rfl hdX1_give ⟨Nat.le_of_ble_eq_true rfl, Nat.le_of_ble_eq_true rfl⟩ hK rfl rfl hl.1 rfl (Nat.le_of_ble_eq_true rfl) dX1_work_77 ⟨Nat.zero_le _, Nat.zero_le _⟩ hP hS (fun _ h => h) (fun H locs hP hS _ _ => ?_)
      refine lv_aload_n hx hb dX1_work_80 rfl (lv_at hl 1 rfl) ?_
      refine lv_dup hx hb dX1_work_81 rfl ?_
      refine va_get (D := D) (ci := 1) (v := .int (M_pc (S1_give (M_d u) (((M_pc u) + 4).toInt64) u))) (C := RX1) (T := TX1) (N := 12) hx hb hts iwX1_work hown hK hP 0 rfl rfl 2 (by decide) (hts (.fieldLink RX1 39 "WordMachineModel" "pc" "I") flX1_work_39) (fun _ h9 => h9) rfl dX1_work_82 ?_
      refine lv_iload_n hx hb dX1_work_85 rfl (lv_at hl 0 rfl) ?_
      refine lv_bipush (v := 21) hx hb dX1_work_86 (by decide) ?_
      refine pu_i (v := S1_withSign (((((S1_bits wa (21) (10)) * 2) + ((S1_bits wa (20) (1)) * 2048)) + ((S1_bits wa (12) (8)) * 4096)) + ((S1_bits wa (31) (1)) * 1048576)) (21)) (As := [.int (((((S1_bits wa (21) (10)) * 2) + ((S1_bits wa (20) (1)) * 2048)) + ((S1_bits wa (12) (8)) * 4096)) + ((S1_bits wa (31) (1)) * 1048576)), .int 21]) (rest := [.int (M_pc (S1_give (M_d u) (((M_pc u) + 4).toInt64) u)), .ref h]) ⟨hx, hb, hml, hown, hts⟩ (c1_withSign l (((((S1_bits wa (21) (10)) * 2) + ((S1_bits wa (20) (1)) * 2048)) + ((S1_bits wa (12) (8)) * 4096)) + ((S1_bits wa (31) (1)) * 1048576)) (21) ) gX1_work_X1_withSign rfl hdX1_withSign ⟨Nat.le_of_ble_eq_true rfl, Nat.le_of_ble_eq_true rfl⟩ hl.1 rfl (Nat.le_of_ble_eq_true rfl) dX1_work_88 ⟨Nat.zero_le _, Nat.zero_le _⟩ hP hS (fun H locs hP hS => ?_)
      refine lv_iadd hx hb dX1_work_91 ?_
      refine va_put (D := D) (ci := 1) (v := .int ((M_pc (S1_give (M_d u) (((M_pc u) + 4).toInt64) u)) + (S1_withSign (((((S1_bits wa (21) (10)) * 2) + ((S1_bits wa (20) (1)) * 2048)) + ((S1_bits wa (12) (8)) * 4096)) + ((S1_bits wa (31) (1)) * 1048576)) (21)))) (ty := .int) (C := RX1) (T := TX1) (N := 12) hx hb hts iwX1_work tyX1 tyX1_ok nmX1 hown hK hP (ap4_D hap) hS 0 rfl rfl 2 (by decide) (hts (.fieldLink RX1 39 "WordMachineModel" "pc" "I") flX1_work_39) (fun _ h9 => h9) rfl (by decide +kernel) rfl rfl (Nat.le_of_ble_eq_true rfl) dX1_work_92 (fun H locs hP _ hS => ?_)
      have hP : va_P D vwCl (ww1 cI cJ cB h q1 q2 q3 (Mp_pc ((M_pc (S1_give (M_d u) (((M_pc u) + 4).toInt64) u)) + (S1_withSign (((((S1_bits wa (21) (10)) * 2) + ((S1_bits wa (20) (1)) * 2048)) + ((S1_bits wa (12) (8)) * 4096)) + ((S1_bits wa (31) (1)) * 1048576)) (21))) (S1_give (M_d u) (((M_pc u) + 4).toInt64) u))) H := hP
      refine lv_iconst (v := 0) hx hb dX1_work_95 (by decide) ?_
      have e9 : S1_work oa wa u = ((0 : Int32), Mp_pc ((M_pc (S1_give (M_d u) (((M_pc u) + 4).toInt64) u)) + (S1_withSign (((((S1_bits wa (21) (10)) * 2) + ((S1_bits wa (20) (1)) * 2048)) + ((S1_bits wa (12) (8)) * 4096)) + ((S1_bits wa (31) (1)) * 1048576)) (21))) (S1_give (M_d u) (((M_pc u) + 4).toInt64) u)) := by rw [S1_work, if_neg c1, if_pos c2]
      exact W.iret (v := (0 : Int32)) hx hb hr (fun t ht hW => ⟨⟨(0 : Int32), (), rfl, by rw [e9], by show va_P _ _ _ t.heap; rw [e9, ht]; exact hP⟩, hS.F ht⟩) hS.2.2 dX1_work_96
  · refine lv_aload_n hx hb dX1_work_6 rfl (lv_at hl 0 rfl) ?_
    refine lv_iload_n hx hb dX1_work_7 rfl (lv_at hl 2 rfl) ?_
    refine in_i (v := (S1_branch wa u).1) (As := [.int wa]) (rest := []) (w1 := ww1 cI cJ cB h q1 q2 q3 ((S1_branch wa u).2)) ⟨hx, hb, hml, hown, hts⟩ (c1_branch l hap wa u ) gX1_work_X1_branch rfl hdX1_branch ⟨Nat.le_of_ble_eq_true rfl, Nat.le_of_ble_eq_true rfl⟩ hK rfl rfl hl.1 rfl (Nat.le_of_ble_eq_true rfl) dX1_work_8 ⟨Nat.zero_le _, Nat.zero_le _⟩ hP hS (fun _ h => h) (fun H locs hP hS _ _ => ?_)
    have e9 : S1_work oa wa u = ((S1_branch wa u).1, (S1_branch wa u).2) := by rw [S1_work, if_pos c1]
    exact W.iret (v := (S1_branch wa u).1) hx hb hr (fun t ht hW => ⟨⟨(S1_branch wa u).1, (), rfl, by rw [e9], by show va_P _ _ _ t.heap; rw [e9, ht]; exact hP⟩, hS.F ht⟩) hS.2.2 dX1_work_11
theorem iwX1_step : ∀ w ∈ wsX10, w ∈ wsX1_step := by decide +kernel
theorem flX1_step_7 : Cond.fieldLink RX1 7 "WordMachineModel" "code" "[I" ∈ wsX1_step := by decide +kernel
theorem flX1_step_13 : Cond.fieldLink RX1 13 "WordMachineModel" "registers" "[J" ∈ wsX1_step := by decide +kernel
theorem flX1_step_21 : Cond.fieldLink RX1 21 "WordMachineModel" "words" "I" ∈ wsX1_step := by decide +kernel
theorem flX1_step_39 : Cond.fieldLink RX1 39 "WordMachineModel" "pc" "I" ∈ wsX1_step := by decide +kernel
theorem flX1_step_42 : Cond.fieldLink RX1 42 "WordMachineModel" "steps" "I" ∈ wsX1_step := by decide +kernel
theorem flX1_step_53 : Cond.fieldLink RX1 53 "WordMachineModel" "d" "I" ∈ wsX1_step := by decide +kernel
theorem flX1_step_56 : Cond.fieldLink RX1 56 "WordMachineModel" "t" "I" ∈ wsX1_step := by decide +kernel
theorem flX1_step_59 : Cond.fieldLink RX1 59 "WordMachineModel" "x" "J" ∈ wsX1_step := by decide +kernel
theorem flX1_step_63 : Cond.fieldLink RX1 63 "WordMachineModel" "y" "J" ∈ wsX1_step := by decide +kernel
theorem flX1_step_66 : Cond.fieldLink RX1 66 "WordMachineModel" "s" "I" ∈ wsX1_step := by decide +kernel
theorem flX1_step_73 : Cond.fieldLink RX1 73 "WordMachineModel" "immediate" "I" ∈ wsX1_step := by decide +kernel
theorem hdX1_step : yX1_step.cls = RX1 ∧ yX1_step.cls ≠ "java/lang/invoke/MethodHandle" ∧ yX1_step.cls ≠ "java/lang/invoke/VarHandle" ∧ (parseMethodDescriptor yX1_step.desc).map (fun d => d.parameters.length) = some 0 := by decide +kernel
set_option maxHeartbeats 4000000 in
set_option maxRecDepth 100000 in
theorem c1_step (l : Launch) {D : va_G} {cI cJ cB : ClassId} {h q1 q2 q3 : Nat} (hap : ap4 h q1 q2 q3)  (u : MS) (hw : M_wc u ≤ 1024) (hrg : RG u) : Ini l yX1_step wsX1_step 4 103 D (ty1 cI cJ cB) (wa0 h q1 q2 q3) [.ref h] (ww1 cI cJ cB h q1 q2 q3 u) (ww1 cI cJ cB h q1 q2 q3 (S1_step u).2) (S1_step u).1 := by
  refine Met.ofW (cc := cX1_step) (maxL := 3) (ret := (some .int)) (by decide) rfl ?_
  intro p e s m args below meth c s₁ B hml hv
  obtain ⟨rfl, hP, hK⟩ := hv
  have hx := B.exec
  have hb := B.bytes
  have hr := B.returns
  have hts := atoms_spec (ws := wsX1_step) B.pre
  have hown : s.vm.findClass RX1 = some m.cls := findClass_of_methodNamed B.named
  have hlocks := B.notSynchronized
  have hS : va_S (wa0 h q1 q2 q3) s.heap s.heap [] := va_S.rf
  have hl := lv_entry ([.ref h]) (n := 3) (Nat.le_of_ble_eq_true rfl)
  rw [lg_entry_eq]
  generalize (lg_sl ([.ref h]) ++ List.replicate (3 - (lg_sl ([.ref h])).length) Slot.unset).toArray = ls at hl ⊢
  have hl : lv_has ls 3 [(0, .ref h)] := hl
  refine lv_aload_n hx hb dX1_step_0 rfl (lv_at hl 0 rfl) ?_
  refine va_get (D := D) (ci := 1) (v := .int (M_pc u)) (C := RX1) (T := TX1) (N := 12) hx hb hts iwX1_step hown hK hP 0 rfl rfl 2 (by decide) (hts (.fieldLink RX1 39 "WordMachineModel" "pc" "I") flX1_step_39) (fun _ h9 => h9) rfl dX1_step_1 ?_
  refine lv_if_lt (tgt := 29) hx hb dX1_step_4 (by decide) (fun (c1 : (M_pc u) < 0) => ?_) (fun (c1 : ¬ (M_pc u) < 0) => ?_)
  · refine lv_iconst (v := 2) hx hb dX1_step_29 (by decide) ?_
    have e9 : S1_step u = ((2 : Int32), u) := by rw [S1_step, if_pos c1]
    exact W.iret (v := (2 : Int32)) hx hb hr (fun t ht hW => ⟨⟨(2 : Int32), (), rfl, by rw [e9], by show va_P _ _ _ t.heap; rw [e9, ht]; exact hP⟩, hS.F ht⟩) hS.2.2 dX1_step_30
  · refine lv_aload_n hx hb dX1_step_7 rfl (lv_at hl 0 rfl) ?_
    refine va_get (D := D) (ci := 1) (v := .int (M_pc u)) (C := RX1) (T := TX1) (N := 12) hx hb hts iwX1_step hown hK hP 0 rfl rfl 2 (by decide) (hts (.fieldLink RX1 39 "WordMachineModel" "pc" "I") flX1_step_39) (fun _ h9 => h9) rfl dX1_step_8 ?_
    refine lv_iconst (v := 4) hx hb dX1_step_11 (by decide) ?_
    refine lv_irem hx hb dX1_step_12 (by decide) ?_
    refine lv_if_ne (tgt := 29) hx hb dX1_step_13 (by decide) (fun (c2 : ¬ ((M_pc u) - (M_pc u) / 4 * 4) = 0) => ?_) (fun (c2 : ((M_pc u) - (M_pc u) / 4 * 4) = 0) => ?_)
    · refine lv_iconst (v := 2) hx hb dX1_step_29 (by decide) ?_
      have e9 : S1_step u = ((2 : Int32), u) := by rw [S1_step, if_neg c1, if_neg c2]
      exact W.iret (v := (2 : Int32)) hx hb hr (fun t ht hW => ⟨⟨(2 : Int32), (), rfl, by rw [e9], by show va_P _ _ _ t.heap; rw [e9, ht]; exact hP⟩, hS.F ht⟩) hS.2.2 dX1_step_30
    · refine lv_aload_n hx hb dX1_step_16 rfl (lv_at hl 0 rfl) ?_
      refine va_get (D := D) (ci := 1) (v := .int (M_pc u)) (C := RX1) (T := TX1) (N := 12) hx hb hts iwX1_step hown hK hP 0 rfl rfl 2 (by decide) (hts (.fieldLink RX1 39 "WordMachineModel" "pc" "I") flX1_step_39) (fun _ h9 => h9) rfl dX1_step_17 ?_
      refine lv_iconst (v := 4) hx hb dX1_step_20 (by decide) ?_
      refine lv_idiv hx hb dX1_step_21 (by decide) ?_
      refine lv_aload_n hx hb dX1_step_22 rfl (lv_at hl 0 rfl) ?_
      refine va_get (D := D) (ci := 1) (v := .int (M_wc u)) (C := RX1) (T := TX1) (N := 12) hx hb hts iwX1_step hown hK hP 0 rfl rfl 1 (by decide) (hts (.fieldLink RX1 21 "WordMachineModel" "words" "I") flX1_step_21) (fun _ h9 => h9) rfl dX1_step_23 ?_
      refine lv_icmp_lt (tgt := 31) hx hb dX1_step_26 (by decide) (fun (c3 : ((M_pc u) / 4) < (M_wc u)) => ?_) (fun (c3 : ¬ ((M_pc u) / 4) < (M_wc u)) => ?_)
      · refine lv_aload_n hx hb dX1_step_31 rfl (lv_at hl 0 rfl) ?_
        refine va_get (D := D) (ci := 1) (v := .ref q1) (C := RX1) (T := TX1) (N := 12) hx hb hts iwX1_step hown hK hP 0 rfl rfl 0 (by decide) (hts (.fieldLink RX1 7 "WordMachineModel" "code" "[I") flX1_step_7) (fun _ h9 => h9) rfl dX1_step_32 ?_
        refine lv_aload_n hx hb dX1_step_35 rfl (lv_at hl 0 rfl) ?_
        refine va_get (D := D) (ci := 1) (v := .int (M_pc u)) (C := RX1) (T := TX1) (N := 12) hx hb hts iwX1_step hown hK hP 0 rfl rfl 2 (by decide) (hts (.fieldLink RX1 39 "WordMachineModel" "pc" "I") flX1_step_39) (fun _ h9 => h9) rfl dX1_step_36 ?_
        refine lv_iconst (v := 4) hx hb dX1_step_39 (by decide) ?_
        refine lv_idiv hx hb dX1_step_40 (by decide) ?_
        refine va_iald hx hb hK hP 1 0 rfl rfl (ix_code c1 c3 hw) dX1_step_41 ?_
        refine lv_istore_n (lv' := [(1, .int (M_code u ((M_pc u) / 4).toNatClampNeg)), (0, .ref h)]) hx hb dX1_step_42 rfl hl (by decide) rfl (fun ls hl => ?_)
        refine lv_iload_n hx hb dX1_step_43 rfl (lv_at hl 0 rfl) ?_
        refine lv_bipush (v := 115) hx hb dX1_step_44 (by decide) ?_
        refine lv_icmp_ne (tgt := 71) hx hb dX1_step_46 (by decide) (fun (c4 : ¬ (M_code u ((M_pc u) / 4).toNatClampNeg) = 115) => ?_) (fun (c4 : (M_code u ((M_pc u) / 4).toNatClampNeg) = 115) => ?_)
        · refine lv_aload_n hx hb dX1_step_71 rfl (lv_at hl 1 rfl) ?_
          refine lv_iload_n hx hb dX1_step_72 rfl (lv_at hl 0 rfl) ?_
          refine lv_bipush (v := 7) hx hb dX1_step_73 (by decide) ?_
          refine lv_iconst (v := 5) hx hb dX1_step_75 (by decide) ?_
          refine pu_i (v := S1_bits (M_code u ((M_pc u) / 4).toNatClampNeg) (7) (5)) (As := [.int (M_code u ((M_pc u) / 4).toNatClampNeg), .int 7, .int 5]) (rest := [.ref h]) ⟨hx, hb, hml, hown, hts⟩ (c1_bits l (M_code u ((M_pc u) / 4).toNatClampNeg) (7) (5) ) gX1_step_X1_bits rfl hdX1_bits ⟨Nat.le_of_ble_eq_true rfl, Nat.le_of_ble_eq_true rfl⟩ hl.1 rfl (Nat.le_of_ble_eq_true rfl) dX1_step_76 ⟨Nat.zero_le _, Nat.zero_le _⟩ hP hS (fun H locs hP hS => ?_)
          refine va_put (D := D) (ci := 1) (v := .int (S1_bits (M_code u ((M_pc u) / 4).toNatClampNeg) (7) (5))) (ty := .int) (C := RX1) (T := TX1) (N := 12) hx hb hts iwX1_step tyX1 tyX1_ok nmX1 hown hK hP (ap4_D hap) hS 0 rfl rfl 6 (by decide) (hts (.fieldLink RX1 53 "WordMachineModel" "d" "I") flX1_step_53) (fun _ h9 => h9) rfl (by decide +kernel) rfl rfl (Nat.le_of_ble_eq_true rfl) dX1_step_79 (fun H locs hP _ hS => ?_)
          have hP : va_P D vwCl (ww1 cI cJ cB h q1 q2 q3 (Mp_d (S1_bits (M_code u ((M_pc u) / 4).toNatClampNeg) (7) (5)) u)) H := hP
          refine lv_aload_n hx hb dX1_step_82 rfl (lv_at hl 1 rfl) ?_
          refine lv_iload_n hx hb dX1_step_83 rfl (lv_at hl 0 rfl) ?_
          refine lv_bipush (v := 12) hx hb dX1_step_84 (by decide) ?_
          refine lv_iconst (v := 3) hx hb dX1_step_86 (by decide) ?_
          refine pu_i (v := S1_bits (M_code u ((M_pc u) / 4).toNatClampNeg) (12) (3)) (As := [.int (M_code u ((M_pc u) / 4).toNatClampNeg), .int 12, .int 3]) (rest := [.ref h]) ⟨hx, hb, hml, hown, hts⟩ (c1_bits l (M_code u ((M_pc u) / 4).toNatClampNeg) (12) (3) ) gX1_step_X1_bits rfl hdX1_bits ⟨Nat.le_of_ble_eq_true rfl, Nat.le_of_ble_eq_true rfl⟩ hl.1 rfl (Nat.le_of_ble_eq_true rfl) dX1_step_87 ⟨Nat.zero_le _, Nat.zero_le _⟩ hP hS (fun H locs hP hS => ?_)
          refine va_put (D := D) (ci := 1) (v := .int (S1_bits (M_code u ((M_pc u) / 4).toNatClampNeg) (12) (3))) (ty := .int) (C := RX1) (T := TX1) (N := 12) hx hb hts iwX1_step tyX1 tyX1_ok nmX1 hown hK hP (ap4_D hap) hS 0 rfl rfl 7 (by decide) (hts (.fieldLink RX1 56 "WordMachineModel" "t" "I") flX1_step_56) (fun _ h9 => h9) rfl (by decide +kernel) rfl rfl (Nat.le_of_ble_eq_true rfl) dX1_step_90 (fun H locs hP _ hS => ?_)
          have hP : va_P D vwCl (ww1 cI cJ cB h q1 q2 q3 (Mp_t (S1_bits (M_code u ((M_pc u) / 4).toNatClampNeg) (12) (3)) (Mp_d (S1_bits (M_code u ((M_pc u) / 4).toNatClampNeg) (7) (5)) u))) H := hP
          refine lv_aload_n hx hb dX1_step_93 rfl (lv_at hl 1 rfl) ?_
          refine lv_aload_n hx hb dX1_step_94 rfl (lv_at hl 1 rfl) ?_
          refine va_get (D := D) (ci := 1) (v := .ref q2) (C := RX1) (T := TX1) (N := 12) hx hb hts iwX1_step hown hK hP 0 rfl rfl 4 (by decide) (hts (.fieldLink RX1 13 "WordMachineModel" "registers" "[J") flX1_step_13) (fun _ h9 => h9) rfl dX1_step_95 ?_
          refine lv_iload_n hx hb dX1_step_98 rfl (lv_at hl 0 rfl) ?_
          refine lv_bipush (v := 15) hx hb dX1_step_99 (by decide) ?_
          refine lv_iconst (v := 5) hx hb dX1_step_101 (by decide) ?_
          refine pu_i (v := S1_bits (M_code u ((M_pc u) / 4).toNatClampNeg) (15) (5)) (As := [.int (M_code u ((M_pc u) / 4).toNatClampNeg), .int 15, .int 5]) (rest := [.ref q2, .ref h]) ⟨hx, hb, hml, hown, hts⟩ (c1_bits l (M_code u ((M_pc u) / 4).toNatClampNeg) (15) (5) ) gX1_step_X1_bits rfl hdX1_bits ⟨Nat.le_of_ble_eq_true rfl, Nat.le_of_ble_eq_true rfl⟩ hl.1 rfl (Nat.le_of_ble_eq_true rfl) dX1_step_102 ⟨Nat.zero_le _, Nat.zero_le _⟩ hP hS (fun H locs hP hS => ?_)
          refine va_lald hx hb hK hP 2 1 rfl rfl (in_bits5 _ _) dX1_step_105 ?_
          refine va_put (D := D) (ci := 1) (v := .long (M_regs (Mp_t (S1_bits (M_code u ((M_pc u) / 4).toNatClampNeg) (12) (3)) (Mp_d (S1_bits (M_code u ((M_pc u) / 4).toNatClampNeg) (7) (5)) u)) (S1_bits (M_code u ((M_pc u) / 4).toNatClampNeg) (15) (5)).toNatClampNeg)) (ty := .long) (C := RX1) (T := TX1) (N := 12) hx hb hts iwX1_step tyX1 tyX1_ok nmX1 hown hK hP (ap4_D hap) hS 0 rfl rfl 10 (by decide) (hts (.fieldLink RX1 59 "WordMachineModel" "x" "J") flX1_step_59) (fun _ h9 => h9) rfl (by decide +kernel) rfl rfl (Nat.le_of_ble_eq_true rfl) dX1_step_106 (fun H locs hP _ hS => ?_)
          have hP : va_P D vwCl (ww1 cI cJ cB h q1 q2 q3 (Mp_x (M_regs (Mp_t (S1_bits (M_code u ((M_pc u) / 4).toNatClampNeg) (12) (3)) (Mp_d (S1_bits (M_code u ((M_pc u) / 4).toNatClampNeg) (7) (5)) u)) (S1_bits (M_code u ((M_pc u) / 4).toNatClampNeg) (15) (5)).toNatClampNeg) (Mp_t (S1_bits (M_code u ((M_pc u) / 4).toNatClampNeg) (12) (3)) (Mp_d (S1_bits (M_code u ((M_pc u) / 4).toNatClampNeg) (7) (5)) u)))) H := hP
          refine lv_aload_n hx hb dX1_step_109 rfl (lv_at hl 1 rfl) ?_
          refine lv_aload_n hx hb dX1_step_110 rfl (lv_at hl 1 rfl) ?_
          refine va_get (D := D) (ci := 1) (v := .ref q2) (C := RX1) (T := TX1) (N := 12) hx hb hts iwX1_step hown hK hP 0 rfl rfl 4 (by decide) (hts (.fieldLink RX1 13 "WordMachineModel" "registers" "[J") flX1_step_13) (fun _ h9 => h9) rfl dX1_step_111 ?_
          refine lv_iload_n hx hb dX1_step_114 rfl (lv_at hl 0 rfl) ?_
          refine lv_bipush (v := 20) hx hb dX1_step_115 (by decide) ?_
          refine lv_iconst (v := 5) hx hb dX1_step_117 (by decide) ?_
          refine pu_i (v := S1_bits (M_code u ((M_pc u) / 4).toNatClampNeg) (20) (5)) (As := [.int (M_code u ((M_pc u) / 4).toNatClampNeg), .int 20, .int 5]) (rest := [.ref q2, .ref h]) ⟨hx, hb, hml, hown, hts⟩ (c1_bits l (M_code u ((M_pc u) / 4).toNatClampNeg) (20) (5) ) gX1_step_X1_bits rfl hdX1_bits ⟨Nat.le_of_ble_eq_true rfl, Nat.le_of_ble_eq_true rfl⟩ hl.1 rfl (Nat.le_of_ble_eq_true rfl) dX1_step_118 ⟨Nat.zero_le _, Nat.zero_le _⟩ hP hS (fun H locs hP hS => ?_)
          refine va_lald hx hb hK hP 2 1 rfl rfl (in_bits5 _ _) dX1_step_121 ?_
          refine va_put (D := D) (ci := 1) (v := .long (M_regs (Mp_x (M_regs (Mp_t (S1_bits (M_code u ((M_pc u) / 4).toNatClampNeg) (12) (3)) (Mp_d (S1_bits (M_code u ((M_pc u) / 4).toNatClampNeg) (7) (5)) u)) (S1_bits (M_code u ((M_pc u) / 4).toNatClampNeg) (15) (5)).toNatClampNeg) (Mp_t (S1_bits (M_code u ((M_pc u) / 4).toNatClampNeg) (12) (3)) (Mp_d (S1_bits (M_code u ((M_pc u) / 4).toNatClampNeg) (7) (5)) u))) (S1_bits (M_code u ((M_pc u) / 4).toNatClampNeg) (20) (5)).toNatClampNeg)) (ty := .long) (C := RX1) (T := TX1) (N := 12) hx hb hts iwX1_step tyX1 tyX1_ok nmX1 hown hK hP (ap4_D hap) hS 0 rfl rfl 11 (by decide) (hts (.fieldLink RX1 63 "WordMachineModel" "y" "J") flX1_step_63) (fun _ h9 => h9) rfl (by decide +kernel) rfl rfl (Nat.le_of_ble_eq_true rfl) dX1_step_122 (fun H locs hP _ hS => ?_)
          have hP : va_P D vwCl (ww1 cI cJ cB h q1 q2 q3 (Mp_y (M_regs (Mp_x (M_regs (Mp_t (S1_bits (M_code u ((M_pc u) / 4).toNatClampNeg) (12) (3)) (Mp_d (S1_bits (M_code u ((M_pc u) / 4).toNatClampNeg) (7) (5)) u)) (S1_bits (M_code u ((M_pc u) / 4).toNatClampNeg) (15) (5)).toNatClampNeg) (Mp_t (S1_bits (M_code u ((M_pc u) / 4).toNatClampNeg) (12) (3)) (Mp_d (S1_bits (M_code u ((M_pc u) / 4).toNatClampNeg) (7) (5)) u))) (S1_bits (M_code u ((M_pc u) / 4).toNatClampNeg) (20) (5)).toNatClampNeg) (Mp_x (M_regs (Mp_t (S1_bits (M_code u ((M_pc u) / 4).toNatClampNeg) (12) (3)) (Mp_d (S1_bits (M_code u ((M_pc u) / 4).toNatClampNeg) (7) (5)) u)) (S1_bits (M_code u ((M_pc u) / 4).toNatClampNeg) (15) (5)).toNatClampNeg) (Mp_t (S1_bits (M_code u ((M_pc u) / 4).toNatClampNeg) (12) (3)) (Mp_d (S1_bits (M_code u ((M_pc u) / 4).toNatClampNeg) (7) (5)) u))))) H := hP
          refine lv_aload_n hx hb dX1_step_125 rfl (lv_at hl 1 rfl) ?_
          refine lv_iload_n hx hb dX1_step_126 rfl (lv_at hl 0 rfl) ?_
          refine lv_bipush (v := 25) hx hb dX1_step_127 (by decide) ?_
          refine lv_bipush (v := 7) hx hb dX1_step_129 (by decide) ?_
          refine pu_i (v := S1_bits (M_code u ((M_pc u) / 4).toNatClampNeg) (25) (7)) (As := [.int (M_code u ((M_pc u) / 4).toNatClampNeg), .int 25, .int 7]) (rest := [.ref h]) ⟨hx, hb, hml, hown, hts⟩ (c1_bits l (M_code u ((M_pc u) / 4).toNatClampNeg) (25) (7) ) gX1_step_X1_bits rfl hdX1_bits ⟨Nat.le_of_ble_eq_true rfl, Nat.le_of_ble_eq_true rfl⟩ hl.1 rfl (Nat.le_of_ble_eq_true rfl) dX1_step_131 ⟨Nat.zero_le _, Nat.zero_le _⟩ hP hS (fun H locs hP hS => ?_)
          refine va_put (D := D) (ci := 1) (v := .int (S1_bits (M_code u ((M_pc u) / 4).toNatClampNeg) (25) (7))) (ty := .int) (C := RX1) (T := TX1) (N := 12) hx hb hts iwX1_step tyX1 tyX1_ok nmX1 hown hK hP (ap4_D hap) hS 0 rfl rfl 8 (by decide) (hts (.fieldLink RX1 66 "WordMachineModel" "s" "I") flX1_step_66) (fun _ h9 => h9) rfl (by decide +kernel) rfl rfl (Nat.le_of_ble_eq_true rfl) dX1_step_134 (fun H locs hP _ hS => ?_)
          have hP : va_P D vwCl (ww1 cI cJ cB h q1 q2 q3 (Mp_s (S1_bits (M_code u ((M_pc u) / 4).toNatClampNeg) (25) (7)) (Mp_y (M_regs (Mp_x (M_regs (Mp_t (S1_bits (M_code u ((M_pc u) / 4).toNatClampNeg) (12) (3)) (Mp_d (S1_bits (M_code u ((M_pc u) / 4).toNatClampNeg) (7) (5)) u)) (S1_bits (M_code u ((M_pc u) / 4).toNatClampNeg) (15) (5)).toNatClampNeg) (Mp_t (S1_bits (M_code u ((M_pc u) / 4).toNatClampNeg) (12) (3)) (Mp_d (S1_bits (M_code u ((M_pc u) / 4).toNatClampNeg) (7) (5)) u))) (S1_bits (M_code u ((M_pc u) / 4).toNatClampNeg) (20) (5)).toNatClampNeg) (Mp_x (M_regs (Mp_t (S1_bits (M_code u ((M_pc u) / 4).toNatClampNeg) (12) (3)) (Mp_d (S1_bits (M_code u ((M_pc u) / 4).toNatClampNeg) (7) (5)) u)) (S1_bits (M_code u ((M_pc u) / 4).toNatClampNeg) (15) (5)).toNatClampNeg) (Mp_t (S1_bits (M_code u ((M_pc u) / 4).toNatClampNeg) (12) (3)) (Mp_d (S1_bits (M_code u ((M_pc u) / 4).toNatClampNeg) (7) (5)) u)))))) H := hP
          refine lv_aload_n hx hb dX1_step_137 rfl (lv_at hl 1 rfl) ?_
          refine lv_iload_n hx hb dX1_step_138 rfl (lv_at hl 0 rfl) ?_
          refine lv_bipush (v := 20) hx hb dX1_step_139 (by decide) ?_
          refine lv_bipush (v := 12) hx hb dX1_step_141 (by decide) ?_
          refine pu_i (v := S1_bits (M_code u ((M_pc u) / 4).toNatClampNeg) (20) (12)) (As := [.int (M_code u ((M_pc u) / 4).toNatClampNeg), .int 20, .int 12]) (rest := [.ref h]) ⟨hx, hb, hml, hown, hts⟩ (c1_bits l (M_code u ((M_pc u) / 4).toNatClampNeg) (20) (12) ) gX1_step_X1_bits rfl hdX1_bits ⟨Nat.le_of_ble_eq_true rfl, Nat.le_of_ble_eq_true rfl⟩ hl.1 rfl (Nat.le_of_ble_eq_true rfl) dX1_step_143 ⟨Nat.zero_le _, Nat.zero_le _⟩ hP hS (fun H locs hP hS => ?_)
          refine lv_bipush (v := 12) hx hb dX1_step_146 (by decide) ?_
          refine pu_i (v := S1_withSign (S1_bits (M_code u ((M_pc u) / 4).toNatClampNeg) (20) (12)) (12)) (As := [.int (S1_bits (M_code u ((M_pc u) / 4).toNatClampNeg) (20) (12)), .int 12]) (rest := [.ref h]) ⟨hx, hb, hml, hown, hts⟩ (c1_withSign l (S1_bits (M_code u ((M_pc u) / 4).toNatClampNeg) (20) (12)) (12) ) gX1_step_X1_withSign rfl hdX1_withSign ⟨Nat.le_of_ble_eq_true rfl, Nat.le_of_ble_eq_true rfl⟩ hl.1 rfl (Nat.le_of_ble_eq_true rfl) dX1_step_148 ⟨Nat.zero_le _, Nat.zero_le _⟩ hP hS (fun H locs hP hS => ?_)
          refine va_put (D := D) (ci := 1) (v := .int (S1_withSign (S1_bits (M_code u ((M_pc u) / 4).toNatClampNeg) (20) (12)) (12))) (ty := .int) (C := RX1) (T := TX1) (N := 12) hx hb hts iwX1_step tyX1 tyX1_ok nmX1 hown hK hP (ap4_D hap) hS 0 rfl rfl 9 (by decide) (hts (.fieldLink RX1 73 "WordMachineModel" "immediate" "I") flX1_step_73) (fun _ h9 => h9) rfl (by decide +kernel) rfl rfl (Nat.le_of_ble_eq_true rfl) dX1_step_151 (fun H locs hP _ hS => ?_)
          have hP : va_P D vwCl (ww1 cI cJ cB h q1 q2 q3 (Mp_im (S1_withSign (S1_bits (M_code u ((M_pc u) / 4).toNatClampNeg) (20) (12)) (12)) (Mp_s (S1_bits (M_code u ((M_pc u) / 4).toNatClampNeg) (25) (7)) (Mp_y (M_regs (Mp_x (M_regs (Mp_t (S1_bits (M_code u ((M_pc u) / 4).toNatClampNeg) (12) (3)) (Mp_d (S1_bits (M_code u ((M_pc u) / 4).toNatClampNeg) (7) (5)) u)) (S1_bits (M_code u ((M_pc u) / 4).toNatClampNeg) (15) (5)).toNatClampNeg) (Mp_t (S1_bits (M_code u ((M_pc u) / 4).toNatClampNeg) (12) (3)) (Mp_d (S1_bits (M_code u ((M_pc u) / 4).toNatClampNeg) (7) (5)) u))) (S1_bits (M_code u ((M_pc u) / 4).toNatClampNeg) (20) (5)).toNatClampNeg) (Mp_x (M_regs (Mp_t (S1_bits (M_code u ((M_pc u) / 4).toNatClampNeg) (12) (3)) (Mp_d (S1_bits (M_code u ((M_pc u) / 4).toNatClampNeg) (7) (5)) u)) (S1_bits (M_code u ((M_pc u) / 4).toNatClampNeg) (15) (5)).toNatClampNeg) (Mp_t (S1_bits (M_code u ((M_pc u) / 4).toNatClampNeg) (12) (3)) (Mp_d (S1_bits (M_code u ((M_pc u) / 4).toNatClampNeg) (7) (5)) u))))))) H := hP
          refine lv_aload_n hx hb dX1_step_154 rfl (lv_at hl 1 rfl) ?_
          refine lv_iload_n hx hb dX1_step_155 rfl (lv_at hl 0 rfl) ?_
          refine lv_iconst (v := 0) hx hb dX1_step_156 (by decide) ?_
          refine lv_bipush (v := 7) hx hb dX1_step_157 (by decide) ?_
          refine pu_i (v := S1_bits (M_code u ((M_pc u) / 4).toNatClampNeg) (0) (7)) (As := [.int (M_code u ((M_pc u) / 4).toNatClampNeg), .int 0, .int 7]) (rest := [.ref h]) ⟨hx, hb, hml, hown, hts⟩ (c1_bits l (M_code u ((M_pc u) / 4).toNatClampNeg) (0) (7) ) gX1_step_X1_bits rfl hdX1_bits ⟨Nat.le_of_ble_eq_true rfl, Nat.le_of_ble_eq_true rfl⟩ hl.1 rfl (Nat.le_of_ble_eq_true rfl) dX1_step_159 ⟨Nat.zero_le _, Nat.zero_le _⟩ hP hS (fun H locs hP hS => ?_)
          refine lv_iload_n hx hb dX1_step_162 rfl (lv_at hl 0 rfl) ?_
          refine in_i (v := (S1_work (S1_bits (M_code u ((M_pc u) / 4).toNatClampNeg) (0) (7)) (M_code u ((M_pc u) / 4).toNatClampNeg) (Mp_im (S1_withSign (S1_bits (M_code u ((M_pc u) / 4).toNatClampNeg) (20) (12)) (12)) (Mp_s (S1_bits (M_code u ((M_pc u) / 4).toNatClampNeg) (25) (7)) (Mp_y (M_regs (Mp_x (M_regs (Mp_t (S1_bits (M_code u ((M_pc u) / 4).toNatClampNeg) (12) (3)) (Mp_d (S1_bits (M_code u ((M_pc u) / 4).toNatClampNeg) (7) (5)) u)) (S1_bits (M_code u ((M_pc u) / 4).toNatClampNeg) (15) (5)).toNatClampNeg) (Mp_t (S1_bits (M_code u ((M_pc u) / 4).toNatClampNeg) (12) (3)) (Mp_d (S1_bits (M_code u ((M_pc u) / 4).toNatClampNeg) (7) (5)) u))) (S1_bits (M_code u ((M_pc u) / 4).toNatClampNeg) (20) (5)).toNatClampNeg) (Mp_x (M_regs (Mp_t (S1_bits (M_code u ((M_pc u) / 4).toNatClampNeg) (12) (3)) (Mp_d (S1_bits (M_code u ((M_pc u) / 4).toNatClampNeg) (7) (5)) u)) (S1_bits (M_code u ((M_pc u) / 4).toNatClampNeg) (15) (5)).toNatClampNeg) (Mp_t (S1_bits (M_code u ((M_pc u) / 4).toNatClampNeg) (12) (3)) (Mp_d (S1_bits (M_code u ((M_pc u) / 4).toNatClampNeg) (7) (5)) u))))))).1) (As := [.int (S1_bits (M_code u ((M_pc u) / 4).toNatClampNeg) (0) (7)), .int (M_code u ((M_pc u) / 4).toNatClampNeg)]) (rest := []) (w1 := ww1 cI cJ cB h q1 q2 q3 ((S1_work (S1_bits (M_code u ((M_pc u) / 4).toNatClampNeg) (0) (7)) (M_code u ((M_pc u) / 4).toNatClampNeg) (Mp_im (S1_withSign (S1_bits (M_code u ((M_pc u) / 4).toNatClampNeg) (20) (12)) (12)) (Mp_s (S1_bits (M_code u ((M_pc u) / 4).toNatClampNeg) (25) (7)) (Mp_y (M_regs (Mp_x (M_regs (Mp_t (S1_bits (M_code u ((M_pc u) / 4).toNatClampNeg) (12) (3)) (Mp_d (S1_bits (M_code u ((M_pc u) / 4).toNatClampNeg) (7) (5)) u)) (S1_bits (M_code u ((M_pc u) / 4).toNatClampNeg) (15) (5)).toNatClampNeg) (Mp_t (S1_bits (M_code u ((M_pc u) / 4).toNatClampNeg) (12) (3)) (Mp_d (S1_bits (M_code u ((M_pc u) / 4).toNatClampNeg) (7) (5)) u))) (S1_bits (M_code u ((M_pc u) / 4).toNatClampNeg) (20) (5)).toNatClampNeg) (Mp_x (M_regs (Mp_t (S1_bits (M_code u ((M_pc u) / 4).toNatClampNeg) (12) (3)) (Mp_d (S1_bits (M_code u ((M_pc u) / 4).toNatClampNeg) (7) (5)) u)) (S1_bits (M_code u ((M_pc u) / 4).toNatClampNeg) (15) (5)).toNatClampNeg) (Mp_t (S1_bits (M_code u ((M_pc u) / 4).toNatClampNeg) (12) (3)) (Mp_d (S1_bits (M_code u ((M_pc u) / 4).toNatClampNeg) (7) (5)) u))))))).2)) ⟨hx, hb, hml, hown, hts⟩ (c1_work l hap (S1_bits (M_code u ((M_pc u) / 4).toNatClampNeg) (0) (7)) (M_code u ((M_pc u) / 4).toNatClampNeg) (Mp_im (S1_withSign (S1_bits (M_code u ((M_pc u) / 4).toNatClampNeg) (20) (12)) (12)) (Mp_s (S1_bits (M_code u ((M_pc u) / 4).toNatClampNeg) (25) (7)) (Mp_y (M_regs (Mp_x (M_regs (Mp_t (S1_bits (M_code u ((M_pc u) / 4).toNatClampNeg) (12) (3)) (Mp_d (S1_bits (M_code u ((M_pc u) / 4).toNatClampNeg) (7) (5)) u)) (S1_bits (M_code u ((M_pc u) / 4).toNatClampNeg) (15) (5)).toNatClampNeg) (Mp_t (S1_bits (M_code u ((M_pc u) / 4).toNatClampNeg) (12) (3)) (Mp_d (S1_bits (M_code u ((M_pc u) / 4).toNatClampNeg) (7) (5)) u))) (S1_bits (M_code u ((M_pc u) / 4).toNatClampNeg) (20) (5)).toNatClampNeg) (Mp_x (M_regs (Mp_t (S1_bits (M_code u ((M_pc u) / 4).toNatClampNeg) (12) (3)) (Mp_d (S1_bits (M_code u ((M_pc u) / 4).toNatClampNeg) (7) (5)) u)) (S1_bits (M_code u ((M_pc u) / 4).toNatClampNeg) (15) (5)).toNatClampNeg) (Mp_t (S1_bits (M_code u ((M_pc u) / 4).toNatClampNeg) (12) (3)) (Mp_d (S1_bits (M_code u ((M_pc u) / 4).toNatClampNeg) (7) (5)) u)))))) (lt_bits5 _ _) (rg_at hrg (in_bits5 _ _))) gX1_step_X1_work rfl hdX1_work ⟨Nat.le_of_ble_eq_true rfl, Nat.le_of_ble_eq_true rfl⟩ hK rfl rfl hl.1 rfl (Nat.le_of_ble_eq_true rfl) dX1_step_163 ⟨Nat.zero_le _, Nat.zero_le _⟩ hP hS (fun _ h => h) (fun H locs hP hS _ _ => ?_)
          refine lv_istore_n (lv' := [(2, .int ((S1_work (S1_bits (M_code u ((M_pc u) / 4).toNatClampNeg) (0) (7)) (M_code u ((M_pc u) / 4).toNatClampNeg) (Mp_im (S1_withSign (S1_bits (M_code u ((M_pc u) / 4).toNatClampNeg) (20) (12)) (12)) (Mp_s (S1_bits (M_code u ((M_pc u) / 4).toNatClampNeg) (25) (7)) (Mp_y (M_regs (Mp_x (M_regs (Mp_t (S1_bits (M_code u ((M_pc u) / 4).toNatClampNeg) (12) (3)) (Mp_d (S1_bits (M_code u ((M_pc u) / 4).toNatClampNeg) (7) (5)) u)) (S1_bits (M_code u ((M_pc u) / 4).toNatClampNeg) (15) (5)).toNatClampNeg) (Mp_t (S1_bits (M_code u ((M_pc u) / 4).toNatClampNeg) (12) (3)) (Mp_d (S1_bits (M_code u ((M_pc u) / 4).toNatClampNeg) (7) (5)) u))) (S1_bits (M_code u ((M_pc u) / 4).toNatClampNeg) (20) (5)).toNatClampNeg) (Mp_x (M_regs (Mp_t (S1_bits (M_code u ((M_pc u) / 4).toNatClampNeg) (12) (3)) (Mp_d (S1_bits (M_code u ((M_pc u) / 4).toNatClampNeg) (7) (5)) u)) (S1_bits (M_code u ((M_pc u) / 4).toNatClampNeg) (15) (5)).toNatClampNeg) (Mp_t (S1_bits (M_code u ((M_pc u) / 4).toNatClampNeg) (12) (3)) (Mp_d (S1_bits (M_code u ((M_pc u) / 4).toNatClampNeg) (7) (5)) u))))))).1)), (1, .int (M_code u ((M_pc u) / 4).toNatClampNeg)), (0, .ref h)]) hx hb dX1_step_166 rfl hl (by decide) rfl (fun ls hl => ?_)
          refine lv_iload_n hx hb dX1_step_167 rfl (lv_at hl 0 rfl) ?_
          refine lv_if_le (tgt := 173) hx hb dX1_step_168 (by decide) (fun (c5 : ((S1_work (S1_bits (M_code u ((M_pc u) / 4).toNatClampNeg) (0) (7)) (M_code u ((M_pc u) / 4).toNatClampNeg) (Mp_im (S1_withSign (S1_bits (M_code u ((M_pc u) / 4).toNatClampNeg) (20) (12)) (12)) (Mp_s (S1_bits (M_code u ((M_pc u) / 4).toNatClampNeg) (25) (7)) (Mp_y (M_regs (Mp_x (M_regs (Mp_t (S1_bits (M_code u ((M_pc u) / 4).toNatClampNeg) (12) (3)) (Mp_d (S1_bits (M_code u ((M_pc u) / 4).toNatClampNeg) (7) (5)) u)) (S1_bits (M_code u ((M_pc u) / 4).toNatClampNeg) (15) (5)).toNatClampNeg) (Mp_t (S1_bits (M_code u ((M_pc u) / 4).toNatClampNeg) (12) (3)) (Mp_d (S1_bits (M_code u ((M_pc u) / 4).toNatClampNeg) (7) (5)) u))) (S1_bits (M_code u ((M_pc u) / 4).toNatClampNeg) (20) (5)).toNatClampNeg) (Mp_x (M_regs (Mp_t (S1_bits (M_code u ((M_pc u) / 4).toNatClampNeg) (12) (3)) (Mp_d (S1_bits (M_code u ((M_pc u) / 4).toNatClampNeg) (7) (5)) u)) (S1_bits (M_code u ((M_pc u) / 4).toNatClampNeg) (15) (5)).toNatClampNeg) (Mp_t (S1_bits (M_code u ((M_pc u) / 4).toNatClampNeg) (12) (3)) (Mp_d (S1_bits (M_code u ((M_pc u) / 4).toNatClampNeg) (7) (5)) u))))))).1) ≤ 0) => ?_) (fun (c5 : ¬ ((S1_work (S1_bits (M_code u ((M_pc u) / 4).toNatClampNeg) (0) (7)) (M_code u ((M_pc u) / 4).toNatClampNeg) (Mp_im (S1_withSign (S1_bits (M_code u ((M_pc u) / 4).toNatClampNeg) (20) (12)) (12)) (Mp_s (S1_bits (M_code u ((M_pc u) / 4).toNatClampNeg) (25) (7)) (Mp_y (M_regs (Mp_x (M_regs (Mp_t (S1_bits (M_code u ((M_pc u) / 4).toNatClampNeg) (12) (3)) (Mp_d (S1_bits (M_code u ((M_pc u) / 4).toNatClampNeg) (7) (5)) u)) (S1_bits (M_code u ((M_pc u) / 4).toNatClampNeg) (15) (5)).toNatClampNeg) (Mp_t (S1_bits (M_code u ((M_pc u) / 4).toNatClampNeg) (12) (3)) (Mp_d (S1_bits (M_code u ((M_pc u) / 4).toNatClampNeg) (7) (5)) u))) (S1_bits (M_code u ((M_pc u) / 4).toNatClampNeg) (20) (5)).toNatClampNeg) (Mp_x (M_regs (Mp_t (S1_bits (M_code u ((M_pc u) / 4).toNatClampNeg) (12) (3)) (Mp_d (S1_bits (M_code u ((M_pc u) / 4).toNatClampNeg) (7) (5)) u)) (S1_bits (M_code u ((M_pc u) / 4).toNatClampNeg) (15) (5)).toNatClampNeg) (Mp_t (S1_bits (M_code u ((M_pc u) / 4).toNatClampNeg) (12) (3)) (Mp_d (S1_bits (M_code u ((M_pc u) / 4).toNatClampNeg) (7) (5)) u))))))).1) ≤ 0) => ?_)
          · refine lv_aload_n hx hb dX1_step_173 rfl (lv_at hl 2 rfl) ?_
            refine lv_dup hx hb dX1_step_174 rfl ?_
            refine va_get (D := D) (ci := 1) (v := .int (M_st ((S1_work (S1_bits (M_code u ((M_pc u) / 4).toNatClampNeg) (0) (7)) (M_code u ((M_pc u) / 4).toNatClampNeg) (Mp_im (S1_withSign (S1_bits (M_code u ((M_pc u) / 4).toNatClampNeg) (20) (12)) (12)) (Mp_s (S1_bits (M_code u ((M_pc u) / 4).toNatClampNeg) (25) (7)) (Mp_y (M_regs (Mp_x (M_regs (Mp_t (S1_bits (M_code u ((M_pc u) / 4).toNatClampNeg) (12) (3)) (Mp_d (S1_bits (M_code u ((M_pc u) / 4).toNatClampNeg) (7) (5)) u)) (S1_bits (M_code u ((M_pc u) / 4).toNatClampNeg) (15) (5)).toNatClampNeg) (Mp_t (S1_bits (M_code u ((M_pc u) / 4).toNatClampNeg) (12) (3)) (Mp_d (S1_bits (M_code u ((M_pc u) / 4).toNatClampNeg) (7) (5)) u))) (S1_bits (M_code u ((M_pc u) / 4).toNatClampNeg) (20) (5)).toNatClampNeg) (Mp_x (M_regs (Mp_t (S1_bits (M_code u ((M_pc u) / 4).toNatClampNeg) (12) (3)) (Mp_d (S1_bits (M_code u ((M_pc u) / 4).toNatClampNeg) (7) (5)) u)) (S1_bits (M_code u ((M_pc u) / 4).toNatClampNeg) (15) (5)).toNatClampNeg) (Mp_t (S1_bits (M_code u ((M_pc u) / 4).toNatClampNeg) (12) (3)) (Mp_d (S1_bits (M_code u ((M_pc u) / 4).toNatClampNeg) (7) (5)) u))))))).2))) (C := RX1) (T := TX1) (N := 12) hx hb hts iwX1_step hown hK hP 0 rfl rfl 3 (by decide) (hts (.fieldLink RX1 42 "WordMachineModel" "steps" "I") flX1_step_42) (fun _ h9 => h9) rfl dX1_step_175 ?_
            refine lv_iconst (v := 1) hx hb dX1_step_178 (by decide) ?_
            refine lv_iadd hx hb dX1_step_179 ?_
            refine va_put (D := D) (ci := 1) (v := .int ((M_st ((S1_work (S1_bits (M_code u ((M_pc u) / 4).toNatClampNeg) (0) (7)) (M_code u ((M_pc u) / 4).toNatClampNeg) (Mp_im (S1_withSign (S1_bits (M_code u ((M_pc u) / 4).toNatClampNeg) (20) (12)) (12)) (Mp_s (S1_bits (M_code u ((M_pc u) / 4).toNatClampNeg) (25) (7)) (Mp_y (M_regs (Mp_x (M_regs (Mp_t (S1_bits (M_code u ((M_pc u) / 4).toNatClampNeg) (12) (3)) (Mp_d (S1_bits (M_code u ((M_pc u) / 4).toNatClampNeg) (7) (5)) u)) (S1_bits (M_code u ((M_pc u) / 4).toNatClampNeg) (15) (5)).toNatClampNeg) (Mp_t (S1_bits (M_code u ((M_pc u) / 4).toNatClampNeg) (12) (3)) (Mp_d (S1_bits (M_code u ((M_pc u) / 4).toNatClampNeg) (7) (5)) u))) (S1_bits (M_code u ((M_pc u) / 4).toNatClampNeg) (20) (5)).toNatClampNeg) (Mp_x (M_regs (Mp_t (S1_bits (M_code u ((M_pc u) / 4).toNatClampNeg) (12) (3)) (Mp_d (S1_bits (M_code u ((M_pc u) / 4).toNatClampNeg) (7) (5)) u)) (S1_bits (M_code u ((M_pc u) / 4).toNatClampNeg) (15) (5)).toNatClampNeg) (Mp_t (S1_bits (M_code u ((M_pc u) / 4).toNatClampNeg) (12) (3)) (Mp_d (S1_bits (M_code u ((M_pc u) / 4).toNatClampNeg) (7) (5)) u))))))).2)) + 1)) (ty := .int) (C := RX1) (T := TX1) (N := 12) hx hb hts iwX1_step tyX1 tyX1_ok nmX1 hown hK hP (ap4_D hap) hS 0 rfl rfl 3 (by decide) (hts (.fieldLink RX1 42 "WordMachineModel" "steps" "I") flX1_step_42) (fun _ h9 => h9) rfl (by decide +kernel) rfl rfl (Nat.le_of_ble_eq_true rfl) dX1_step_180 (fun H locs hP _ hS => ?_)
            have hP : va_P D vwCl (ww1 cI cJ cB h q1 q2 q3 (Mp_st ((M_st ((S1_work (S1_bits (M_code u ((M_pc u) / 4).toNatClampNeg) (0) (7)) (M_code u ((M_pc u) / 4).toNatClampNeg) (Mp_im (S1_withSign (S1_bits (M_code u ((M_pc u) / 4).toNatClampNeg) (20) (12)) (12)) (Mp_s (S1_bits (M_code u ((M_pc u) / 4).toNatClampNeg) (25) (7)) (Mp_y (M_regs (Mp_x (M_regs (Mp_t (S1_bits (M_code u ((M_pc u) / 4).toNatClampNeg) (12) (3)) (Mp_d (S1_bits (M_code u ((M_pc u) / 4).toNatClampNeg) (7) (5)) u)) (S1_bits (M_code u ((M_pc u) / 4).toNatClampNeg) (15) (5)).toNatClampNeg) (Mp_t (S1_bits (M_code u ((M_pc u) / 4).toNatClampNeg) (12) (3)) (Mp_d (S1_bits (M_code u ((M_pc u) / 4).toNatClampNeg) (7) (5)) u))) (S1_bits (M_code u ((M_pc u) / 4).toNatClampNeg) (20) (5)).toNatClampNeg) (Mp_x (M_regs (Mp_t (S1_bits (M_code u ((M_pc u) / 4).toNatClampNeg) (12) (3)) (Mp_d (S1_bits (M_code u ((M_pc u) / 4).toNatClampNeg) (7) (5)) u)) (S1_bits (M_code u ((M_pc u) / 4).toNatClampNeg) (15) (5)).toNatClampNeg) (Mp_t (S1_bits (M_code u ((M_pc u) / 4).toNatClampNeg) (12) (3)) (Mp_d (S1_bits (M_code u ((M_pc u) / 4).toNatClampNeg) (7) (5)) u))))))).2)) + 1) ((S1_work (S1_bits (M_code u ((M_pc u) / 4).toNatClampNeg) (0) (7)) (M_code u ((M_pc u) / 4).toNatClampNeg) (Mp_im (S1_withSign (S1_bits (M_code u ((M_pc u) / 4).toNatClampNeg) (20) (12)) (12)) (Mp_s (S1_bits (M_code u ((M_pc u) / 4).toNatClampNeg) (25) (7)) (Mp_y (M_regs (Mp_x (M_regs (Mp_t (S1_bits (M_code u ((M_pc u) / 4).toNatClampNeg) (12) (3)) (Mp_d (S1_bits (M_code u ((M_pc u) / 4).toNatClampNeg) (7) (5)) u)) (S1_bits (M_code u ((M_pc u) / 4).toNatClampNeg) (15) (5)).toNatClampNeg) (Mp_t (S1_bits (M_code u ((M_pc u) / 4).toNatClampNeg) (12) (3)) (Mp_d (S1_bits (M_code u ((M_pc u) / 4).toNatClampNeg) (7) (5)) u))) (S1_bits (M_code u ((M_pc u) / 4).toNatClampNeg) (20) (5)).toNatClampNeg) (Mp_x (M_regs (Mp_t (S1_bits (M_code u ((M_pc u) / 4).toNatClampNeg) (12) (3)) (Mp_d (S1_bits (M_code u ((M_pc u) / 4).toNatClampNeg) (7) (5)) u)) (S1_bits (M_code u ((M_pc u) / 4).toNatClampNeg) (15) (5)).toNatClampNeg) (Mp_t (S1_bits (M_code u ((M_pc u) / 4).toNatClampNeg) (12) (3)) (Mp_d (S1_bits (M_code u ((M_pc u) / 4).toNatClampNeg) (7) (5)) u))))))).2))) H := hP
            refine lv_iconst (v := 0) hx hb dX1_step_183 (by decide) ?_
            have e9 : S1_step u = ((0 : Int32), Mp_st ((M_st ((S1_work (S1_bits (M_code u ((M_pc u) / 4).toNatClampNeg) (0) (7)) (M_code u ((M_pc u) / 4).toNatClampNeg) (Mp_im (S1_withSign (S1_bits (M_code u ((M_pc u) / 4).toNatClampNeg) (20) (12)) (12)) (Mp_s (S1_bits (M_code u ((M_pc u) / 4).toNatClampNeg) (25) (7)) (Mp_y (M_regs (Mp_x (M_regs (Mp_t (S1_bits (M_code u ((M_pc u) / 4).toNatClampNeg) (12) (3)) (Mp_d (S1_bits (M_code u ((M_pc u) / 4).toNatClampNeg) (7) (5)) u)) (S1_bits (M_code u ((M_pc u) / 4).toNatClampNeg) (15) (5)).toNatClampNeg) (Mp_t (S1_bits (M_code u ((M_pc u) / 4).toNatClampNeg) (12) (3)) (Mp_d (S1_bits (M_code u ((M_pc u) / 4).toNatClampNeg) (7) (5)) u))) (S1_bits (M_code u ((M_pc u) / 4).toNatClampNeg) (20) (5)).toNatClampNeg) (Mp_x (M_regs (Mp_t (S1_bits (M_code u ((M_pc u) / 4).toNatClampNeg) (12) (3)) (Mp_d (S1_bits (M_code u ((M_pc u) / 4).toNatClampNeg) (7) (5)) u)) (S1_bits (M_code u ((M_pc u) / 4).toNatClampNeg) (15) (5)).toNatClampNeg) (Mp_t (S1_bits (M_code u ((M_pc u) / 4).toNatClampNeg) (12) (3)) (Mp_d (S1_bits (M_code u ((M_pc u) / 4).toNatClampNeg) (7) (5)) u))))))).2)) + 1) ((S1_work (S1_bits (M_code u ((M_pc u) / 4).toNatClampNeg) (0) (7)) (M_code u ((M_pc u) / 4).toNatClampNeg) (Mp_im (S1_withSign (S1_bits (M_code u ((M_pc u) / 4).toNatClampNeg) (20) (12)) (12)) (Mp_s (S1_bits (M_code u ((M_pc u) / 4).toNatClampNeg) (25) (7)) (Mp_y (M_regs (Mp_x (M_regs (Mp_t (S1_bits (M_code u ((M_pc u) / 4).toNatClampNeg) (12) (3)) (Mp_d (S1_bits (M_code u ((M_pc u) / 4).toNatClampNeg) (7) (5)) u)) (S1_bits (M_code u ((M_pc u) / 4).toNatClampNeg) (15) (5)).toNatClampNeg) (Mp_t (S1_bits (M_code u ((M_pc u) / 4).toNatClampNeg) (12) (3)) (Mp_d (S1_bits (M_code u ((M_pc u) / 4).toNatClampNeg) (7) (5)) u))) (S1_bits (M_code u ((M_pc u) / 4).toNatClampNeg) (20) (5)).toNatClampNeg) (Mp_x (M_regs (Mp_t (S1_bits (M_code u ((M_pc u) / 4).toNatClampNeg) (12) (3)) (Mp_d (S1_bits (M_code u ((M_pc u) / 4).toNatClampNeg) (7) (5)) u)) (S1_bits (M_code u ((M_pc u) / 4).toNatClampNeg) (15) (5)).toNatClampNeg) (Mp_t (S1_bits (M_code u ((M_pc u) / 4).toNatClampNeg) (12) (3)) (Mp_d (S1_bits (M_code u ((M_pc u) / 4).toNatClampNeg) (7) (5)) u))))))).2)) := by rw [S1_step, if_neg c1, if_pos c2, if_pos c3, if_neg c4, if_pos c5]
            exact W.iret (v := (0 : Int32)) hx hb hr (fun t ht hW => ⟨⟨(0 : Int32), (), rfl, by rw [e9], by show va_P _ _ _ t.heap; rw [e9, ht]; exact hP⟩, hS.F ht⟩) hS.2.2 dX1_step_184
          · refine lv_iload_n hx hb dX1_step_171 rfl (lv_at hl 0 rfl) ?_
            have e9 : S1_step u = ((S1_work (S1_bits (M_code u ((M_pc u) / 4).toNatClampNeg) (0) (7)) (M_code u ((M_pc u) / 4).toNatClampNeg) (Mp_im (S1_withSign (S1_bits (M_code u ((M_pc u) / 4).toNatClampNeg) (20) (12)) (12)) (Mp_s (S1_bits (M_code u ((M_pc u) / 4).toNatClampNeg) (25) (7)) (Mp_y (M_regs (Mp_x (M_regs (Mp_t (S1_bits (M_code u ((M_pc u) / 4).toNatClampNeg) (12) (3)) (Mp_d (S1_bits (M_code u ((M_pc u) / 4).toNatClampNeg) (7) (5)) u)) (S1_bits (M_code u ((M_pc u) / 4).toNatClampNeg) (15) (5)).toNatClampNeg) (Mp_t (S1_bits (M_code u ((M_pc u) / 4).toNatClampNeg) (12) (3)) (Mp_d (S1_bits (M_code u ((M_pc u) / 4).toNatClampNeg) (7) (5)) u))) (S1_bits (M_code u ((M_pc u) / 4).toNatClampNeg) (20) (5)).toNatClampNeg) (Mp_x (M_regs (Mp_t (S1_bits (M_code u ((M_pc u) / 4).toNatClampNeg) (12) (3)) (Mp_d (S1_bits (M_code u ((M_pc u) / 4).toNatClampNeg) (7) (5)) u)) (S1_bits (M_code u ((M_pc u) / 4).toNatClampNeg) (15) (5)).toNatClampNeg) (Mp_t (S1_bits (M_code u ((M_pc u) / 4).toNatClampNeg) (12) (3)) (Mp_d (S1_bits (M_code u ((M_pc u) / 4).toNatClampNeg) (7) (5)) u))))))).1, (S1_work (S1_bits (M_code u ((M_pc u) / 4).toNatClampNeg) (0) (7)) (M_code u ((M_pc u) / 4).toNatClampNeg) (Mp_im (S1_withSign (S1_bits (M_code u ((M_pc u) / 4).toNatClampNeg) (20) (12)) (12)) (Mp_s (S1_bits (M_code u ((M_pc u) / 4).toNatClampNeg) (25) (7)) (Mp_y (M_regs (Mp_x (M_regs (Mp_t (S1_bits (M_code u ((M_pc u) / 4).toNatClampNeg) (12) (3)) (Mp_d (S1_bits (M_code u ((M_pc u) / 4).toNatClampNeg) (7) (5)) u)) (S1_bits (M_code u ((M_pc u) / 4).toNatClampNeg) (15) (5)).toNatClampNeg) (Mp_t (S1_bits (M_code u ((M_pc u) / 4).toNatClampNeg) (12) (3)) (Mp_d (S1_bits (M_code u ((M_pc u) / 4).toNatClampNeg) (7) (5)) u))) (S1_bits (M_code u ((M_pc u) / 4).toNatClampNeg) (20) (5)).toNatClampNeg) (Mp_x (M_regs (Mp_t (S1_bits (M_code u ((M_pc u) / 4).toNatClampNeg) (12) (3)) (Mp_d (S1_bits (M_code u ((M_pc u) / 4).toNatClampNeg) (7) (5)) u)) (S1_bits (M_code u ((M_pc u) / 4).toNatClampNeg) (15) (5)).toNatClampNeg) (Mp_t (S1_bits (M_code u ((M_pc u) / 4).toNatClampNeg) (12) (3)) (Mp_d (S1_bits (M_code u ((M_pc u) / 4).toNatClampNeg) (7) (5)) u))))))).2) := by rw [S1_step, if_neg c1, if_pos c2, if_pos c3, if_neg c4, if_neg c5]
            exact W.iret (v := (S1_work (S1_bits (M_code u ((M_pc u) / 4).toNatClampNeg) (0) (7)) (M_code u ((M_pc u) / 4).toNatClampNeg) (Mp_im (S1_withSign (S1_bits (M_code u ((M_pc u) / 4).toNatClampNeg) (20) (12)) (12)) (Mp_s (S1_bits (M_code u ((M_pc u) / 4).toNatClampNeg) (25) (7)) (Mp_y (M_regs (Mp_x (M_regs (Mp_t (S1_bits (M_code u ((M_pc u) / 4).toNatClampNeg) (12) (3)) (Mp_d (S1_bits (M_code u ((M_pc u) / 4).toNatClampNeg) (7) (5)) u)) (S1_bits (M_code u ((M_pc u) / 4).toNatClampNeg) (15) (5)).toNatClampNeg) (Mp_t (S1_bits (M_code u ((M_pc u) / 4).toNatClampNeg) (12) (3)) (Mp_d (S1_bits (M_code u ((M_pc u) / 4).toNatClampNeg) (7) (5)) u))) (S1_bits (M_code u ((M_pc u) / 4).toNatClampNeg) (20) (5)).toNatClampNeg) (Mp_x (M_regs (Mp_t (S1_bits (M_code u ((M_pc u) / 4).toNatClampNeg) (12) (3)) (Mp_d (S1_bits (M_code u ((M_pc u) / 4).toNatClampNeg) (7) (5)) u)) (S1_bits (M_code u ((M_pc u) / 4).toNatClampNeg) (15) (5)).toNatClampNeg) (Mp_t (S1_bits (M_code u ((M_pc u) / 4).toNatClampNeg) (12) (3)) (Mp_d (S1_bits (M_code u ((M_pc u) / 4).toNatClampNeg) (7) (5)) u))))))).1) hx hb hr (fun t ht hW => ⟨⟨(S1_work (S1_bits (M_code u ((M_pc u) / 4).toNatClampNeg) (0) (7)) (M_code u ((M_pc u) / 4).toNatClampNeg) (Mp_im (S1_withSign (S1_bits (M_code u ((M_pc u) / 4).toNatClampNeg) (20) (12)) (12)) (Mp_s (S1_bits (M_code u ((M_pc u) / 4).toNatClampNeg) (25) (7)) (Mp_y (M_regs (Mp_x (M_regs (Mp_t (S1_bits (M_code u ((M_pc u) / 4).toNatClampNeg) (12) (3)) (Mp_d (S1_bits (M_code u ((M_pc u) / 4).toNatClampNeg) (7) (5)) u)) (S1_bits (M_code u ((M_pc u) / 4).toNatClampNeg) (15) (5)).toNatClampNeg) (Mp_t (S1_bits (M_code u ((M_pc u) / 4).toNatClampNeg) (12) (3)) (Mp_d (S1_bits (M_code u ((M_pc u) / 4).toNatClampNeg) (7) (5)) u))) (S1_bits (M_code u ((M_pc u) / 4).toNatClampNeg) (20) (5)).toNatClampNeg) (Mp_x (M_regs (Mp_t (S1_bits (M_code u ((M_pc u) / 4).toNatClampNeg) (12) (3)) (Mp_d (S1_bits (M_code u ((M_pc u) / 4).toNatClampNeg) (7) (5)) u)) (S1_bits (M_code u ((M_pc u) / 4).toNatClampNeg) (15) (5)).toNatClampNeg) (Mp_t (S1_bits (M_code u ((M_pc u) / 4).toNatClampNeg) (12) (3)) (Mp_d (S1_bits (M_code u ((M_pc u) / 4).toNatClampNeg) (7) (5)) u))))))).1, (), rfl, by rw [e9], by show va_P _ _ _ t.heap; rw [e9, ht]; exact hP⟩, hS.F ht⟩) hS.2.2 dX1_step_172
        · refine lv_aload_n hx hb dX1_step_49 rfl (lv_at hl 1 rfl) ?_
          refine lv_dup hx hb dX1_step_50 rfl ?_
          refine va_get (D := D) (ci := 1) (v := .int (M_st u)) (C := RX1) (T := TX1) (N := 12) hx hb hts iwX1_step hown hK hP 0 rfl rfl 3 (by decide) (hts (.fieldLink RX1 42 "WordMachineModel" "steps" "I") flX1_step_42) (fun _ h9 => h9) rfl dX1_step_51 ?_
          refine lv_iconst (v := 1) hx hb dX1_step_54 (by decide) ?_
          refine lv_iadd hx hb dX1_step_55 ?_
          refine va_put (D := D) (ci := 1) (v := .int ((M_st u) + 1)) (ty := .int) (C := RX1) (T := TX1) (N := 12) hx hb hts iwX1_step tyX1 tyX1_ok nmX1 hown hK hP (ap4_D hap) hS 0 rfl rfl 3 (by decide) (hts (.fieldLink RX1 42 "WordMachineModel" "steps" "I") flX1_step_42) (fun _ h9 => h9) rfl (by decide +kernel) rfl rfl (Nat.le_of_ble_eq_true rfl) dX1_step_56 (fun H locs hP _ hS => ?_)
          have hP : va_P D vwCl (ww1 cI cJ cB h q1 q2 q3 (Mp_st ((M_st u) + 1) u)) H := hP
          refine lv_aload_n hx hb dX1_step_59 rfl (lv_at hl 1 rfl) ?_
          refine lv_dup hx hb dX1_step_60 rfl ?_
          refine va_get (D := D) (ci := 1) (v := .int (M_pc (Mp_st ((M_st u) + 1) u))) (C := RX1) (T := TX1) (N := 12) hx hb hts iwX1_step hown hK hP 0 rfl rfl 2 (by decide) (hts (.fieldLink RX1 39 "WordMachineModel" "pc" "I") flX1_step_39) (fun _ h9 => h9) rfl dX1_step_61 ?_
          refine lv_iconst (v := 4) hx hb dX1_step_64 (by decide) ?_
          refine lv_iadd hx hb dX1_step_65 ?_
          refine va_put (D := D) (ci := 1) (v := .int ((M_pc (Mp_st ((M_st u) + 1) u)) + 4)) (ty := .int) (C := RX1) (T := TX1) (N := 12) hx hb hts iwX1_step tyX1 tyX1_ok nmX1 hown hK hP (ap4_D hap) hS 0 rfl rfl 2 (by decide) (hts (.fieldLink RX1 39 "WordMachineModel" "pc" "I") flX1_step_39) (fun _ h9 => h9) rfl (by decide +kernel) rfl rfl (Nat.le_of_ble_eq_true rfl) dX1_step_66 (fun H locs hP _ hS => ?_)
          have hP : va_P D vwCl (ww1 cI cJ cB h q1 q2 q3 (Mp_pc ((M_pc (Mp_st ((M_st u) + 1) u)) + 4) (Mp_st ((M_st u) + 1) u))) H := hP
          refine lv_iconst (v := 1) hx hb dX1_step_69 (by decide) ?_
          have e9 : S1_step u = ((1 : Int32), Mp_pc ((M_pc (Mp_st ((M_st u) + 1) u)) + 4) (Mp_st ((M_st u) + 1) u)) := by rw [S1_step, if_neg c1, if_pos c2, if_pos c3, if_pos c4]
          exact W.iret (v := (1 : Int32)) hx hb hr (fun t ht hW => ⟨⟨(1 : Int32), (), rfl, by rw [e9], by show va_P _ _ _ t.heap; rw [e9, ht]; exact hP⟩, hS.F ht⟩) hS.2.2 dX1_step_70
      · refine lv_iconst (v := 2) hx hb dX1_step_29 (by decide) ?_
        have e9 : S1_step u = ((2 : Int32), u) := by rw [S1_step, if_neg c1, if_pos c2, if_neg c3]
        exact W.iret (v := (2 : Int32)) hx hb hr (fun t ht hW => ⟨⟨(2 : Int32), (), rfl, by rw [e9], by show va_P _ _ _ t.heap; rw [e9, ht]; exact hP⟩, hS.F ht⟩) hS.2.2 dX1_step_30
theorem hdX1_run : yX1_run.cls = RX1 ∧ yX1_run.cls ≠ "java/lang/invoke/MethodHandle" ∧ yX1_run.cls ≠ "java/lang/invoke/VarHandle" ∧ (parseMethodDescriptor yX1_run.desc).map (fun d => d.parameters.length) = some 1 := by decide +kernel
set_option maxHeartbeats 4000000 in
set_option maxRecDepth 100000 in
theorem c1_run (l : Launch) {D : va_G} {cI cJ cB : ClassId} {h q1 q2 q3 : Nat} (hap : ap4 h q1 q2 q3) (na : Int32) (u : MS) (hw : M_wc u ≤ 1024) (hrg : RG u) : Ini l yX1_run wsX1_run 5 125 D (ty1 cI cJ cB) (wa0 h q1 q2 q3) [.ref h, .int na] (ww1 cI cJ cB h q1 q2 q3 u) (ww1 cI cJ cB h q1 q2 q3 (S1_run na u).2) (S1_run na u).1 := by
  refine Met.ofW (cc := cX1_run) (maxL := 4) (ret := (some .int)) (by decide) rfl ?_
  intro p e s m args below meth c s₁ B hml hv
  obtain ⟨rfl, hP, hK⟩ := hv
  have hx := B.exec
  have hb := B.bytes
  have hr := B.returns
  have hts := atoms_spec (ws := wsX1_run) B.pre
  have hown : s.vm.findClass RX1 = some m.cls := findClass_of_methodNamed B.named
  have hlocks := B.notSynchronized
  have hS : va_S (wa0 h q1 q2 q3) s.heap s.heap [] := va_S.rf
  have hl := lv_entry ([.ref h, .int na]) (n := 4) (Nat.le_of_ble_eq_true rfl)
  rw [lg_entry_eq]
  generalize (lg_sl ([.ref h, .int na]) ++ List.replicate (4 - (lg_sl ([.ref h, .int na])).length) Slot.unset).toArray = ls at hl ⊢
  have hl : lv_has ls 4 [(0, .ref h), (1, .int na)] := hl
  have J : ∀ (n9 j : Nat) (w : MS) (H : Heap) (locs : List Loc), va_P D vwCl (ww1 cI cJ cB h q1 q2 q3 w) H → va_S (wa0 h q1 q2 q3) s.heap H locs → ∀ ls : Array Slot, lv_has ls 4 [(2, .int (nI j)), (1, .int na), (0, .ref h)] → j + n9 = na.toNatClampNeg → ¬ na < 0 → S1_run na u = S1_loop n9 w → M_wc w ≤ 1024 → RG w → W p l e (headSpec wsX1_run ({ frames := 5, cells := 0, slots := 0, locals := 125 })).room s m ([.ref h, .int na] : List Value).toArray below meth c H locs 0 0 (MQ below (va_Qi (fun (r : Int32) (_ : Unit) => r = (S1_run na u).1) (fun _ t => va_P D vwCl (ww1 cI cJ cB h q1 q2 q3 (S1_run na u).2) t.heap) (wa0 h q1 q2 q3)) ([.ref h, .int na] : List Value).toArray s 0 0 (wa0 h q1 q2 q3)) (F0 m 15 ls []) := by
    intro n9
    induction n9 with
    | zero =>
      intro j w H locs hP hS ls hl hj h0 hs hww hrw
      refine lv_iload_n hx hb dX1_run_15 rfl (lv_at hl 0 rfl) ?_
      refine lv_iload_n hx hb dX1_run_16 rfl (lv_at hl 1 rfl) ?_
      refine lv_icmp_ge (tgt := 37) hx hb dX1_run_17 (by decide) (fun (c1 : na ≤ (nI j)) => ?_) (fun (c1 : ¬ na ≤ (nI j)) => ?_)
      · refine lv_iconst (v := 0) hx hb dX1_run_37 (by decide) ?_
        have e9 : S1_run na u = ((0 : Int32), w) := by rw [hs, S1_loop]
        exact W.iret (v := (0 : Int32)) hx hb hr (fun t ht hW => ⟨⟨(0 : Int32), (), rfl, by rw [e9], by show va_P _ _ _ t.heap; rw [e9, ht]; exact hP⟩, hS.F ht⟩) hS.2.2 dX1_run_38
      · exact absurd (rn_ge h0 hj) c1
    | succ n9 ih =>
      intro j w H locs hP hS ls hl hj h0 hs hww hrw
      refine lv_iload_n hx hb dX1_run_15 rfl (lv_at hl 0 rfl) ?_
      refine lv_iload_n hx hb dX1_run_16 rfl (lv_at hl 1 rfl) ?_
      refine lv_icmp_ge (tgt := 37) hx hb dX1_run_17 (by decide) (fun (c2 : na ≤ (nI j)) => ?_) (fun (c2 : ¬ na ≤ (nI j)) => ?_)
      · exact absurd c2 (rn_lt h0 (by omega))
      · refine lv_aload_n hx hb dX1_run_20 rfl (lv_at hl 2 rfl) ?_
        refine in_i (v := (S1_step w).1) (As := []) (rest := []) (w1 := ww1 cI cJ cB h q1 q2 q3 ((S1_step w).2)) ⟨hx, hb, hml, hown, hts⟩ (c1_step l hap  w hww hrw) gX1_run_X1_step rfl hdX1_step ⟨Nat.le_of_ble_eq_true rfl, Nat.le_of_ble_eq_true rfl⟩ hK rfl rfl hl.1 rfl (Nat.le_of_ble_eq_true rfl) dX1_run_21 ⟨Nat.zero_le _, Nat.zero_le _⟩ hP hS (fun _ h => h) (fun H locs hP hS _ _ => ?_)
        refine lv_istore_n (lv' := [(3, .int ((S1_step w).1)), (2, .int (nI j)), (1, .int na), (0, .ref h)]) hx hb dX1_run_24 rfl hl (by decide) rfl (fun ls hl => ?_)
        refine lv_iload_n hx hb dX1_run_25 rfl (lv_at hl 0 rfl) ?_
        refine lv_if_le (tgt := 31) hx hb dX1_run_26 (by decide) (fun (c3 : ((S1_step w).1) ≤ 0) => ?_) (fun (c3 : ¬ ((S1_step w).1) ≤ 0) => ?_)
        · refine lv_iinc (v := (nI j) + 1) (lv' := [(2, .int ((nI j) + 1)), (3, .int ((S1_step w).1)), (1, .int na), (0, .ref h)]) hx hb dX1_run_31 hl (k := 1) rfl (by rfl) (by decide) rfl (fun ls hl => ?_)
          refine lv_goto (tgt := 15) hx hb dX1_run_34 (by decide) ?_
          rw [nI_1] at hl
          exact ih (j + 1) _ H locs hP hS ls (lv_sub hl [0, 2, 3] rfl) (by omega) h0 (by rw [hs, S1_loop, if_pos c3]) (by rw [wc1_step]; exact hww) (rg1_step hrw)
        · refine lv_iload_n hx hb dX1_run_29 rfl (lv_at hl 0 rfl) ?_
          have e9 : S1_run na u = ((S1_step w).1, (S1_step w).2) := by rw [hs, S1_loop, if_neg c3]
          exact W.iret (v := (S1_step w).1) hx hb hr (fun t ht hW => ⟨⟨(S1_step w).1, (), rfl, by rw [e9], by show va_P _ _ _ t.heap; rw [e9, ht]; exact hP⟩, hS.F ht⟩) hS.2.2 dX1_run_30
  refine lv_iload_n hx hb dX1_run_0 rfl (lv_at hl 1 rfl) ?_
  refine lv_if_lt (tgt := 11) hx hb dX1_run_1 (by decide) (fun (c4 : na < 0) => ?_) (fun (c4 : ¬ na < 0) => ?_)
  · refine lv_iconst (v := (-1)) hx hb dX1_run_11 (by decide) ?_
    have e9 : S1_run na u = (((-1) : Int32), u) := by rw [S1_run, if_pos c4]
    exact W.iret (v := ((-1) : Int32)) hx hb hr (fun t ht hW => ⟨⟨((-1) : Int32), (), rfl, by rw [e9], by show va_P _ _ _ t.heap; rw [e9, ht]; exact hP⟩, hS.F ht⟩) hS.2.2 dX1_run_12
  · refine lv_iload_n hx hb dX1_run_4 rfl (lv_at hl 1 rfl) ?_
    refine lv_sipush (v := 1000) hx hb dX1_run_5 (by decide) ?_
    refine lv_icmp_le (tgt := 13) hx hb dX1_run_8 (by decide) (fun (c5 : na ≤ 1000) => ?_) (fun (c5 : ¬ na ≤ 1000) => ?_)
    · refine lv_iconst (v := 0) hx hb dX1_run_13 (by decide) ?_
      refine lv_istore_n (lv' := [(2, .int 0), (0, .ref h), (1, .int na)]) hx hb dX1_run_14 rfl hl (by decide) rfl (fun ls hl => ?_)
      exact J na.toNatClampNeg 0 u _ _ hP hS ls (lv_sub hl [0, 2, 1] rfl) (by omega) c4 (by rw [S1_run, if_neg c4, if_pos c5]) hw hrg
    · refine lv_iconst (v := (-1)) hx hb dX1_run_11 (by decide) ?_
      have e9 : S1_run na u = (((-1) : Int32), u) := by rw [S1_run, if_neg c4, if_neg c5]
      exact W.iret (v := ((-1) : Int32)) hx hb hr (fun t ht hW => ⟨⟨((-1) : Int32), (), rfl, by rw [e9], by show va_P _ _ _ t.heap; rw [e9, ht]; exact hP⟩, hS.F ht⟩) hS.2.2 dX1_run_12
end
