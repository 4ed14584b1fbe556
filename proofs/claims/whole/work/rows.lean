section
-- ===== PART A: goes FIRST, ahead of the names: the tables' words, and 'selects' of the private methods out of them =====
/-- a private method of a class that the tables say can be made, by its rows of tables_1 -/
def lw_okq (q : MethodName × Nat) : Prop := (q.1.cls ≠ "java/lang/invoke/MethodHandle" ∧ q.1.cls ≠ "java/lang/invoke/VarHandle") ∧ Cond.instantiable q.1.cls q.2 ∈ tables_1 ∧ Cond.privateMethod q.1 ∈ tables_1 ∧ Cond.instanceMethod q.1 ∈ tables_1
theorem lw_p0 : lw_okq (⟨"TornTryCounter", "tryNumber", "(I)I"⟩, 8) := ⟨⟨by decide +kernel, by decide +kernel⟩, List.mem_of_getElem? (i := 7) (by decide +kernel), List.mem_of_getElem? (i := 85) (by decide +kernel), List.mem_of_getElem? (i := 86) (by decide +kernel)⟩
theorem lw_p1 : lw_okq (⟨"TornTryCounter$Pages", "isGood", "(I)Z"⟩, 1) := ⟨⟨by decide +kernel, by decide +kernel⟩, List.mem_of_getElem? (i := 38) (by decide +kernel), List.mem_of_getElem? (i := 97) (by decide +kernel), List.mem_of_getElem? (i := 98) (by decide +kernel)⟩
theorem lw_p2 : lw_okq (⟨"TornTryCounter$Pages", "generationAfter", "(I)I"⟩, 1) := ⟨⟨by decide +kernel, by decide +kernel⟩, List.mem_of_getElem? (i := 38) (by decide +kernel), List.mem_of_getElem? (i := 105) (by decide +kernel), List.mem_of_getElem? (i := 106) (by decide +kernel)⟩
theorem lw_p3 : lw_okq (⟨"TornTryCounter$Pages", "firstFreeEntry", "()I"⟩, 1) := ⟨⟨by decide +kernel, by decide +kernel⟩, List.mem_of_getElem? (i := 38) (by decide +kernel), List.mem_of_getElem? (i := 113) (by decide +kernel), List.mem_of_getElem? (i := 114) (by decide +kernel)⟩
theorem lw_p4 : lw_okq (⟨"TornTryCounter$Flash", "countOperation", "()Z"⟩, 5) := ⟨⟨by decide +kernel, by decide +kernel⟩, List.mem_of_getElem? (i := 15) (by decide +kernel), List.mem_of_getElem? (i := 134) (by decide +kernel), List.mem_of_getElem? (i := 135) (by decide +kernel)⟩
theorem lw_p5 : lw_okq (⟨"TornTryCounter", "losePower", "()I"⟩, 8) := ⟨⟨by decide +kernel, by decide +kernel⟩, List.mem_of_getElem? (i := 7) (by decide +kernel), List.mem_of_getElem? (i := 145) (by decide +kernel), List.mem_of_getElem? (i := 146) (by decide +kernel)⟩
theorem lw_p6 : lw_okq (⟨"TornTryCounterModel", "attempt", "(I)I"⟩, 18) := ⟨⟨by decide +kernel, by decide +kernel⟩, List.mem_of_getElem? (i := 239) (by decide +kernel), List.mem_of_getElem? (i := 305) (by decide +kernel), List.mem_of_getElem? (i := 306) (by decide +kernel)⟩
theorem lw_p7 : lw_okq (⟨"TornTryCounterModel", "mark", "(Z)Z"⟩, 18) := ⟨⟨by decide +kernel, by decide +kernel⟩, List.mem_of_getElem? (i := 239) (by decide +kernel), List.mem_of_getElem? (i := 309) (by decide +kernel), List.mem_of_getElem? (i := 310) (by decide +kernel)⟩
theorem lw_p8 : lw_okq (⟨"TornTryCounterModel", "turn", "(III)Z"⟩, 18) := ⟨⟨by decide +kernel, by decide +kernel⟩, List.mem_of_getElem? (i := 239) (by decide +kernel), List.mem_of_getElem? (i := 313) (by decide +kernel), List.mem_of_getElem? (i := 314) (by decide +kernel)⟩
theorem lw_p9 : lw_okq (⟨"TornTryCounterModel", "operate", "()I"⟩, 18) := ⟨⟨by decide +kernel, by decide +kernel⟩, List.mem_of_getElem? (i := 239) (by decide +kernel), List.mem_of_getElem? (i := 317) (by decide +kernel), List.mem_of_getElem? (i := 318) (by decide +kernel)⟩
def lw_privs_1 : List (MethodName × Nat) := [(⟨"TornTryCounter", "tryNumber", "(I)I"⟩, 8), (⟨"TornTryCounter$Pages", "isGood", "(I)Z"⟩, 1), (⟨"TornTryCounter$Pages", "generationAfter", "(I)I"⟩, 1), (⟨"TornTryCounter$Pages", "firstFreeEntry", "()I"⟩, 1), (⟨"TornTryCounter$Flash", "countOperation", "()Z"⟩, 5), (⟨"TornTryCounter", "losePower", "()I"⟩, 8), (⟨"TornTryCounterModel", "attempt", "(I)I"⟩, 18), (⟨"TornTryCounterModel", "mark", "(Z)Z"⟩, 18), (⟨"TornTryCounterModel", "turn", "(III)Z"⟩, 18), (⟨"TornTryCounterModel", "operate", "()I"⟩, 18)]
theorem lw_r1 : ∀ q ∈ lw_privs_1, lw_okq q := List.forall_mem_cons.mpr ⟨lw_p0, List.forall_mem_cons.mpr ⟨lw_p1, List.forall_mem_cons.mpr ⟨lw_p2, List.forall_mem_cons.mpr ⟨lw_p3, List.forall_mem_cons.mpr ⟨lw_p4, List.forall_mem_cons.mpr ⟨lw_p5, List.forall_mem_cons.mpr ⟨lw_p6, List.forall_mem_cons.mpr ⟨lw_p7, List.forall_mem_cons.mpr ⟨lw_p8, List.forall_mem_cons.mpr ⟨lw_p9, fun _ h => absurd h List.not_mem_nil⟩⟩⟩⟩⟩⟩⟩⟩⟩⟩
def lw_privs : List (MethodName × Nat) := lw_privs_1
def lw_tbl : List Cond := k2_sels lw_privs ++ tables_1
theorem lw_privs_ok : ∀ q ∈ lw_privs, lw_okq q := lw_r1
-- ===== end of PART A; then your names; then what follows =====
/-! THE CLAIM OUT OF ONE WALK OF THE LAW'S BODY. Your part is whole_start (and what it stands on); all else here is the same for every law, but numbers. -/
def R_law : String := "TornTryCounterLaw"
def lw_P (b : Addr) (xs : List Int32) (args : Array Value) (s : State) : Prop := args = #[.ref b] ∧ s.IntsAt b xs ∧ xs.length ≤ 1540 ∧ (Jvm.Cond.and given_1 narrow_1).before args s = true
def lw_Q (_ : Array Value) (s : State) (o : Outcome) (t : State) : Prop := o = .returned (some (.int 1)) ∧ Framed s o t [] 6 66
def lw_Z (below : List Frame) (a : Array Value) (s : State) : State → Prop := fun t => ∃ o, t.status = .running ∧ Ended t below o ∧ lw_Q a s o t
/-- the law's own end, with 1 on the stack, nothing written that was there before, its room as the claim has it -/
theorem lw_ret {p : Program} {l : Launch} {e : Env} {s : State} {m : MethodId} {below : List Frame} {meth : Method} {c : Code} {b : Nat} (hx : p.tables.exec = Jvm.exec) (hb : c.code = code) (hr : meth.sig.returnType = ret) (hlocks : meth.locks = false) {pc : Nat} {H : Heap} {ls : Array Slot} (hdg : decode code pc = .ok (.ireturn, 1)) : W p l e room_1 s m #[Value.ref b] below meth c H [] 6 66 (lw_Z below #[Value.ref b] s) (F0 m pc ls [.int 1]) := by
  intro T hT X
  obtain ⟨fs, hret, hrun, hended, hW, hframe⟩ := X.leave (v := some (.int 1)) (hlocks := hlocks) (fun h => by rw [hr] at h; cases h)
  have hmeth' : T.vm.method? m = some meth := X.method'
  refine ⟨T.setFrames fs, ?_, .returned (some (.int 1)), hrun, hended, rfl, ⟨_, rfl⟩, hW, hframe⟩
  jvm_step X.here [X.here.top, hx, hb, hdg, hmeth', hr, ret, narrow_b1]
  (try refine ⟨rfl, ?_⟩); (try refine ⟨rfl, ?_⟩)
  first | (intro acts; rw [hret _ acts rfl rfl rfl]) | rw [hret _ _ rfl rfl rfl]
  exact Steps.refl _
/-- what holds at the law's entry: the machine, the code, the tables' words (any of lw_tbl by 'hts w (by decide +kernel)'), the script of L ints xs at the cell b, what the Statement gives of the start (any of its parts by flat_of_before) -/
def lw_At (p : Program) (s : State) (m : MethodId) (meth : Method) (c : Code) (b L : Nat) (xs : Nat → Int32) : Prop :=
  p.tables.exec = Jvm.exec ∧ c.code = code ∧ meth.sig.returnType = ret ∧ c.maxLocals = 4 ∧ s.vm.findClass R_law = some m.cls ∧ (∀ w ∈ lw_tbl, w.before #[Value.ref b] s = true) ∧ va_X b L xs s s.heap ∧ b < s.heap.size ∧ meth.locks = false ∧ (Jvm.Cond.and given_1 narrow_1).before #[Value.ref b] s = true
end
section
/-! ===== BEGIN words of one list among another's, by their places ===== -/
theorem goodIn_r {big : List Cond} (ws : List Cond) (ps : List Nat) (hp : ws = ps.filterMap (fun i => big[i]?)) (h : ws.all goodWord = true) : GoodIn big ws := by
  intro w hw
  have h1 := List.all_eq_true.mp h w hw
  rw [hp] at hw
  obtain ⟨i, -, hi⟩ := List.mem_filterMap.mp hw
  have hm : w ∈ big := by first | exact List.mem_of_getElem? hi | exact List.getElem?_mem hi
  exact ⟨hm, good_of_word h1⟩
theorem goodIn_app {big a b : List Cond} (ha : GoodIn big a) (hb : GoodIn big b) : GoodIn big (a ++ b) := fun w h => (List.mem_append.mp h).elim (ha w) (hb w)
theorem goodIn_ca {big a b : List Cond} {c : Cond} (ha : GoodIn big (c :: a)) (hb : GoodIn big b) : GoodIn big (c :: (a ++ b)) := fun w h => (List.mem_cons.mp h).elim (fun e => ha w (List.mem_cons.mpr (Or.inl e))) (fun h => (List.mem_append.mp h).elim (fun h => ha w (List.mem_cons.mpr (Or.inr h))) (hb w))
theorem goodIn_sub {big ws : List Cond} (hm : ∀ w ∈ ws, w ∈ big) (h : ws.all goodWord = true) : GoodIn big ws := fun w hw => ⟨hm w hw, good_of_word (List.all_eq_true.mp h w hw)⟩
/-! ===== END ===== -/

def RX0 : String := "TornTryCounter$Flash"
def TX0 : u_T := fun k => match k with
  | 0 => ("TornTryCounter$Flash", "bytes", "[I", true)
  | 1 => ("TornTryCounter$Flash", "erases", "[I", true)
  | 2 => ("TornTryCounter$Flash", "operationsDone", "I", false)
  | 3 => ("TornTryCounter$Flash", "operationsToTear", "I", false)
  | _ => ("TornTryCounter$Flash", "tearMask", "I", false)
def tyX0 : Nat → FieldType := fun k => match k with
  | 0 => .array .int
  | 1 => .array .int
  | 2 => .int
  | 3 => .int
  | _ => .int
abbrev wsX00 : List Cond := u_ws RX0 TX0 5
theorem nmX0 : ∀ a, a < 5 → ∀ b, b < 5 → a ≠ b → (TX0 a).2.1 ≠ (TX0 b).2.1 := by decide +kernel
theorem tyX0_ok : ∀ k, k < 5 → parseFieldDescriptor (TX0 k).2.2.1 = some (tyX0 k) := by decide +kernel
abbrev cX0_init : ByteArray := prog_2_method_1_code
def yX0_init : MethodName := ⟨RX0, "<init>", "()V"⟩
abbrev cX0_read : ByteArray := prog_2_method_2_code
def yX0_read : MethodName := ⟨RX0, "read", "(II)I"⟩
abbrev cX0_preset : ByteArray := prog_2_method_3_code
def yX0_preset : MethodName := ⟨RX0, "preset", "(III)V"⟩
abbrev cX0_program : ByteArray := prog_2_method_4_code
def yX0_program : MethodName := ⟨RX0, "program", "(III)Z"⟩
abbrev cX0_erase : ByteArray := prog_2_method_5_code
def yX0_erase : MethodName := ⟨RX0, "erase", "(I)Z"⟩
abbrev cX0_tearLater : ByteArray := prog_2_method_6_code
def yX0_tearLater : MethodName := ⟨RX0, "tearLater", "(II)V"⟩
abbrev cX0_operationCount : ByteArray := prog_2_method_7_code
def yX0_operationCount : MethodName := ⟨RX0, "operationCount", "()I"⟩
abbrev cX0_eraseCount : ByteArray := prog_2_method_8_code
def yX0_eraseCount : MethodName := ⟨RX0, "eraseCount", "(I)I"⟩
abbrev cX0_countOperation : ByteArray := prog_2_method_9_code
def yX0_countOperation : MethodName := ⟨RX0, "countOperation", "()Z"⟩
abbrev cX0_isPage : ByteArray := prog_2_method_10_code
def yX0_isPage : MethodName := ⟨RX0, "isPage", "(I)Z"⟩
def RX1 : String := "TornTryCounter$Pages"
def TX1 : u_T := fun k => match k with
  | _ => ("TornTryCounter$Pages", "flash", "LTornTryCounter$Flash;", true)
def tyX1 : Nat → FieldType := fun k => match k with
  | _ => .object "TornTryCounter$Flash"
abbrev wsX10 : List Cond := u_ws RX1 TX1 1
theorem nmX1 : ∀ a, a < 1 → ∀ b, b < 1 → a ≠ b → (TX1 a).2.1 ≠ (TX1 b).2.1 := by decide +kernel
theorem tyX1_ok : ∀ k, k < 1 → parseFieldDescriptor (TX1 k).2.2.1 = some (tyX1 k) := by decide +kernel
abbrev cX1_init : ByteArray := prog_3_method_1_code
def yX1_init : MethodName := ⟨RX1, "<init>", "(LTornTryCounter$Flash;I)V"⟩
abbrev cX1_active : ByteArray := prog_3_method_2_code
def yX1_active : MethodName := ⟨RX1, "active", "()I"⟩
abbrev cX1_activeGeneration : ByteArray := prog_3_method_3_code
def yX1_activeGeneration : MethodName := ⟨RX1, "activeGeneration", "()I"⟩
abbrev cX1_pin : ByteArray := prog_3_method_4_code
def yX1_pin : MethodName := ⟨RX1, "pin", "()I"⟩
abbrev cX1_pinTriesUsed : ByteArray := prog_3_method_5_code
def yX1_pinTriesUsed : MethodName := ⟨RX1, "pinTriesUsed", "()I"⟩
abbrev cX1_pukTriesUsed : ByteArray := prog_3_method_6_code
def yX1_pukTriesUsed : MethodName := ⟨RX1, "pukTriesUsed", "()I"⟩
abbrev cX1_freeEntries : ByteArray := prog_3_method_7_code
def yX1_freeEntries : MethodName := ⟨RX1, "freeEntries", "()I"⟩
abbrev cX1_mark : ByteArray := prog_3_method_8_code
def yX1_mark : MethodName := ⟨RX1, "mark", "(I)I"⟩
abbrev cX1_remark : ByteArray := prog_3_method_9_code
def yX1_remark : MethodName := ⟨RX1, "remark", "(II)Z"⟩
abbrev cX1_turn : ByteArray := prog_3_method_10_code
def yX1_turn : MethodName := ⟨RX1, "turn", "(III)Z"⟩
abbrev cX1_isGood : ByteArray := prog_3_method_11_code
def yX1_isGood : MethodName := ⟨RX1, "isGood", "(I)Z"⟩
abbrev cX1_generationAfter : ByteArray := prog_3_method_12_code
def yX1_generationAfter : MethodName := ⟨RX1, "generationAfter", "(I)I"⟩
abbrev cX1_firstFreeEntry : ByteArray := prog_3_method_13_code
def yX1_firstFreeEntry : MethodName := ⟨RX1, "firstFreeEntry", "()I"⟩
def RX2 : String := "TornTryCounter"
def TX2 : u_T := fun k => match k with
  | 0 => ("TornTryCounter", "flash", "LTornTryCounter$Flash;", true)
  | 1 => ("TornTryCounter", "pages", "LTornTryCounter$Pages;", true)
  | 2 => ("TornTryCounter", "pukNumber", "I", true)
  | 3 => ("TornTryCounter", "pinLimit", "I", true)
  | 4 => ("TornTryCounter", "pukLimit", "I", true)
  | 5 => ("TornTryCounter", "powered", "Z", false)
  | 6 => ("TornTryCounter", "holderIn", "Z", false)
  | _ => ("TornTryCounter", "tearsArmed", "I", false)
def tyX2 : Nat → FieldType := fun k => match k with
  | 0 => .object "TornTryCounter$Flash"
  | 1 => .object "TornTryCounter$Pages"
  | 2 => .int
  | 3 => .int
  | 4 => .int
  | 5 => .boolean
  | 6 => .boolean
  | _ => .int
abbrev wsX20 : List Cond := u_ws RX2 TX2 8
theorem nmX2 : ∀ a, a < 8 → ∀ b, b < 8 → a ≠ b → (TX2 a).2.1 ≠ (TX2 b).2.1 := by decide +kernel
theorem tyX2_ok : ∀ k, k < 8 → parseFieldDescriptor (TX2 k).2.2.1 = some (tyX2 k) := by decide +kernel
abbrev cX2_init : ByteArray := prog_1_method_1_code
def yX2_init : MethodName := ⟨RX2, "<init>", "(IIII)V"⟩
abbrev cX2_verify : ByteArray := prog_1_method_2_code
def yX2_verify : MethodName := ⟨RX2, "verify", "(I)I"⟩
abbrev cX2_change : ByteArray := prog_1_method_3_code
def yX2_change : MethodName := ⟨RX2, "change", "(II)I"⟩
abbrev cX2_unblock : ByteArray := prog_1_method_4_code
def yX2_unblock : MethodName := ⟨RX2, "unblock", "(II)I"⟩
abbrev cX2_arm : ByteArray := prog_1_method_5_code
def yX2_arm : MethodName := ⟨RX2, "arm", "(II)Z"⟩
abbrev cX2_cut : ByteArray := prog_1_method_6_code
def yX2_cut : MethodName := ⟨RX2, "cut", "()Z"⟩
abbrev cX2_start : ByteArray := prog_1_method_7_code
def yX2_start : MethodName := ⟨RX2, "start", "()Z"⟩
abbrev cX2_in : ByteArray := prog_1_method_8_code
def yX2_in : MethodName := ⟨RX2, "in", "()Z"⟩
abbrev cX2_up : ByteArray := prog_1_method_9_code
def yX2_up : MethodName := ⟨RX2, "up", "()Z"⟩
abbrev cX2_tries : ByteArray := prog_1_method_10_code
def yX2_tries : MethodName := ⟨RX2, "tries", "()I"⟩
abbrev cX2_puks : ByteArray := prog_1_method_11_code
def yX2_puks : MethodName := ⟨RX2, "puks", "()I"⟩
abbrev cX2_page : ByteArray := prog_1_method_12_code
def yX2_page : MethodName := ⟨RX2, "page", "()I"⟩
abbrev cX2_generation : ByteArray := prog_1_method_13_code
def yX2_generation : MethodName := ⟨RX2, "generation", "()I"⟩
abbrev cX2_free : ByteArray := prog_1_method_14_code
def yX2_free : MethodName := ⟨RX2, "free", "()I"⟩
abbrev cX2_operations : ByteArray := prog_1_method_15_code
def yX2_operations : MethodName := ⟨RX2, "operations", "()I"⟩
abbrev cX2_erased : ByteArray := prog_1_method_16_code
def yX2_erased : MethodName := ⟨RX2, "erased", "(I)I"⟩
abbrev cX2_limitOr : ByteArray := prog_1_method_17_code
def yX2_limitOr : MethodName := ⟨RX2, "limitOr", "(II)I"⟩
abbrev cX2_tryNumber : ByteArray := prog_1_method_18_code
def yX2_tryNumber : MethodName := ⟨RX2, "tryNumber", "(I)I"⟩
abbrev cX2_losePower : ByteArray := prog_1_method_19_code
def yX2_losePower : MethodName := ⟨RX2, "losePower", "()I"⟩
def RL : String := "TornTryCounterLaw"
abbrev cL_cell : ByteArray := method_2_code
def yL_cell : MethodName := ⟨RL, "cell", "([II)I"⟩
abbrev cL_law : ByteArray := code
def yL_law : MethodName := ⟨RL, "law", "([I)Z"⟩
def wsX0_init : List Cond := .code yX0_init cX0_init 2 none :: ([.methodLink RX0 1 objectInit, .instanceMethod objectInit, .code objectInit ⟨#[0xb1]⟩ 1 none, .arrayClass .int, .fieldLink RX0 9 "TornTryCounter$Flash" "bytes" "[I", .fieldLink RX0 13 "TornTryCounter$Flash" "erases" "[I", .fieldLink RX0 16 "TornTryCounter$Flash" "operationsDone" "I", .fieldLink RX0 20 "TornTryCounter$Flash" "operationsToTear" "I", .fieldLink RX0 23 "TornTryCounter$Flash" "tearMask" "I"] ++ wsX00)
def wsX0_read : List Cond := .code yX0_read cX0_read 4 (some .int) :: ([.fieldLink RX0 9 "TornTryCounter$Flash" "bytes" "[I"] ++ wsX00)
def wsX0_preset : List Cond := .code yX0_preset cX0_preset 5 none :: ([.fieldLink RX0 9 "TornTryCounter$Flash" "bytes" "[I"] ++ wsX00)
def wsX0_countOperation : List Cond := .code yX0_countOperation cX0_countOperation 1 (some .boolean) :: ([.fieldLink RX0 16 "TornTryCounter$Flash" "operationsDone" "I", .fieldLink RX0 20 "TornTryCounter$Flash" "operationsToTear" "I"] ++ wsX00)
def wsX0_program : List Cond := .code yX0_program cX0_program 7 (some .boolean) :: ([.fieldLink RX0 23 "TornTryCounter$Flash" "tearMask" "I", .fieldLink RX0 9 "TornTryCounter$Flash" "bytes" "[I", .methodLink RX0 26 yX0_countOperation, .instanceMethod yX0_countOperation, .selects RX0 yX0_countOperation yX0_countOperation, .initialized RX0, .code yX0_countOperation cX0_countOperation 1 (some .boolean), .fieldLink RX0 16 "TornTryCounter$Flash" "operationsDone" "I", .fieldLink RX0 20 "TornTryCounter$Flash" "operationsToTear" "I"] ++ wsX00)
def wsX0_isPage : List Cond := .code yX0_isPage cX0_isPage 1 (some .boolean) :: ([])
def wsX0_erase : List Cond := .code yX0_erase cX0_erase 5 (some .boolean) :: ([.fieldLink RX0 23 "TornTryCounter$Flash" "tearMask" "I", .fieldLink RX0 13 "TornTryCounter$Flash" "erases" "[I", .fieldLink RX0 9 "TornTryCounter$Flash" "bytes" "[I", .methodLink RX0 26 yX0_countOperation, .instanceMethod yX0_countOperation, .selects RX0 yX0_countOperation yX0_countOperation, .initialized RX0, .code yX0_countOperation cX0_countOperation 1 (some .boolean), .fieldLink RX0 16 "TornTryCounter$Flash" "operationsDone" "I", .fieldLink RX0 20 "TornTryCounter$Flash" "operationsToTear" "I", .methodLink RX0 30 yX0_isPage, .static yX0_isPage, .code yX0_isPage cX0_isPage 1 (some .boolean)] ++ wsX00)
def wsX0_tearLater : List Cond := .code yX0_tearLater cX0_tearLater 3 none :: ([.fieldLink RX0 20 "TornTryCounter$Flash" "operationsToTear" "I", .fieldLink RX0 23 "TornTryCounter$Flash" "tearMask" "I"] ++ wsX00)
def wsX0_operationCount : List Cond := .code yX0_operationCount cX0_operationCount 1 (some .int) :: ([.fieldLink RX0 16 "TornTryCounter$Flash" "operationsDone" "I"] ++ wsX00)
def wsX0_eraseCount : List Cond := .code yX0_eraseCount cX0_eraseCount 2 (some .int) :: ([.fieldLink RX0 13 "TornTryCounter$Flash" "erases" "[I", .methodLink RX0 30 yX0_isPage, .static yX0_isPage, .initialized RX0, .code yX0_isPage cX0_isPage 1 (some .boolean)] ++ wsX00)
def wsX1_init : List Cond := .code yX1_init cX1_init 3 none :: ([.methodLink RX1 1 objectInit, .instanceMethod objectInit, .code objectInit ⟨#[0xb1]⟩ 1 none, .fieldLink RX1 7 "TornTryCounter$Pages" "flash" "LTornTryCounter$Flash;", .methodLink RX1 13 yX0_preset, .instanceMethod yX0_preset, .selects RX0 yX0_preset yX0_preset, .initialized RX0, .code yX0_preset cX0_preset 5 none, .fieldLink RX0 9 "TornTryCounter$Flash" "bytes" "[I"] ++ wsX10 ++ wsX00)
def wsX1_isGood : List Cond := .code yX1_isGood cX1_isGood 2 (some .boolean) :: ([.fieldLink RX1 7 "TornTryCounter$Pages" "flash" "LTornTryCounter$Flash;", .methodLink RX1 23 yX0_read, .instanceMethod yX0_read, .selects RX0 yX0_read yX0_read, .initialized RX0, .code yX0_read cX0_read 4 (some .int), .fieldLink RX0 9 "TornTryCounter$Flash" "bytes" "[I"] ++ wsX10 ++ wsX00)
def wsX1_generationAfter : List Cond := .code yX1_generationAfter cX1_generationAfter 2 (some .int) :: ([.fieldLink RX1 7 "TornTryCounter$Pages" "flash" "LTornTryCounter$Flash;", .methodLink RX1 23 yX0_read, .instanceMethod yX0_read, .selects RX0 yX0_read yX0_read, .initialized RX0, .code yX0_read cX0_read 4 (some .int), .fieldLink RX0 9 "TornTryCounter$Flash" "bytes" "[I"] ++ wsX10 ++ wsX00)
def wsX1_active : List Cond := .code yX1_active cX1_active 1 (some .int) :: ([.fieldLink RX1 7 "TornTryCounter$Pages" "flash" "LTornTryCounter$Flash;", .methodLink RX1 19 yX1_isGood, .instanceMethod yX1_isGood, .selects RX1 yX1_isGood yX1_isGood, .initialized RX1, .code yX1_isGood cX1_isGood 2 (some .boolean), .methodLink RX1 23 yX0_read, .instanceMethod yX0_read, .selects RX0 yX0_read yX0_read, .initialized RX0, .code yX0_read cX0_read 4 (some .int), .fieldLink RX0 9 "TornTryCounter$Flash" "bytes" "[I", .methodLink RX1 27 yX1_generationAfter, .instanceMethod yX1_generationAfter, .selects RX1 yX1_generationAfter yX1_generationAfter, .code yX1_generationAfter cX1_generationAfter 2 (some .int)] ++ wsX10 ++ wsX00)
def wsX1_activeGeneration : List Cond := .code yX1_activeGeneration cX1_activeGeneration 1 (some .int) :: ([.fieldLink RX1 7 "TornTryCounter$Pages" "flash" "LTornTryCounter$Flash;", .methodLink RX1 31 yX1_active, .instanceMethod yX1_active, .selects RX1 yX1_active yX1_active, .initialized RX1, .code yX1_active cX1_active 1 (some .int), .methodLink RX1 19 yX1_isGood, .instanceMethod yX1_isGood, .selects RX1 yX1_isGood yX1_isGood, .code yX1_isGood cX1_isGood 2 (some .boolean), .methodLink RX1 23 yX0_read, .instanceMethod yX0_read, .selects RX0 yX0_read yX0_read, .initialized RX0, .code yX0_read cX0_read 4 (some .int), .fieldLink RX0 9 "TornTryCounter$Flash" "bytes" "[I", .methodLink RX1 27 yX1_generationAfter, .instanceMethod yX1_generationAfter, .selects RX1 yX1_generationAfter yX1_generationAfter, .code yX1_generationAfter cX1_generationAfter 2 (some .int)] ++ wsX10 ++ wsX00)
def wsX1_pin : List Cond := .code yX1_pin cX1_pin 2 (some .int) :: ([.fieldLink RX1 7 "TornTryCounter$Pages" "flash" "LTornTryCounter$Flash;", .methodLink RX1 31 yX1_active, .instanceMethod yX1_active, .selects RX1 yX1_active yX1_active, .initialized RX1, .code yX1_active cX1_active 1 (some .int), .methodLink RX1 19 yX1_isGood, .instanceMethod yX1_isGood, .selects RX1 yX1_isGood yX1_isGood, .code yX1_isGood cX1_isGood 2 (some .boolean), .methodLink RX1 23 yX0_read, .instanceMethod yX0_read, .selects RX0 yX0_read yX0_read, .initialized RX0, .code yX0_read cX0_read 4 (some .int), .fieldLink RX0 9 "TornTryCounter$Flash" "bytes" "[I", .methodLink RX1 27 yX1_generationAfter, .instanceMethod yX1_generationAfter, .selects RX1 yX1_generationAfter yX1_generationAfter, .code yX1_generationAfter cX1_generationAfter 2 (some .int)] ++ wsX10 ++ wsX00)
def wsX1_pinTriesUsed : List Cond := .code yX1_pinTriesUsed cX1_pinTriesUsed 5 (some .int) :: ([.fieldLink RX1 7 "TornTryCounter$Pages" "flash" "LTornTryCounter$Flash;", .methodLink RX1 31 yX1_active, .instanceMethod yX1_active, .selects RX1 yX1_active yX1_active, .initialized RX1, .code yX1_active cX1_active 1 (some .int), .methodLink RX1 19 yX1_isGood, .instanceMethod yX1_isGood, .selects RX1 yX1_isGood yX1_isGood, .code yX1_isGood cX1_isGood 2 (some .boolean), .methodLink RX1 23 yX0_read, .instanceMethod yX0_read, .selects RX0 yX0_read yX0_read, .initialized RX0, .code yX0_read cX0_read 4 (some .int), .fieldLink RX0 9 "TornTryCounter$Flash" "bytes" "[I", .methodLink RX1 27 yX1_generationAfter, .instanceMethod yX1_generationAfter, .selects RX1 yX1_generationAfter yX1_generationAfter, .code yX1_generationAfter cX1_generationAfter 2 (some .int)] ++ wsX10 ++ wsX00)
def wsX1_pukTriesUsed : List Cond := .code yX1_pukTriesUsed cX1_pukTriesUsed 4 (some .int) :: ([.fieldLink RX1 7 "TornTryCounter$Pages" "flash" "LTornTryCounter$Flash;", .methodLink RX1 31 yX1_active, .instanceMethod yX1_active, .selects RX1 yX1_active yX1_active, .initialized RX1, .code yX1_active cX1_active 1 (some .int), .methodLink RX1 19 yX1_isGood, .instanceMethod yX1_isGood, .selects RX1 yX1_isGood yX1_isGood, .code yX1_isGood cX1_isGood 2 (some .boolean), .methodLink RX1 23 yX0_read, .instanceMethod yX0_read, .selects RX0 yX0_read yX0_read, .initialized RX0, .code yX0_read cX0_read 4 (some .int), .fieldLink RX0 9 "TornTryCounter$Flash" "bytes" "[I", .methodLink RX1 27 yX1_generationAfter, .instanceMethod yX1_generationAfter, .selects RX1 yX1_generationAfter yX1_generationAfter, .code yX1_generationAfter cX1_generationAfter 2 (some .int)] ++ wsX10 ++ wsX00)
def wsX1_freeEntries : List Cond := .code yX1_freeEntries cX1_freeEntries 4 (some .int) :: ([.fieldLink RX1 7 "TornTryCounter$Pages" "flash" "LTornTryCounter$Flash;", .methodLink RX1 31 yX1_active, .instanceMethod yX1_active, .selects RX1 yX1_active yX1_active, .initialized RX1, .code yX1_active cX1_active 1 (some .int), .methodLink RX1 19 yX1_isGood, .instanceMethod yX1_isGood, .selects RX1 yX1_isGood yX1_isGood, .code yX1_isGood cX1_isGood 2 (some .boolean), .methodLink RX1 23 yX0_read, .instanceMethod yX0_read, .selects RX0 yX0_read yX0_read, .initialized RX0, .code yX0_read cX0_read 4 (some .int), .fieldLink RX0 9 "TornTryCounter$Flash" "bytes" "[I", .methodLink RX1 27 yX1_generationAfter, .instanceMethod yX1_generationAfter, .selects RX1 yX1_generationAfter yX1_generationAfter, .code yX1_generationAfter cX1_generationAfter 2 (some .int)] ++ wsX10 ++ wsX00)
def wsX1_firstFreeEntry : List Cond := .code yX1_firstFreeEntry cX1_firstFreeEntry 3 (some .int) :: ([.fieldLink RX1 7 "TornTryCounter$Pages" "flash" "LTornTryCounter$Flash;", .methodLink RX1 31 yX1_active, .instanceMethod yX1_active, .selects RX1 yX1_active yX1_active, .initialized RX1, .code yX1_active cX1_active 1 (some .int), .methodLink RX1 19 yX1_isGood, .instanceMethod yX1_isGood, .selects RX1 yX1_isGood yX1_isGood, .code yX1_isGood cX1_isGood 2 (some .boolean), .methodLink RX1 23 yX0_read, .instanceMethod yX0_read, .selects RX0 yX0_read yX0_read, .initialized RX0, .code yX0_read cX0_read 4 (some .int), .fieldLink RX0 9 "TornTryCounter$Flash" "bytes" "[I", .methodLink RX1 27 yX1_generationAfter, .instanceMethod yX1_generationAfter, .selects RX1 yX1_generationAfter yX1_generationAfter, .code yX1_generationAfter cX1_generationAfter 2 (some .int)] ++ wsX10 ++ wsX00)
def wsX1_turn_r1 : List Cond := [Cond.fieldLink RX1 7 "TornTryCounter$Pages" "flash" "LTornTryCounter$Flash;", Cond.methodLink RX1 31 yX1_active, Cond.instanceMethod yX1_active, Cond.selects RX1 yX1_active yX1_active, Cond.initialized RX1, Cond.code yX1_active cX1_active 1 (some .int), Cond.methodLink RX1 19 yX1_isGood, Cond.instanceMethod yX1_isGood, Cond.selects RX1 yX1_isGood yX1_isGood, Cond.code yX1_isGood cX1_isGood 2 (some .boolean), Cond.methodLink RX1 23 yX0_read, Cond.instanceMethod yX0_read, Cond.selects RX0 yX0_read yX0_read, Cond.initialized RX0, Cond.code yX0_read cX0_read 4 (some .int), Cond.fieldLink RX0 9 "TornTryCounter$Flash" "bytes" "[I", Cond.methodLink RX1 27 yX1_generationAfter, Cond.instanceMethod yX1_generationAfter, Cond.selects RX1 yX1_generationAfter yX1_generationAfter, Cond.code yX1_generationAfter cX1_generationAfter 2 (some .int), Cond.methodLink RX1 51 yX0_program, Cond.instanceMethod yX0_program, Cond.selects RX0 yX0_program yX0_program, Cond.code yX0_program cX0_program 7 (some .boolean)]
def wsX1_turn_r2 : List Cond := [Cond.fieldLink RX0 23 "TornTryCounter$Flash" "tearMask" "I", Cond.methodLink RX0 26 yX0_countOperation, Cond.instanceMethod yX0_countOperation, Cond.selects RX0 yX0_countOperation yX0_countOperation, Cond.code yX0_countOperation cX0_countOperation 1 (some .boolean), Cond.fieldLink RX0 16 "TornTryCounter$Flash" "operationsDone" "I", Cond.fieldLink RX0 20 "TornTryCounter$Flash" "operationsToTear" "I", Cond.methodLink RX1 54 yX0_erase, Cond.instanceMethod yX0_erase, Cond.selects RX0 yX0_erase yX0_erase, Cond.code yX0_erase cX0_erase 5 (some .boolean), Cond.fieldLink RX0 13 "TornTryCounter$Flash" "erases" "[I", Cond.methodLink RX0 30 yX0_isPage, Cond.static yX0_isPage, Cond.code yX0_isPage cX0_isPage 1 (some .boolean)]
def wsX1_turn : List Cond := .code yX1_turn cX1_turn 6 (some .boolean) :: ((wsX1_turn_r1 ++ wsX1_turn_r2) ++ wsX10 ++ wsX00)
def wsX1_mark_r1 : List Cond := [Cond.fieldLink RX1 7 "TornTryCounter$Pages" "flash" "LTornTryCounter$Flash;", Cond.methodLink RX1 35 yX1_firstFreeEntry, Cond.instanceMethod yX1_firstFreeEntry, Cond.selects RX1 yX1_firstFreeEntry yX1_firstFreeEntry, Cond.initialized RX1, Cond.code yX1_firstFreeEntry cX1_firstFreeEntry 3 (some .int), Cond.methodLink RX1 31 yX1_active, Cond.instanceMethod yX1_active, Cond.selects RX1 yX1_active yX1_active, Cond.code yX1_active cX1_active 1 (some .int), Cond.methodLink RX1 19 yX1_isGood, Cond.instanceMethod yX1_isGood, Cond.selects RX1 yX1_isGood yX1_isGood, Cond.code yX1_isGood cX1_isGood 2 (some .boolean), Cond.methodLink RX1 23 yX0_read, Cond.instanceMethod yX0_read, Cond.selects RX0 yX0_read yX0_read, Cond.initialized RX0, Cond.code yX0_read cX0_read 4 (some .int), Cond.fieldLink RX0 9 "TornTryCounter$Flash" "bytes" "[I", Cond.methodLink RX1 27 yX1_generationAfter, Cond.instanceMethod yX1_generationAfter, Cond.selects RX1 yX1_generationAfter yX1_generationAfter, Cond.code yX1_generationAfter cX1_generationAfter 2 (some .int)]
def wsX1_mark_r2 : List Cond := [Cond.methodLink RX1 38 yX1_pin, Cond.instanceMethod yX1_pin, Cond.selects RX1 yX1_pin yX1_pin, Cond.code yX1_pin cX1_pin 2 (some .int), Cond.methodLink RX1 41 yX1_pinTriesUsed, Cond.instanceMethod yX1_pinTriesUsed, Cond.selects RX1 yX1_pinTriesUsed yX1_pinTriesUsed, Cond.code yX1_pinTriesUsed cX1_pinTriesUsed 5 (some .int), Cond.methodLink RX1 44 yX1_pukTriesUsed, Cond.instanceMethod yX1_pukTriesUsed, Cond.selects RX1 yX1_pukTriesUsed yX1_pukTriesUsed, Cond.code yX1_pukTriesUsed cX1_pukTriesUsed 4 (some .int), Cond.methodLink RX1 47 yX1_turn, Cond.instanceMethod yX1_turn, Cond.selects RX1 yX1_turn yX1_turn, Cond.code yX1_turn cX1_turn 6 (some .boolean), Cond.methodLink RX1 51 yX0_program, Cond.instanceMethod yX0_program, Cond.selects RX0 yX0_program yX0_program, Cond.code yX0_program cX0_program 7 (some .boolean), Cond.fieldLink RX0 23 "TornTryCounter$Flash" "tearMask" "I", Cond.methodLink RX0 26 yX0_countOperation, Cond.instanceMethod yX0_countOperation, Cond.selects RX0 yX0_countOperation yX0_countOperation]
def wsX1_mark_r3 : List Cond := [Cond.code yX0_countOperation cX0_countOperation 1 (some .boolean), Cond.fieldLink RX0 16 "TornTryCounter$Flash" "operationsDone" "I", Cond.fieldLink RX0 20 "TornTryCounter$Flash" "operationsToTear" "I", Cond.methodLink RX1 54 yX0_erase, Cond.instanceMethod yX0_erase, Cond.selects RX0 yX0_erase yX0_erase, Cond.code yX0_erase cX0_erase 5 (some .boolean), Cond.fieldLink RX0 13 "TornTryCounter$Flash" "erases" "[I", Cond.methodLink RX0 30 yX0_isPage, Cond.static yX0_isPage, Cond.code yX0_isPage cX0_isPage 1 (some .boolean)]
def wsX1_mark : List Cond := .code yX1_mark cX1_mark 3 (some .int) :: ((wsX1_mark_r1 ++ (wsX1_mark_r2 ++ wsX1_mark_r3)) ++ wsX10 ++ wsX00)
def wsX1_remark_r1 : List Cond := [Cond.fieldLink RX1 7 "TornTryCounter$Pages" "flash" "LTornTryCounter$Flash;", Cond.methodLink RX1 31 yX1_active, Cond.instanceMethod yX1_active, Cond.selects RX1 yX1_active yX1_active, Cond.initialized RX1, Cond.code yX1_active cX1_active 1 (some .int), Cond.methodLink RX1 19 yX1_isGood, Cond.instanceMethod yX1_isGood, Cond.selects RX1 yX1_isGood yX1_isGood, Cond.code yX1_isGood cX1_isGood 2 (some .boolean), Cond.methodLink RX1 23 yX0_read, Cond.instanceMethod yX0_read, Cond.selects RX0 yX0_read yX0_read, Cond.initialized RX0, Cond.code yX0_read cX0_read 4 (some .int), Cond.fieldLink RX0 9 "TornTryCounter$Flash" "bytes" "[I", Cond.methodLink RX1 27 yX1_generationAfter, Cond.instanceMethod yX1_generationAfter, Cond.selects RX1 yX1_generationAfter yX1_generationAfter, Cond.code yX1_generationAfter cX1_generationAfter 2 (some .int), Cond.methodLink RX1 51 yX0_program, Cond.instanceMethod yX0_program, Cond.selects RX0 yX0_program yX0_program, Cond.code yX0_program cX0_program 7 (some .boolean)]
def wsX1_remark_r2 : List Cond := [Cond.fieldLink RX0 23 "TornTryCounter$Flash" "tearMask" "I", Cond.methodLink RX0 26 yX0_countOperation, Cond.instanceMethod yX0_countOperation, Cond.selects RX0 yX0_countOperation yX0_countOperation, Cond.code yX0_countOperation cX0_countOperation 1 (some .boolean), Cond.fieldLink RX0 16 "TornTryCounter$Flash" "operationsDone" "I", Cond.fieldLink RX0 20 "TornTryCounter$Flash" "operationsToTear" "I"]
def wsX1_remark : List Cond := .code yX1_remark cX1_remark 3 (some .boolean) :: ((wsX1_remark_r1 ++ wsX1_remark_r2) ++ wsX10 ++ wsX00)
def wsX2_limitOr : List Cond := .code yX2_limitOr cX2_limitOr 2 (some .int) :: ([])
def wsX2_init_r1 : List Cond := [Cond.methodLink RX2 1 objectInit, Cond.instanceMethod objectInit, Cond.code objectInit ⟨#[0xb1]⟩ 1 none, Cond.classLink RX2 7 RX0, Cond.instantiable RX0 5, Cond.initialized RX0, Cond.fieldLink RX2 10 "TornTryCounter" "flash" "LTornTryCounter$Flash;", Cond.classLink RX2 16 RX1, Cond.instantiable RX1 1, Cond.initialized RX1, Cond.constant RX2 18 (65535), Cond.fieldLink RX2 22 "TornTryCounter" "pages" "LTornTryCounter$Pages;", Cond.fieldLink RX2 26 "TornTryCounter" "pukNumber" "I", Cond.fieldLink RX2 34 "TornTryCounter" "pinLimit" "I", Cond.fieldLink RX2 37 "TornTryCounter" "pukLimit" "I", Cond.fieldLink RX2 40 "TornTryCounter" "powered" "Z", Cond.fieldLink RX2 44 "TornTryCounter" "holderIn" "Z", Cond.fieldLink RX2 47 "TornTryCounter" "tearsArmed" "I", Cond.methodLink RX2 9 yX0_init, Cond.instanceMethod yX0_init, Cond.code yX0_init cX0_init 2 none, Cond.methodLink RX0 1 objectInit, Cond.arrayClass .int, Cond.fieldLink RX0 9 "TornTryCounter$Flash" "bytes" "[I"]
def wsX2_init_r2 : List Cond := [Cond.fieldLink RX0 13 "TornTryCounter$Flash" "erases" "[I", Cond.fieldLink RX0 16 "TornTryCounter$Flash" "operationsDone" "I", Cond.fieldLink RX0 20 "TornTryCounter$Flash" "operationsToTear" "I", Cond.fieldLink RX0 23 "TornTryCounter$Flash" "tearMask" "I", Cond.methodLink RX2 19 yX1_init, Cond.instanceMethod yX1_init, Cond.code yX1_init cX1_init 3 none, Cond.methodLink RX1 1 objectInit, Cond.fieldLink RX1 7 "TornTryCounter$Pages" "flash" "LTornTryCounter$Flash;", Cond.methodLink RX1 13 yX0_preset, Cond.instanceMethod yX0_preset, Cond.selects RX0 yX0_preset yX0_preset, Cond.code yX0_preset cX0_preset 5 none, Cond.methodLink RX2 30 yX2_limitOr, Cond.static yX2_limitOr, Cond.initialized RX2, Cond.code yX2_limitOr cX2_limitOr 2 (some .int)]
def wsX2_init : List Cond := .code yX2_init cX2_init 5 none :: ((wsX2_init_r1 ++ wsX2_init_r2) ++ wsX00 ++ wsX20 ++ wsX10)
def wsX2_losePower : List Cond := .code yX2_losePower cX2_losePower 1 (some .int) :: ([.fieldLink RX2 40 "TornTryCounter" "powered" "Z", .fieldLink RX2 44 "TornTryCounter" "holderIn" "Z"] ++ wsX20)
def wsX2_tryNumber_r1 : List Cond := [Cond.fieldLink RX2 40 "TornTryCounter" "powered" "Z", Cond.fieldLink RX2 22 "TornTryCounter" "pages" "LTornTryCounter$Pages;", Cond.fieldLink RX2 34 "TornTryCounter" "pinLimit" "I", Cond.fieldLink RX2 44 "TornTryCounter" "holderIn" "Z", Cond.methodLink RX2 72 yX1_pinTriesUsed, Cond.instanceMethod yX1_pinTriesUsed, Cond.selects RX1 yX1_pinTriesUsed yX1_pinTriesUsed, Cond.initialized RX1, Cond.code yX1_pinTriesUsed cX1_pinTriesUsed 5 (some .int), Cond.fieldLink RX1 7 "TornTryCounter$Pages" "flash" "LTornTryCounter$Flash;", Cond.methodLink RX1 31 yX1_active, Cond.instanceMethod yX1_active, Cond.selects RX1 yX1_active yX1_active, Cond.code yX1_active cX1_active 1 (some .int), Cond.methodLink RX1 19 yX1_isGood, Cond.instanceMethod yX1_isGood, Cond.selects RX1 yX1_isGood yX1_isGood, Cond.code yX1_isGood cX1_isGood 2 (some .boolean), Cond.methodLink RX1 23 yX0_read, Cond.instanceMethod yX0_read, Cond.selects RX0 yX0_read yX0_read, Cond.initialized RX0, Cond.code yX0_read cX0_read 4 (some .int), Cond.fieldLink RX0 9 "TornTryCounter$Flash" "bytes" "[I"]
def wsX2_tryNumber_r2 : List Cond := [Cond.methodLink RX1 27 yX1_generationAfter, Cond.instanceMethod yX1_generationAfter, Cond.selects RX1 yX1_generationAfter yX1_generationAfter, Cond.code yX1_generationAfter cX1_generationAfter 2 (some .int), Cond.methodLink RX2 65 yX1_mark, Cond.instanceMethod yX1_mark, Cond.selects RX1 yX1_mark yX1_mark, Cond.code yX1_mark cX1_mark 3 (some .int), Cond.methodLink RX1 35 yX1_firstFreeEntry, Cond.instanceMethod yX1_firstFreeEntry, Cond.selects RX1 yX1_firstFreeEntry yX1_firstFreeEntry, Cond.code yX1_firstFreeEntry cX1_firstFreeEntry 3 (some .int), Cond.methodLink RX1 38 yX1_pin, Cond.instanceMethod yX1_pin, Cond.selects RX1 yX1_pin yX1_pin, Cond.code yX1_pin cX1_pin 2 (some .int), Cond.methodLink RX1 41 yX1_pinTriesUsed, Cond.methodLink RX1 44 yX1_pukTriesUsed, Cond.instanceMethod yX1_pukTriesUsed, Cond.selects RX1 yX1_pukTriesUsed yX1_pukTriesUsed, Cond.code yX1_pukTriesUsed cX1_pukTriesUsed 4 (some .int), Cond.methodLink RX1 47 yX1_turn, Cond.instanceMethod yX1_turn, Cond.selects RX1 yX1_turn yX1_turn]
def wsX2_tryNumber_r3 : List Cond := [Cond.code yX1_turn cX1_turn 6 (some .boolean), Cond.methodLink RX1 51 yX0_program, Cond.instanceMethod yX0_program, Cond.selects RX0 yX0_program yX0_program, Cond.code yX0_program cX0_program 7 (some .boolean), Cond.fieldLink RX0 23 "TornTryCounter$Flash" "tearMask" "I", Cond.methodLink RX0 26 yX0_countOperation, Cond.instanceMethod yX0_countOperation, Cond.selects RX0 yX0_countOperation yX0_countOperation, Cond.code yX0_countOperation cX0_countOperation 1 (some .boolean), Cond.fieldLink RX0 16 "TornTryCounter$Flash" "operationsDone" "I", Cond.fieldLink RX0 20 "TornTryCounter$Flash" "operationsToTear" "I", Cond.methodLink RX1 54 yX0_erase, Cond.instanceMethod yX0_erase, Cond.selects RX0 yX0_erase yX0_erase, Cond.code yX0_erase cX0_erase 5 (some .boolean), Cond.fieldLink RX0 13 "TornTryCounter$Flash" "erases" "[I", Cond.methodLink RX0 30 yX0_isPage, Cond.static yX0_isPage, Cond.code yX0_isPage cX0_isPage 1 (some .boolean), Cond.methodLink RX2 62 yX2_losePower, Cond.instanceMethod yX2_losePower, Cond.selects RX2 yX2_losePower yX2_losePower, Cond.initialized RX2]
def wsX2_tryNumber_r4 : List Cond := [Cond.code yX2_losePower cX2_losePower 1 (some .int), Cond.methodLink RX2 95 yX1_pin, Cond.methodLink RX2 98 yX1_remark, Cond.instanceMethod yX1_remark, Cond.selects RX1 yX1_remark yX1_remark, Cond.code yX1_remark cX1_remark 3 (some .boolean)]
def wsX2_tryNumber : List Cond := .code yX2_tryNumber cX2_tryNumber 3 (some .int) :: ((wsX2_tryNumber_r1 ++ (wsX2_tryNumber_r2 ++ (wsX2_tryNumber_r3 ++ wsX2_tryNumber_r4))) ++ wsX20 ++ wsX10 ++ wsX00)
def wsX2_verify_r1 : List Cond := [Cond.constant RX2 18 (65535), Cond.fieldLink RX2 44 "TornTryCounter" "holderIn" "Z", Cond.methodLink RX2 50 yX2_tryNumber, Cond.instanceMethod yX2_tryNumber, Cond.selects RX2 yX2_tryNumber yX2_tryNumber, Cond.initialized RX2, Cond.code yX2_tryNumber cX2_tryNumber 3 (some .int), Cond.fieldLink RX2 40 "TornTryCounter" "powered" "Z", Cond.fieldLink RX2 22 "TornTryCounter" "pages" "LTornTryCounter$Pages;", Cond.fieldLink RX2 34 "TornTryCounter" "pinLimit" "I", Cond.methodLink RX2 72 yX1_pinTriesUsed, Cond.instanceMethod yX1_pinTriesUsed, Cond.selects RX1 yX1_pinTriesUsed yX1_pinTriesUsed, Cond.initialized RX1, Cond.code yX1_pinTriesUsed cX1_pinTriesUsed 5 (some .int), Cond.fieldLink RX1 7 "TornTryCounter$Pages" "flash" "LTornTryCounter$Flash;", Cond.methodLink RX1 31 yX1_active, Cond.instanceMethod yX1_active, Cond.selects RX1 yX1_active yX1_active, Cond.code yX1_active cX1_active 1 (some .int), Cond.methodLink RX1 19 yX1_isGood, Cond.instanceMethod yX1_isGood, Cond.selects RX1 yX1_isGood yX1_isGood, Cond.code yX1_isGood cX1_isGood 2 (some .boolean)]
def wsX2_verify_r2 : List Cond := [Cond.methodLink RX1 23 yX0_read, Cond.instanceMethod yX0_read, Cond.selects RX0 yX0_read yX0_read, Cond.initialized RX0, Cond.code yX0_read cX0_read 4 (some .int), Cond.fieldLink RX0 9 "TornTryCounter$Flash" "bytes" "[I", Cond.methodLink RX1 27 yX1_generationAfter, Cond.instanceMethod yX1_generationAfter, Cond.selects RX1 yX1_generationAfter yX1_generationAfter, Cond.code yX1_generationAfter cX1_generationAfter 2 (some .int), Cond.methodLink RX2 65 yX1_mark, Cond.instanceMethod yX1_mark, Cond.selects RX1 yX1_mark yX1_mark, Cond.code yX1_mark cX1_mark 3 (some .int), Cond.methodLink RX1 35 yX1_firstFreeEntry, Cond.instanceMethod yX1_firstFreeEntry, Cond.selects RX1 yX1_firstFreeEntry yX1_firstFreeEntry, Cond.code yX1_firstFreeEntry cX1_firstFreeEntry 3 (some .int), Cond.methodLink RX1 38 yX1_pin, Cond.instanceMethod yX1_pin, Cond.selects RX1 yX1_pin yX1_pin, Cond.code yX1_pin cX1_pin 2 (some .int), Cond.methodLink RX1 41 yX1_pinTriesUsed, Cond.methodLink RX1 44 yX1_pukTriesUsed]
def wsX2_verify_r3 : List Cond := [Cond.instanceMethod yX1_pukTriesUsed, Cond.selects RX1 yX1_pukTriesUsed yX1_pukTriesUsed, Cond.code yX1_pukTriesUsed cX1_pukTriesUsed 4 (some .int), Cond.methodLink RX1 47 yX1_turn, Cond.instanceMethod yX1_turn, Cond.selects RX1 yX1_turn yX1_turn, Cond.code yX1_turn cX1_turn 6 (some .boolean), Cond.methodLink RX1 51 yX0_program, Cond.instanceMethod yX0_program, Cond.selects RX0 yX0_program yX0_program, Cond.code yX0_program cX0_program 7 (some .boolean), Cond.fieldLink RX0 23 "TornTryCounter$Flash" "tearMask" "I", Cond.methodLink RX0 26 yX0_countOperation, Cond.instanceMethod yX0_countOperation, Cond.selects RX0 yX0_countOperation yX0_countOperation, Cond.code yX0_countOperation cX0_countOperation 1 (some .boolean), Cond.fieldLink RX0 16 "TornTryCounter$Flash" "operationsDone" "I", Cond.fieldLink RX0 20 "TornTryCounter$Flash" "operationsToTear" "I", Cond.methodLink RX1 54 yX0_erase, Cond.instanceMethod yX0_erase, Cond.selects RX0 yX0_erase yX0_erase, Cond.code yX0_erase cX0_erase 5 (some .boolean), Cond.fieldLink RX0 13 "TornTryCounter$Flash" "erases" "[I", Cond.methodLink RX0 30 yX0_isPage]
def wsX2_verify_r4 : List Cond := [Cond.static yX0_isPage, Cond.code yX0_isPage cX0_isPage 1 (some .boolean), Cond.methodLink RX2 62 yX2_losePower, Cond.instanceMethod yX2_losePower, Cond.selects RX2 yX2_losePower yX2_losePower, Cond.code yX2_losePower cX2_losePower 1 (some .int), Cond.methodLink RX2 95 yX1_pin, Cond.methodLink RX2 98 yX1_remark, Cond.instanceMethod yX1_remark, Cond.selects RX1 yX1_remark yX1_remark, Cond.code yX1_remark cX1_remark 3 (some .boolean)]
def wsX2_verify : List Cond := .code yX2_verify cX2_verify 3 (some .int) :: ((wsX2_verify_r1 ++ (wsX2_verify_r2 ++ (wsX2_verify_r3 ++ wsX2_verify_r4))) ++ wsX20 ++ wsX10 ++ wsX00)
def wsX2_change_r1 : List Cond := [Cond.constant RX2 18 (65535), Cond.fieldLink RX2 22 "TornTryCounter" "pages" "LTornTryCounter$Pages;", Cond.fieldLink RX2 44 "TornTryCounter" "holderIn" "Z", Cond.methodLink RX2 50 yX2_tryNumber, Cond.instanceMethod yX2_tryNumber, Cond.selects RX2 yX2_tryNumber yX2_tryNumber, Cond.initialized RX2, Cond.code yX2_tryNumber cX2_tryNumber 3 (some .int), Cond.fieldLink RX2 40 "TornTryCounter" "powered" "Z", Cond.fieldLink RX2 34 "TornTryCounter" "pinLimit" "I", Cond.methodLink RX2 72 yX1_pinTriesUsed, Cond.instanceMethod yX1_pinTriesUsed, Cond.selects RX1 yX1_pinTriesUsed yX1_pinTriesUsed, Cond.initialized RX1, Cond.code yX1_pinTriesUsed cX1_pinTriesUsed 5 (some .int), Cond.fieldLink RX1 7 "TornTryCounter$Pages" "flash" "LTornTryCounter$Flash;", Cond.methodLink RX1 31 yX1_active, Cond.instanceMethod yX1_active, Cond.selects RX1 yX1_active yX1_active, Cond.code yX1_active cX1_active 1 (some .int), Cond.methodLink RX1 19 yX1_isGood, Cond.instanceMethod yX1_isGood, Cond.selects RX1 yX1_isGood yX1_isGood, Cond.code yX1_isGood cX1_isGood 2 (some .boolean)]
def wsX2_change_r2 : List Cond := [Cond.methodLink RX1 23 yX0_read, Cond.instanceMethod yX0_read, Cond.selects RX0 yX0_read yX0_read, Cond.initialized RX0, Cond.code yX0_read cX0_read 4 (some .int), Cond.fieldLink RX0 9 "TornTryCounter$Flash" "bytes" "[I", Cond.methodLink RX1 27 yX1_generationAfter, Cond.instanceMethod yX1_generationAfter, Cond.selects RX1 yX1_generationAfter yX1_generationAfter, Cond.code yX1_generationAfter cX1_generationAfter 2 (some .int), Cond.methodLink RX2 65 yX1_mark, Cond.instanceMethod yX1_mark, Cond.selects RX1 yX1_mark yX1_mark, Cond.code yX1_mark cX1_mark 3 (some .int), Cond.methodLink RX1 35 yX1_firstFreeEntry, Cond.instanceMethod yX1_firstFreeEntry, Cond.selects RX1 yX1_firstFreeEntry yX1_firstFreeEntry, Cond.code yX1_firstFreeEntry cX1_firstFreeEntry 3 (some .int), Cond.methodLink RX1 38 yX1_pin, Cond.instanceMethod yX1_pin, Cond.selects RX1 yX1_pin yX1_pin, Cond.code yX1_pin cX1_pin 2 (some .int), Cond.methodLink RX1 41 yX1_pinTriesUsed, Cond.methodLink RX1 44 yX1_pukTriesUsed]
def wsX2_change_r3 : List Cond := [Cond.instanceMethod yX1_pukTriesUsed, Cond.selects RX1 yX1_pukTriesUsed yX1_pukTriesUsed, Cond.code yX1_pukTriesUsed cX1_pukTriesUsed 4 (some .int), Cond.methodLink RX1 47 yX1_turn, Cond.instanceMethod yX1_turn, Cond.selects RX1 yX1_turn yX1_turn, Cond.code yX1_turn cX1_turn 6 (some .boolean), Cond.methodLink RX1 51 yX0_program, Cond.instanceMethod yX0_program, Cond.selects RX0 yX0_program yX0_program, Cond.code yX0_program cX0_program 7 (some .boolean), Cond.fieldLink RX0 23 "TornTryCounter$Flash" "tearMask" "I", Cond.methodLink RX0 26 yX0_countOperation, Cond.instanceMethod yX0_countOperation, Cond.selects RX0 yX0_countOperation yX0_countOperation, Cond.code yX0_countOperation cX0_countOperation 1 (some .boolean), Cond.fieldLink RX0 16 "TornTryCounter$Flash" "operationsDone" "I", Cond.fieldLink RX0 20 "TornTryCounter$Flash" "operationsToTear" "I", Cond.methodLink RX1 54 yX0_erase, Cond.instanceMethod yX0_erase, Cond.selects RX0 yX0_erase yX0_erase, Cond.code yX0_erase cX0_erase 5 (some .boolean), Cond.fieldLink RX0 13 "TornTryCounter$Flash" "erases" "[I", Cond.methodLink RX0 30 yX0_isPage]
def wsX2_change_r4 : List Cond := [Cond.static yX0_isPage, Cond.code yX0_isPage cX0_isPage 1 (some .boolean), Cond.methodLink RX2 62 yX2_losePower, Cond.instanceMethod yX2_losePower, Cond.selects RX2 yX2_losePower yX2_losePower, Cond.code yX2_losePower cX2_losePower 1 (some .int), Cond.methodLink RX2 95 yX1_pin, Cond.methodLink RX2 98 yX1_remark, Cond.instanceMethod yX1_remark, Cond.selects RX1 yX1_remark yX1_remark, Cond.code yX1_remark cX1_remark 3 (some .boolean), Cond.methodLink RX2 54 yX1_pukTriesUsed, Cond.methodLink RX2 58 yX1_turn]
def wsX2_change : List Cond := .code yX2_change cX2_change 4 (some .int) :: ((wsX2_change_r1 ++ (wsX2_change_r2 ++ (wsX2_change_r3 ++ wsX2_change_r4))) ++ wsX20 ++ wsX10 ++ wsX00)
def wsX2_unblock_r1 : List Cond := [Cond.fieldLink RX2 40 "TornTryCounter" "powered" "Z", Cond.fieldLink RX2 22 "TornTryCounter" "pages" "LTornTryCounter$Pages;", Cond.fieldLink RX2 37 "TornTryCounter" "pukLimit" "I", Cond.fieldLink RX2 44 "TornTryCounter" "holderIn" "Z", Cond.fieldLink RX2 26 "TornTryCounter" "pukNumber" "I", Cond.constant RX2 18 (65535), Cond.methodLink RX2 54 yX1_pukTriesUsed, Cond.instanceMethod yX1_pukTriesUsed, Cond.selects RX1 yX1_pukTriesUsed yX1_pukTriesUsed, Cond.initialized RX1, Cond.code yX1_pukTriesUsed cX1_pukTriesUsed 4 (some .int), Cond.fieldLink RX1 7 "TornTryCounter$Pages" "flash" "LTornTryCounter$Flash;", Cond.methodLink RX1 31 yX1_active, Cond.instanceMethod yX1_active, Cond.selects RX1 yX1_active yX1_active, Cond.code yX1_active cX1_active 1 (some .int), Cond.methodLink RX1 19 yX1_isGood, Cond.instanceMethod yX1_isGood, Cond.selects RX1 yX1_isGood yX1_isGood, Cond.code yX1_isGood cX1_isGood 2 (some .boolean), Cond.methodLink RX1 23 yX0_read, Cond.instanceMethod yX0_read, Cond.selects RX0 yX0_read yX0_read, Cond.initialized RX0]
def wsX2_unblock_r2 : List Cond := [Cond.code yX0_read cX0_read 4 (some .int), Cond.fieldLink RX0 9 "TornTryCounter$Flash" "bytes" "[I", Cond.methodLink RX1 27 yX1_generationAfter, Cond.instanceMethod yX1_generationAfter, Cond.selects RX1 yX1_generationAfter yX1_generationAfter, Cond.code yX1_generationAfter cX1_generationAfter 2 (some .int), Cond.methodLink RX2 65 yX1_mark, Cond.instanceMethod yX1_mark, Cond.selects RX1 yX1_mark yX1_mark, Cond.code yX1_mark cX1_mark 3 (some .int), Cond.methodLink RX1 35 yX1_firstFreeEntry, Cond.instanceMethod yX1_firstFreeEntry, Cond.selects RX1 yX1_firstFreeEntry yX1_firstFreeEntry, Cond.code yX1_firstFreeEntry cX1_firstFreeEntry 3 (some .int), Cond.methodLink RX1 38 yX1_pin, Cond.instanceMethod yX1_pin, Cond.selects RX1 yX1_pin yX1_pin, Cond.code yX1_pin cX1_pin 2 (some .int), Cond.methodLink RX1 41 yX1_pinTriesUsed, Cond.instanceMethod yX1_pinTriesUsed, Cond.selects RX1 yX1_pinTriesUsed yX1_pinTriesUsed, Cond.code yX1_pinTriesUsed cX1_pinTriesUsed 5 (some .int), Cond.methodLink RX1 44 yX1_pukTriesUsed, Cond.methodLink RX1 47 yX1_turn]
def wsX2_unblock_r3 : List Cond := [Cond.instanceMethod yX1_turn, Cond.selects RX1 yX1_turn yX1_turn, Cond.code yX1_turn cX1_turn 6 (some .boolean), Cond.methodLink RX1 51 yX0_program, Cond.instanceMethod yX0_program, Cond.selects RX0 yX0_program yX0_program, Cond.code yX0_program cX0_program 7 (some .boolean), Cond.fieldLink RX0 23 "TornTryCounter$Flash" "tearMask" "I", Cond.methodLink RX0 26 yX0_countOperation, Cond.instanceMethod yX0_countOperation, Cond.selects RX0 yX0_countOperation yX0_countOperation, Cond.code yX0_countOperation cX0_countOperation 1 (some .boolean), Cond.fieldLink RX0 16 "TornTryCounter$Flash" "operationsDone" "I", Cond.fieldLink RX0 20 "TornTryCounter$Flash" "operationsToTear" "I", Cond.methodLink RX1 54 yX0_erase, Cond.instanceMethod yX0_erase, Cond.selects RX0 yX0_erase yX0_erase, Cond.code yX0_erase cX0_erase 5 (some .boolean), Cond.fieldLink RX0 13 "TornTryCounter$Flash" "erases" "[I", Cond.methodLink RX0 30 yX0_isPage, Cond.static yX0_isPage, Cond.code yX0_isPage cX0_isPage 1 (some .boolean), Cond.methodLink RX2 62 yX2_losePower, Cond.instanceMethod yX2_losePower]
def wsX2_unblock_r4 : List Cond := [Cond.selects RX2 yX2_losePower yX2_losePower, Cond.initialized RX2, Cond.code yX2_losePower cX2_losePower 1 (some .int), Cond.methodLink RX2 58 yX1_turn]
def wsX2_unblock : List Cond := .code yX2_unblock cX2_unblock 3 (some .int) :: ((wsX2_unblock_r1 ++ (wsX2_unblock_r2 ++ (wsX2_unblock_r3 ++ wsX2_unblock_r4))) ++ wsX20 ++ wsX10 ++ wsX00)
def wsX2_arm : List Cond := .code yX2_arm cX2_arm 3 (some .boolean) :: ([.fieldLink RX2 47 "TornTryCounter" "tearsArmed" "I", .fieldLink RX2 10 "TornTryCounter" "flash" "LTornTryCounter$Flash;", .methodLink RX2 68 yX0_tearLater, .instanceMethod yX0_tearLater, .selects RX0 yX0_tearLater yX0_tearLater, .initialized RX0, .code yX0_tearLater cX0_tearLater 3 none, .fieldLink RX0 20 "TornTryCounter$Flash" "operationsToTear" "I", .fieldLink RX0 23 "TornTryCounter$Flash" "tearMask" "I"] ++ wsX20 ++ wsX00)
def wsX2_cut : List Cond := .code yX2_cut cX2_cut 1 (some .boolean) :: ([.fieldLink RX2 40 "TornTryCounter" "powered" "Z", .methodLink RX2 62 yX2_losePower, .instanceMethod yX2_losePower, .selects RX2 yX2_losePower yX2_losePower, .initialized RX2, .code yX2_losePower cX2_losePower 1 (some .int), .fieldLink RX2 44 "TornTryCounter" "holderIn" "Z"] ++ wsX20)
def wsX2_start : List Cond := .code yX2_start cX2_start 1 (some .boolean) :: ([.fieldLink RX2 40 "TornTryCounter" "powered" "Z"] ++ wsX20)
def wsX2_in : List Cond := .code yX2_in cX2_in 1 (some .boolean) :: ([.fieldLink RX2 44 "TornTryCounter" "holderIn" "Z"] ++ wsX20)
def wsX2_up : List Cond := .code yX2_up cX2_up 1 (some .boolean) :: ([.fieldLink RX2 40 "TornTryCounter" "powered" "Z"] ++ wsX20)
def wsX2_tries_r1 : List Cond := [Cond.fieldLink RX2 34 "TornTryCounter" "pinLimit" "I", Cond.fieldLink RX2 22 "TornTryCounter" "pages" "LTornTryCounter$Pages;", Cond.methodLink RX2 75 Lib.Math.max.name, Cond.static Lib.Math.max.name, Cond.initialized "java/lang/Math", Cond.code Lib.Math.max.name Lib.Math.max.code 2 (some .int), Cond.methodLink RX2 72 yX1_pinTriesUsed, Cond.instanceMethod yX1_pinTriesUsed, Cond.selects RX1 yX1_pinTriesUsed yX1_pinTriesUsed, Cond.initialized RX1, Cond.code yX1_pinTriesUsed cX1_pinTriesUsed 5 (some .int), Cond.fieldLink RX1 7 "TornTryCounter$Pages" "flash" "LTornTryCounter$Flash;", Cond.methodLink RX1 31 yX1_active, Cond.instanceMethod yX1_active, Cond.selects RX1 yX1_active yX1_active, Cond.code yX1_active cX1_active 1 (some .int), Cond.methodLink RX1 19 yX1_isGood, Cond.instanceMethod yX1_isGood, Cond.selects RX1 yX1_isGood yX1_isGood, Cond.code yX1_isGood cX1_isGood 2 (some .boolean), Cond.methodLink RX1 23 yX0_read, Cond.instanceMethod yX0_read, Cond.selects RX0 yX0_read yX0_read, Cond.initialized RX0]
def wsX2_tries_r2 : List Cond := [Cond.code yX0_read cX0_read 4 (some .int), Cond.fieldLink RX0 9 "TornTryCounter$Flash" "bytes" "[I", Cond.methodLink RX1 27 yX1_generationAfter, Cond.instanceMethod yX1_generationAfter, Cond.selects RX1 yX1_generationAfter yX1_generationAfter, Cond.code yX1_generationAfter cX1_generationAfter 2 (some .int)]
def wsX2_tries : List Cond := .code yX2_tries cX2_tries 1 (some .int) :: ((wsX2_tries_r1 ++ wsX2_tries_r2) ++ wsX20 ++ wsX10 ++ wsX00)
def wsX2_puks_r1 : List Cond := [Cond.fieldLink RX2 37 "TornTryCounter" "pukLimit" "I", Cond.fieldLink RX2 22 "TornTryCounter" "pages" "LTornTryCounter$Pages;", Cond.methodLink RX2 75 Lib.Math.max.name, Cond.static Lib.Math.max.name, Cond.initialized "java/lang/Math", Cond.code Lib.Math.max.name Lib.Math.max.code 2 (some .int), Cond.methodLink RX2 54 yX1_pukTriesUsed, Cond.instanceMethod yX1_pukTriesUsed, Cond.selects RX1 yX1_pukTriesUsed yX1_pukTriesUsed, Cond.initialized RX1, Cond.code yX1_pukTriesUsed cX1_pukTriesUsed 4 (some .int), Cond.fieldLink RX1 7 "TornTryCounter$Pages" "flash" "LTornTryCounter$Flash;", Cond.methodLink RX1 31 yX1_active, Cond.instanceMethod yX1_active, Cond.selects RX1 yX1_active yX1_active, Cond.code yX1_active cX1_active 1 (some .int), Cond.methodLink RX1 19 yX1_isGood, Cond.instanceMethod yX1_isGood, Cond.selects RX1 yX1_isGood yX1_isGood, Cond.code yX1_isGood cX1_isGood 2 (some .boolean), Cond.methodLink RX1 23 yX0_read, Cond.instanceMethod yX0_read, Cond.selects RX0 yX0_read yX0_read, Cond.initialized RX0]
def wsX2_puks_r2 : List Cond := [Cond.code yX0_read cX0_read 4 (some .int), Cond.fieldLink RX0 9 "TornTryCounter$Flash" "bytes" "[I", Cond.methodLink RX1 27 yX1_generationAfter, Cond.instanceMethod yX1_generationAfter, Cond.selects RX1 yX1_generationAfter yX1_generationAfter, Cond.code yX1_generationAfter cX1_generationAfter 2 (some .int)]
def wsX2_puks : List Cond := .code yX2_puks cX2_puks 1 (some .int) :: ((wsX2_puks_r1 ++ wsX2_puks_r2) ++ wsX20 ++ wsX10 ++ wsX00)
def wsX2_page : List Cond := .code yX2_page cX2_page 1 (some .int) :: ([.fieldLink RX2 22 "TornTryCounter" "pages" "LTornTryCounter$Pages;", .methodLink RX2 80 yX1_active, .instanceMethod yX1_active, .selects RX1 yX1_active yX1_active, .initialized RX1, .code yX1_active cX1_active 1 (some .int), .fieldLink RX1 7 "TornTryCounter$Pages" "flash" "LTornTryCounter$Flash;", .methodLink RX1 19 yX1_isGood, .instanceMethod yX1_isGood, .selects RX1 yX1_isGood yX1_isGood, .code yX1_isGood cX1_isGood 2 (some .boolean), .methodLink RX1 23 yX0_read, .instanceMethod yX0_read, .selects RX0 yX0_read yX0_read, .initialized RX0, .code yX0_read cX0_read 4 (some .int), .fieldLink RX0 9 "TornTryCounter$Flash" "bytes" "[I", .methodLink RX1 27 yX1_generationAfter, .instanceMethod yX1_generationAfter, .selects RX1 yX1_generationAfter yX1_generationAfter, .code yX1_generationAfter cX1_generationAfter 2 (some .int)] ++ wsX20 ++ wsX10 ++ wsX00)
def wsX2_generation_r1 : List Cond := [Cond.fieldLink RX2 22 "TornTryCounter" "pages" "LTornTryCounter$Pages;", Cond.methodLink RX2 83 yX1_activeGeneration, Cond.instanceMethod yX1_activeGeneration, Cond.selects RX1 yX1_activeGeneration yX1_activeGeneration, Cond.initialized RX1, Cond.code yX1_activeGeneration cX1_activeGeneration 1 (some .int), Cond.fieldLink RX1 7 "TornTryCounter$Pages" "flash" "LTornTryCounter$Flash;", Cond.methodLink RX1 31 yX1_active, Cond.instanceMethod yX1_active, Cond.selects RX1 yX1_active yX1_active, Cond.code yX1_active cX1_active 1 (some .int), Cond.methodLink RX1 19 yX1_isGood, Cond.instanceMethod yX1_isGood, Cond.selects RX1 yX1_isGood yX1_isGood, Cond.code yX1_isGood cX1_isGood 2 (some .boolean), Cond.methodLink RX1 23 yX0_read, Cond.instanceMethod yX0_read, Cond.selects RX0 yX0_read yX0_read, Cond.initialized RX0, Cond.code yX0_read cX0_read 4 (some .int), Cond.fieldLink RX0 9 "TornTryCounter$Flash" "bytes" "[I", Cond.methodLink RX1 27 yX1_generationAfter, Cond.instanceMethod yX1_generationAfter, Cond.selects RX1 yX1_generationAfter yX1_generationAfter]
def wsX2_generation_r2 : List Cond := [Cond.code yX1_generationAfter cX1_generationAfter 2 (some .int)]
def wsX2_generation : List Cond := .code yX2_generation cX2_generation 1 (some .int) :: ((wsX2_generation_r1 ++ wsX2_generation_r2) ++ wsX20 ++ wsX10 ++ wsX00)
def wsX2_free_r1 : List Cond := [Cond.fieldLink RX2 22 "TornTryCounter" "pages" "LTornTryCounter$Pages;", Cond.methodLink RX2 86 yX1_freeEntries, Cond.instanceMethod yX1_freeEntries, Cond.selects RX1 yX1_freeEntries yX1_freeEntries, Cond.initialized RX1, Cond.code yX1_freeEntries cX1_freeEntries 4 (some .int), Cond.fieldLink RX1 7 "TornTryCounter$Pages" "flash" "LTornTryCounter$Flash;", Cond.methodLink RX1 31 yX1_active, Cond.instanceMethod yX1_active, Cond.selects RX1 yX1_active yX1_active, Cond.code yX1_active cX1_active 1 (some .int), Cond.methodLink RX1 19 yX1_isGood, Cond.instanceMethod yX1_isGood, Cond.selects RX1 yX1_isGood yX1_isGood, Cond.code yX1_isGood cX1_isGood 2 (some .boolean), Cond.methodLink RX1 23 yX0_read, Cond.instanceMethod yX0_read, Cond.selects RX0 yX0_read yX0_read, Cond.initialized RX0, Cond.code yX0_read cX0_read 4 (some .int), Cond.fieldLink RX0 9 "TornTryCounter$Flash" "bytes" "[I", Cond.methodLink RX1 27 yX1_generationAfter, Cond.instanceMethod yX1_generationAfter, Cond.selects RX1 yX1_generationAfter yX1_generationAfter]
def wsX2_free_r2 : List Cond := [Cond.code yX1_generationAfter cX1_generationAfter 2 (some .int)]
def wsX2_free : List Cond := .code yX2_free cX2_free 1 (some .int) :: ((wsX2_free_r1 ++ wsX2_free_r2) ++ wsX20 ++ wsX10 ++ wsX00)
def wsX2_operations : List Cond := .code yX2_operations cX2_operations 1 (some .int) :: ([.fieldLink RX2 10 "TornTryCounter" "flash" "LTornTryCounter$Flash;", .methodLink RX2 89 yX0_operationCount, .instanceMethod yX0_operationCount, .selects RX0 yX0_operationCount yX0_operationCount, .initialized RX0, .code yX0_operationCount cX0_operationCount 1 (some .int), .fieldLink RX0 16 "TornTryCounter$Flash" "operationsDone" "I"] ++ wsX20 ++ wsX00)
def wsX2_erased : List Cond := .code yX2_erased cX2_erased 2 (some .int) :: ([.fieldLink RX2 10 "TornTryCounter" "flash" "LTornTryCounter$Flash;", .methodLink RX2 92 yX0_eraseCount, .instanceMethod yX0_eraseCount, .selects RX0 yX0_eraseCount yX0_eraseCount, .initialized RX0, .code yX0_eraseCount cX0_eraseCount 2 (some .int), .fieldLink RX0 13 "TornTryCounter$Flash" "erases" "[I", .methodLink RX0 30 yX0_isPage, .static yX0_isPage, .code yX0_isPage cX0_isPage 1 (some .boolean)] ++ wsX20 ++ wsX00)
def wsL_cell : List Cond := .code yL_cell cL_cell 2 (some .int) :: ([])
end
section
theorem dX0_init_0 : decode cX0_init 0 = .ok (.aload_n 0, 1) := by decide +kernel
theorem dX0_init_1 : decode cX0_init 1 = .ok (.invokespecial 1, 3) := by decide +kernel
theorem dX0_init_4 : decode cX0_init 4 = .ok (.aload_n 0, 1) := by decide +kernel
theorem dX0_init_5 : decode cX0_init 5 = .ok (.bipush 32, 2) := by decide +kernel
theorem dX0_init_7 : decode cX0_init 7 = .ok (.newarray .int, 2) := by decide +kernel
theorem dX0_init_9 : decode cX0_init 9 = .ok (.putfield 9, 3) := by decide +kernel
theorem dX0_init_12 : decode cX0_init 12 = .ok (.aload_n 0, 1) := by decide +kernel
theorem dX0_init_13 : decode cX0_init 13 = .ok (.iconst 2, 1) := by decide +kernel
theorem dX0_init_14 : decode cX0_init 14 = .ok (.newarray .int, 2) := by decide +kernel
theorem dX0_init_16 : decode cX0_init 16 = .ok (.putfield 13, 3) := by decide +kernel
theorem dX0_init_19 : decode cX0_init 19 = .ok (.iconst 0, 1) := by decide +kernel
theorem dX0_init_20 : decode cX0_init 20 = .ok (.istore_n 1, 1) := by decide +kernel
theorem dX0_init_21 : decode cX0_init 21 = .ok (.iload_n 1, 1) := by decide +kernel
theorem dX0_init_22 : decode cX0_init 22 = .ok (.aload_n 0, 1) := by decide +kernel
theorem dX0_init_23 : decode cX0_init 23 = .ok (.getfield 9, 3) := by decide +kernel
theorem dX0_init_26 : decode cX0_init 26 = .ok (.arraylength, 1) := by decide +kernel
theorem dX0_init_27 : decode cX0_init 27 = .ok (.if_icmp .ge 18, 3) := by decide +kernel
theorem dX0_init_30 : decode cX0_init 30 = .ok (.aload_n 0, 1) := by decide +kernel
theorem dX0_init_31 : decode cX0_init 31 = .ok (.getfield 9, 3) := by decide +kernel
theorem dX0_init_34 : decode cX0_init 34 = .ok (.iload_n 1, 1) := by decide +kernel
theorem dX0_init_35 : decode cX0_init 35 = .ok (.sipush 255, 3) := by decide +kernel
theorem dX0_init_38 : decode cX0_init 38 = .ok (.iastore, 1) := by decide +kernel
theorem dX0_init_39 : decode cX0_init 39 = .ok (.iinc 1 1, 3) := by decide +kernel
theorem dX0_init_42 : decode cX0_init 42 = .ok (.goto (-21), 3) := by decide +kernel
theorem dX0_init_45 : decode cX0_init 45 = .ok (.aload_n 0, 1) := by decide +kernel
theorem dX0_init_46 : decode cX0_init 46 = .ok (.iconst 0, 1) := by decide +kernel
theorem dX0_init_47 : decode cX0_init 47 = .ok (.putfield 16, 3) := by decide +kernel
theorem dX0_init_50 : decode cX0_init 50 = .ok (.aload_n 0, 1) := by decide +kernel
theorem dX0_init_51 : decode cX0_init 51 = .ok (.iconst 0, 1) := by decide +kernel
theorem dX0_init_52 : decode cX0_init 52 = .ok (.putfield 20, 3) := by decide +kernel
theorem dX0_init_55 : decode cX0_init 55 = .ok (.aload_n 0, 1) := by decide +kernel
theorem dX0_init_56 : decode cX0_init 56 = .ok (.iconst 0, 1) := by decide +kernel
theorem dX0_init_57 : decode cX0_init 57 = .ok (.putfield 23, 3) := by decide +kernel
theorem dX0_init_60 : decode cX0_init 60 = .ok (.return_, 1) := by decide +kernel
theorem dX0_read_0 : decode cX0_read 0 = .ok (.iload_n 1, 1) := by decide +kernel
theorem dX0_read_1 : decode cX0_read 1 = .ok (.bipush 16, 2) := by decide +kernel
theorem dX0_read_3 : decode cX0_read 3 = .ok (.imul, 1) := by decide +kernel
theorem dX0_read_4 : decode cX0_read 4 = .ok (.iload_n 2, 1) := by decide +kernel
theorem dX0_read_5 : decode cX0_read 5 = .ok (.iadd, 1) := by decide +kernel
theorem dX0_read_6 : decode cX0_read 6 = .ok (.istore_n 3, 1) := by decide +kernel
theorem dX0_read_7 : decode cX0_read 7 = .ok (.iload_n 3, 1) := by decide +kernel
theorem dX0_read_8 : decode cX0_read 8 = .ok (.ifCond .lt 21, 3) := by decide +kernel
theorem dX0_read_11 : decode cX0_read 11 = .ok (.iload_n 3, 1) := by decide +kernel
theorem dX0_read_12 : decode cX0_read 12 = .ok (.aload_n 0, 1) := by decide +kernel
theorem dX0_read_13 : decode cX0_read 13 = .ok (.getfield 9, 3) := by decide +kernel
theorem dX0_read_16 : decode cX0_read 16 = .ok (.arraylength, 1) := by decide +kernel
theorem dX0_read_17 : decode cX0_read 17 = .ok (.if_icmp .ge 12, 3) := by decide +kernel
theorem dX0_read_20 : decode cX0_read 20 = .ok (.aload_n 0, 1) := by decide +kernel
theorem dX0_read_21 : decode cX0_read 21 = .ok (.getfield 9, 3) := by decide +kernel
theorem dX0_read_24 : decode cX0_read 24 = .ok (.iload_n 3, 1) := by decide +kernel
theorem dX0_read_25 : decode cX0_read 25 = .ok (.iaload, 1) := by decide +kernel
theorem dX0_read_26 : decode cX0_read 26 = .ok (.goto 6, 3) := by decide +kernel
theorem dX0_read_29 : decode cX0_read 29 = .ok (.sipush 255, 3) := by decide +kernel
theorem dX0_read_32 : decode cX0_read 32 = .ok (.ireturn, 1) := by decide +kernel
theorem dX0_preset_0 : decode cX0_preset 0 = .ok (.iload_n 1, 1) := by decide +kernel
theorem dX0_preset_1 : decode cX0_preset 1 = .ok (.bipush 16, 2) := by decide +kernel
theorem dX0_preset_3 : decode cX0_preset 3 = .ok (.imul, 1) := by decide +kernel
theorem dX0_preset_4 : decode cX0_preset 4 = .ok (.iload_n 2, 1) := by decide +kernel
theorem dX0_preset_5 : decode cX0_preset 5 = .ok (.iadd, 1) := by decide +kernel
theorem dX0_preset_6 : decode cX0_preset 6 = .ok (.istore 4, 2) := by decide +kernel
theorem dX0_preset_8 : decode cX0_preset 8 = .ok (.iload 4, 2) := by decide +kernel
theorem dX0_preset_10 : decode cX0_preset 10 = .ok (.ifCond .lt 21, 3) := by decide +kernel
theorem dX0_preset_13 : decode cX0_preset 13 = .ok (.iload 4, 2) := by decide +kernel
theorem dX0_preset_15 : decode cX0_preset 15 = .ok (.aload_n 0, 1) := by decide +kernel
theorem dX0_preset_16 : decode cX0_preset 16 = .ok (.getfield 9, 3) := by decide +kernel
theorem dX0_preset_19 : decode cX0_preset 19 = .ok (.arraylength, 1) := by decide +kernel
theorem dX0_preset_20 : decode cX0_preset 20 = .ok (.if_icmp .ge 11, 3) := by decide +kernel
theorem dX0_preset_23 : decode cX0_preset 23 = .ok (.aload_n 0, 1) := by decide +kernel
theorem dX0_preset_24 : decode cX0_preset 24 = .ok (.getfield 9, 3) := by decide +kernel
theorem dX0_preset_27 : decode cX0_preset 27 = .ok (.iload 4, 2) := by decide +kernel
theorem dX0_preset_29 : decode cX0_preset 29 = .ok (.iload_n 3, 1) := by decide +kernel
theorem dX0_preset_30 : decode cX0_preset 30 = .ok (.iastore, 1) := by decide +kernel
theorem dX0_preset_31 : decode cX0_preset 31 = .ok (.return_, 1) := by decide +kernel
theorem dX0_program_0 : decode cX0_program 0 = .ok (.aload_n 0, 1) := by decide +kernel
theorem dX0_program_1 : decode cX0_program 1 = .ok (.invokevirtual 26, 3) := by decide +kernel
theorem dX0_program_4 : decode cX0_program 4 = .ok (.istore 4, 2) := by decide +kernel
theorem dX0_program_6 : decode cX0_program 6 = .ok (.iload 4, 2) := by decide +kernel
theorem dX0_program_8 : decode cX0_program 8 = .ok (.ifCond .eq 10, 3) := by decide +kernel
theorem dX0_program_11 : decode cX0_program 11 = .ok (.aload_n 0, 1) := by decide +kernel
theorem dX0_program_12 : decode cX0_program 12 = .ok (.getfield 23, 3) := by decide +kernel
theorem dX0_program_15 : decode cX0_program 15 = .ok (.goto 6, 3) := by decide +kernel
theorem dX0_program_18 : decode cX0_program 18 = .ok (.sipush 255, 3) := by decide +kernel
theorem dX0_program_21 : decode cX0_program 21 = .ok (.istore 5, 2) := by decide +kernel
theorem dX0_program_23 : decode cX0_program 23 = .ok (.iload_n 1, 1) := by decide +kernel
theorem dX0_program_24 : decode cX0_program 24 = .ok (.bipush 16, 2) := by decide +kernel
theorem dX0_program_26 : decode cX0_program 26 = .ok (.imul, 1) := by decide +kernel
theorem dX0_program_27 : decode cX0_program 27 = .ok (.iload_n 2, 1) := by decide +kernel
theorem dX0_program_28 : decode cX0_program 28 = .ok (.iadd, 1) := by decide +kernel
theorem dX0_program_29 : decode cX0_program 29 = .ok (.istore 6, 2) := by decide +kernel
theorem dX0_program_31 : decode cX0_program 31 = .ok (.iload 6, 2) := by decide +kernel
theorem dX0_program_33 : decode cX0_program 33 = .ok (.ifCond .lt 29, 3) := by decide +kernel
theorem dX0_program_36 : decode cX0_program 36 = .ok (.iload 6, 2) := by decide +kernel
theorem dX0_program_38 : decode cX0_program 38 = .ok (.aload_n 0, 1) := by decide +kernel
theorem dX0_program_39 : decode cX0_program 39 = .ok (.getfield 9, 3) := by decide +kernel
theorem dX0_program_42 : decode cX0_program 42 = .ok (.arraylength, 1) := by decide +kernel
theorem dX0_program_43 : decode cX0_program 43 = .ok (.if_icmp .ge 19, 3) := by decide +kernel
theorem dX0_program_46 : decode cX0_program 46 = .ok (.aload_n 0, 1) := by decide +kernel
theorem dX0_program_47 : decode cX0_program 47 = .ok (.getfield 9, 3) := by decide +kernel
theorem dX0_program_50 : decode cX0_program 50 = .ok (.iload 6, 2) := by decide +kernel
theorem dX0_program_52 : decode cX0_program 52 = .ok (.dup2, 1) := by decide +kernel
theorem dX0_program_53 : decode cX0_program 53 = .ok (.iaload, 1) := by decide +kernel
theorem dX0_program_54 : decode cX0_program 54 = .ok (.iload_n 3, 1) := by decide +kernel
theorem dX0_program_55 : decode cX0_program 55 = .ok (.iload 5, 2) := by decide +kernel
theorem dX0_program_57 : decode cX0_program 57 = .ok (.iconst (-1), 1) := by decide +kernel
theorem dX0_program_58 : decode cX0_program 58 = .ok (.ixor, 1) := by decide +kernel
theorem dX0_program_59 : decode cX0_program 59 = .ok (.ior, 1) := by decide +kernel
theorem dX0_program_60 : decode cX0_program 60 = .ok (.iand, 1) := by decide +kernel
theorem dX0_program_61 : decode cX0_program 61 = .ok (.iastore, 1) := by decide +kernel
theorem dX0_program_62 : decode cX0_program 62 = .ok (.iload 4, 2) := by decide +kernel
theorem dX0_program_64 : decode cX0_program 64 = .ok (.ifCond .ne 7, 3) := by decide +kernel
theorem dX0_program_67 : decode cX0_program 67 = .ok (.iconst 1, 1) := by decide +kernel
theorem dX0_program_68 : decode cX0_program 68 = .ok (.goto 4, 3) := by decide +kernel
theorem dX0_program_71 : decode cX0_program 71 = .ok (.iconst 0, 1) := by decide +kernel
theorem dX0_program_72 : decode cX0_program 72 = .ok (.ireturn, 1) := by decide +kernel
theorem dX0_erase_0 : decode cX0_erase 0 = .ok (.aload_n 0, 1) := by decide +kernel
theorem dX0_erase_1 : decode cX0_erase 1 = .ok (.invokevirtual 26, 3) := by decide +kernel
theorem dX0_erase_4 : decode cX0_erase 4 = .ok (.istore_n 2, 1) := by decide +kernel
theorem dX0_erase_5 : decode cX0_erase 5 = .ok (.iload_n 2, 1) := by decide +kernel
theorem dX0_erase_6 : decode cX0_erase 6 = .ok (.ifCond .eq 10, 3) := by decide +kernel
theorem dX0_erase_9 : decode cX0_erase 9 = .ok (.aload_n 0, 1) := by decide +kernel
theorem dX0_erase_10 : decode cX0_erase 10 = .ok (.getfield 23, 3) := by decide +kernel
theorem dX0_erase_13 : decode cX0_erase 13 = .ok (.goto 6, 3) := by decide +kernel
theorem dX0_erase_16 : decode cX0_erase 16 = .ok (.sipush 255, 3) := by decide +kernel
theorem dX0_erase_19 : decode cX0_erase 19 = .ok (.istore_n 3, 1) := by decide +kernel
theorem dX0_erase_20 : decode cX0_erase 20 = .ok (.iload_n 1, 1) := by decide +kernel
theorem dX0_erase_21 : decode cX0_erase 21 = .ok (.invokestatic 30, 3) := by decide +kernel
theorem dX0_erase_24 : decode cX0_erase 24 = .ok (.ifCond .eq 57, 3) := by decide +kernel
theorem dX0_erase_27 : decode cX0_erase 27 = .ok (.aload_n 0, 1) := by decide +kernel
theorem dX0_erase_28 : decode cX0_erase 28 = .ok (.getfield 13, 3) := by decide +kernel
theorem dX0_erase_31 : decode cX0_erase 31 = .ok (.iload_n 1, 1) := by decide +kernel
theorem dX0_erase_32 : decode cX0_erase 32 = .ok (.dup2, 1) := by decide +kernel
theorem dX0_erase_33 : decode cX0_erase 33 = .ok (.iaload, 1) := by decide +kernel
theorem dX0_erase_34 : decode cX0_erase 34 = .ok (.iconst 1, 1) := by decide +kernel
theorem dX0_erase_35 : decode cX0_erase 35 = .ok (.iadd, 1) := by decide +kernel
theorem dX0_erase_36 : decode cX0_erase 36 = .ok (.iastore, 1) := by decide +kernel
theorem dX0_erase_37 : decode cX0_erase 37 = .ok (.iconst 0, 1) := by decide +kernel
theorem dX0_erase_38 : decode cX0_erase 38 = .ok (.istore 4, 2) := by decide +kernel
theorem dX0_erase_40 : decode cX0_erase 40 = .ok (.iload 4, 2) := by decide +kernel
theorem dX0_erase_42 : decode cX0_erase 42 = .ok (.bipush 16, 2) := by decide +kernel
theorem dX0_erase_44 : decode cX0_erase 44 = .ok (.if_icmp .ge 37, 3) := by decide +kernel
theorem dX0_erase_47 : decode cX0_erase 47 = .ok (.iload_n 3, 1) := by decide +kernel
theorem dX0_erase_48 : decode cX0_erase 48 = .ok (.iload 4, 2) := by decide +kernel
theorem dX0_erase_50 : decode cX0_erase 50 = .ok (.bipush 7, 2) := by decide +kernel
theorem dX0_erase_52 : decode cX0_erase 52 = .ok (.iand, 1) := by decide +kernel
theorem dX0_erase_53 : decode cX0_erase 53 = .ok (.ishr, 1) := by decide +kernel
theorem dX0_erase_54 : decode cX0_erase 54 = .ok (.iconst 1, 1) := by decide +kernel
theorem dX0_erase_55 : decode cX0_erase 55 = .ok (.iand, 1) := by decide +kernel
theorem dX0_erase_56 : decode cX0_erase 56 = .ok (.iconst 1, 1) := by decide +kernel
theorem dX0_erase_57 : decode cX0_erase 57 = .ok (.if_icmp .ne 18, 3) := by decide +kernel
theorem dX0_erase_60 : decode cX0_erase 60 = .ok (.aload_n 0, 1) := by decide +kernel
theorem dX0_erase_61 : decode cX0_erase 61 = .ok (.getfield 9, 3) := by decide +kernel
theorem dX0_erase_64 : decode cX0_erase 64 = .ok (.iload_n 1, 1) := by decide +kernel
theorem dX0_erase_65 : decode cX0_erase 65 = .ok (.bipush 16, 2) := by decide +kernel
theorem dX0_erase_67 : decode cX0_erase 67 = .ok (.imul, 1) := by decide +kernel
theorem dX0_erase_68 : decode cX0_erase 68 = .ok (.iload 4, 2) := by decide +kernel
theorem dX0_erase_70 : decode cX0_erase 70 = .ok (.iadd, 1) := by decide +kernel
theorem dX0_erase_71 : decode cX0_erase 71 = .ok (.sipush 255, 3) := by decide +kernel
theorem dX0_erase_74 : decode cX0_erase 74 = .ok (.iastore, 1) := by decide +kernel
theorem dX0_erase_75 : decode cX0_erase 75 = .ok (.iinc 4 1, 3) := by decide +kernel
theorem dX0_erase_78 : decode cX0_erase 78 = .ok (.goto (-38), 3) := by decide +kernel
theorem dX0_erase_81 : decode cX0_erase 81 = .ok (.iload_n 2, 1) := by decide +kernel
theorem dX0_erase_82 : decode cX0_erase 82 = .ok (.ifCond .ne 7, 3) := by decide +kernel
theorem dX0_erase_85 : decode cX0_erase 85 = .ok (.iconst 1, 1) := by decide +kernel
theorem dX0_erase_86 : decode cX0_erase 86 = .ok (.goto 4, 3) := by decide +kernel
theorem dX0_erase_89 : decode cX0_erase 89 = .ok (.iconst 0, 1) := by decide +kernel
theorem dX0_erase_90 : decode cX0_erase 90 = .ok (.ireturn, 1) := by decide +kernel
theorem dX0_tearLater_0 : decode cX0_tearLater 0 = .ok (.aload_n 0, 1) := by decide +kernel
theorem dX0_tearLater_1 : decode cX0_tearLater 1 = .ok (.iload_n 1, 1) := by decide +kernel
theorem dX0_tearLater_2 : decode cX0_tearLater 2 = .ok (.putfield 20, 3) := by decide +kernel
theorem dX0_tearLater_5 : decode cX0_tearLater 5 = .ok (.aload_n 0, 1) := by decide +kernel
theorem dX0_tearLater_6 : decode cX0_tearLater 6 = .ok (.iload_n 2, 1) := by decide +kernel
theorem dX0_tearLater_7 : decode cX0_tearLater 7 = .ok (.putfield 23, 3) := by decide +kernel
theorem dX0_tearLater_10 : decode cX0_tearLater 10 = .ok (.return_, 1) := by decide +kernel
theorem dX0_operationCount_0 : decode cX0_operationCount 0 = .ok (.aload_n 0, 1) := by decide +kernel
theorem dX0_operationCount_1 : decode cX0_operationCount 1 = .ok (.getfield 16, 3) := by decide +kernel
theorem dX0_operationCount_4 : decode cX0_operationCount 4 = .ok (.ireturn, 1) := by decide +kernel
theorem dX0_eraseCount_0 : decode cX0_eraseCount 0 = .ok (.iload_n 1, 1) := by decide +kernel
theorem dX0_eraseCount_1 : decode cX0_eraseCount 1 = .ok (.invokestatic 30, 3) := by decide +kernel
theorem dX0_eraseCount_4 : decode cX0_eraseCount 4 = .ok (.ifCond .eq 12, 3) := by decide +kernel
theorem dX0_eraseCount_7 : decode cX0_eraseCount 7 = .ok (.aload_n 0, 1) := by decide +kernel
theorem dX0_eraseCount_8 : decode cX0_eraseCount 8 = .ok (.getfield 13, 3) := by decide +kernel
theorem dX0_eraseCount_11 : decode cX0_eraseCount 11 = .ok (.iload_n 1, 1) := by decide +kernel
theorem dX0_eraseCount_12 : decode cX0_eraseCount 12 = .ok (.iaload, 1) := by decide +kernel
theorem dX0_eraseCount_13 : decode cX0_eraseCount 13 = .ok (.goto 4, 3) := by decide +kernel
theorem dX0_eraseCount_16 : decode cX0_eraseCount 16 = .ok (.iconst 0, 1) := by decide +kernel
theorem dX0_eraseCount_17 : decode cX0_eraseCount 17 = .ok (.ireturn, 1) := by decide +kernel
theorem dX0_countOperation_0 : decode cX0_countOperation 0 = .ok (.aload_n 0, 1) := by decide +kernel
theorem dX0_countOperation_1 : decode cX0_countOperation 1 = .ok (.dup, 1) := by decide +kernel
theorem dX0_countOperation_2 : decode cX0_countOperation 2 = .ok (.getfield 16, 3) := by decide +kernel
theorem dX0_countOperation_5 : decode cX0_countOperation 5 = .ok (.iconst 1, 1) := by decide +kernel
theorem dX0_countOperation_6 : decode cX0_countOperation 6 = .ok (.iadd, 1) := by decide +kernel
theorem dX0_countOperation_7 : decode cX0_countOperation 7 = .ok (.putfield 16, 3) := by decide +kernel
theorem dX0_countOperation_10 : decode cX0_countOperation 10 = .ok (.aload_n 0, 1) := by decide +kernel
theorem dX0_countOperation_11 : decode cX0_countOperation 11 = .ok (.getfield 20, 3) := by decide +kernel
theorem dX0_countOperation_14 : decode cX0_countOperation 14 = .ok (.ifCond .ne 5, 3) := by decide +kernel
theorem dX0_countOperation_17 : decode cX0_countOperation 17 = .ok (.iconst 0, 1) := by decide +kernel
theorem dX0_countOperation_18 : decode cX0_countOperation 18 = .ok (.ireturn, 1) := by decide +kernel
theorem dX0_countOperation_19 : decode cX0_countOperation 19 = .ok (.aload_n 0, 1) := by decide +kernel
theorem dX0_countOperation_20 : decode cX0_countOperation 20 = .ok (.dup, 1) := by decide +kernel
theorem dX0_countOperation_21 : decode cX0_countOperation 21 = .ok (.getfield 20, 3) := by decide +kernel
theorem dX0_countOperation_24 : decode cX0_countOperation 24 = .ok (.iconst 1, 1) := by decide +kernel
theorem dX0_countOperation_25 : decode cX0_countOperation 25 = .ok (.isub, 1) := by decide +kernel
theorem dX0_countOperation_26 : decode cX0_countOperation 26 = .ok (.putfield 20, 3) := by decide +kernel
theorem dX0_countOperation_29 : decode cX0_countOperation 29 = .ok (.aload_n 0, 1) := by decide +kernel
theorem dX0_countOperation_30 : decode cX0_countOperation 30 = .ok (.getfield 20, 3) := by decide +kernel
theorem dX0_countOperation_33 : decode cX0_countOperation 33 = .ok (.ifCond .ne 7, 3) := by decide +kernel
theorem dX0_countOperation_36 : decode cX0_countOperation 36 = .ok (.iconst 1, 1) := by decide +kernel
theorem dX0_countOperation_37 : decode cX0_countOperation 37 = .ok (.goto 4, 3) := by decide +kernel
theorem dX0_countOperation_40 : decode cX0_countOperation 40 = .ok (.iconst 0, 1) := by decide +kernel
theorem dX0_countOperation_41 : decode cX0_countOperation 41 = .ok (.ireturn, 1) := by decide +kernel
theorem dX0_isPage_0 : decode cX0_isPage 0 = .ok (.iload_n 0, 1) := by decide +kernel
theorem dX0_isPage_1 : decode cX0_isPage 1 = .ok (.ifCond .lt 12, 3) := by decide +kernel
theorem dX0_isPage_4 : decode cX0_isPage 4 = .ok (.iload_n 0, 1) := by decide +kernel
theorem dX0_isPage_5 : decode cX0_isPage 5 = .ok (.iconst 2, 1) := by decide +kernel
theorem dX0_isPage_6 : decode cX0_isPage 6 = .ok (.if_icmp .ge 7, 3) := by decide +kernel
theorem dX0_isPage_9 : decode cX0_isPage 9 = .ok (.iconst 1, 1) := by decide +kernel
theorem dX0_isPage_10 : decode cX0_isPage 10 = .ok (.goto 4, 3) := by decide +kernel
theorem dX0_isPage_13 : decode cX0_isPage 13 = .ok (.iconst 0, 1) := by decide +kernel
theorem dX0_isPage_14 : decode cX0_isPage 14 = .ok (.ireturn, 1) := by decide +kernel
theorem dX1_init_0 : decode cX1_init 0 = .ok (.aload_n 0, 1) := by decide +kernel
theorem dX1_init_1 : decode cX1_init 1 = .ok (.invokespecial 1, 3) := by decide +kernel
theorem dX1_init_4 : decode cX1_init 4 = .ok (.aload_n 0, 1) := by decide +kernel
theorem dX1_init_5 : decode cX1_init 5 = .ok (.aload_n 1, 1) := by decide +kernel
theorem dX1_init_6 : decode cX1_init 6 = .ok (.putfield 7, 3) := by decide +kernel
theorem dX1_init_9 : decode cX1_init 9 = .ok (.aload_n 1, 1) := by decide +kernel
theorem dX1_init_10 : decode cX1_init 10 = .ok (.iconst 0, 1) := by decide +kernel
theorem dX1_init_11 : decode cX1_init 11 = .ok (.iconst 0, 1) := by decide +kernel
theorem dX1_init_12 : decode cX1_init 12 = .ok (.bipush 90, 2) := by decide +kernel
theorem dX1_init_14 : decode cX1_init 14 = .ok (.invokevirtual 13, 3) := by decide +kernel
theorem dX1_init_17 : decode cX1_init 17 = .ok (.aload_n 1, 1) := by decide +kernel
theorem dX1_init_18 : decode cX1_init 18 = .ok (.iconst 0, 1) := by decide +kernel
theorem dX1_init_19 : decode cX1_init 19 = .ok (.iconst 1, 1) := by decide +kernel
theorem dX1_init_20 : decode cX1_init 20 = .ok (.iconst 0, 1) := by decide +kernel
theorem dX1_init_21 : decode cX1_init 21 = .ok (.invokevirtual 13, 3) := by decide +kernel
theorem dX1_init_24 : decode cX1_init 24 = .ok (.aload_n 1, 1) := by decide +kernel
theorem dX1_init_25 : decode cX1_init 25 = .ok (.iconst 0, 1) := by decide +kernel
theorem dX1_init_26 : decode cX1_init 26 = .ok (.iconst 2, 1) := by decide +kernel
theorem dX1_init_27 : decode cX1_init 27 = .ok (.iload_n 2, 1) := by decide +kernel
theorem dX1_init_28 : decode cX1_init 28 = .ok (.bipush 8, 2) := by decide +kernel
theorem dX1_init_30 : decode cX1_init 30 = .ok (.ishr, 1) := by decide +kernel
theorem dX1_init_31 : decode cX1_init 31 = .ok (.invokevirtual 13, 3) := by decide +kernel
theorem dX1_init_34 : decode cX1_init 34 = .ok (.aload_n 1, 1) := by decide +kernel
theorem dX1_init_35 : decode cX1_init 35 = .ok (.iconst 0, 1) := by decide +kernel
theorem dX1_init_36 : decode cX1_init 36 = .ok (.iconst 3, 1) := by decide +kernel
theorem dX1_init_37 : decode cX1_init 37 = .ok (.iload_n 2, 1) := by decide +kernel
theorem dX1_init_38 : decode cX1_init 38 = .ok (.sipush 255, 3) := by decide +kernel
theorem dX1_init_41 : decode cX1_init 41 = .ok (.iand, 1) := by decide +kernel
theorem dX1_init_42 : decode cX1_init 42 = .ok (.invokevirtual 13, 3) := by decide +kernel
theorem dX1_init_45 : decode cX1_init 45 = .ok (.aload_n 1, 1) := by decide +kernel
theorem dX1_init_46 : decode cX1_init 46 = .ok (.iconst 0, 1) := by decide +kernel
theorem dX1_init_47 : decode cX1_init 47 = .ok (.iconst 4, 1) := by decide +kernel
theorem dX1_init_48 : decode cX1_init 48 = .ok (.iconst 0, 1) := by decide +kernel
theorem dX1_init_49 : decode cX1_init 49 = .ok (.invokevirtual 13, 3) := by decide +kernel
theorem dX1_init_52 : decode cX1_init 52 = .ok (.aload_n 1, 1) := by decide +kernel
theorem dX1_init_53 : decode cX1_init 53 = .ok (.iconst 0, 1) := by decide +kernel
theorem dX1_init_54 : decode cX1_init 54 = .ok (.iconst 5, 1) := by decide +kernel
theorem dX1_init_55 : decode cX1_init 55 = .ok (.iconst 0, 1) := by decide +kernel
theorem dX1_init_56 : decode cX1_init 56 = .ok (.invokevirtual 13, 3) := by decide +kernel
theorem dX1_init_59 : decode cX1_init 59 = .ok (.return_, 1) := by decide +kernel
theorem dX1_active_0 : decode cX1_active 0 = .ok (.aload_n 0, 1) := by decide +kernel
theorem dX1_active_1 : decode cX1_active 1 = .ok (.iconst 1, 1) := by decide +kernel
theorem dX1_active_2 : decode cX1_active 2 = .ok (.invokevirtual 19, 3) := by decide +kernel
theorem dX1_active_5 : decode cX1_active 5 = .ok (.ifCond .ne 5, 3) := by decide +kernel
theorem dX1_active_8 : decode cX1_active 8 = .ok (.iconst 0, 1) := by decide +kernel
theorem dX1_active_9 : decode cX1_active 9 = .ok (.ireturn, 1) := by decide +kernel
theorem dX1_active_10 : decode cX1_active 10 = .ok (.aload_n 0, 1) := by decide +kernel
theorem dX1_active_11 : decode cX1_active 11 = .ok (.iconst 0, 1) := by decide +kernel
theorem dX1_active_12 : decode cX1_active 12 = .ok (.invokevirtual 19, 3) := by decide +kernel
theorem dX1_active_15 : decode cX1_active 15 = .ok (.ifCond .ne 5, 3) := by decide +kernel
theorem dX1_active_18 : decode cX1_active 18 = .ok (.iconst 1, 1) := by decide +kernel
theorem dX1_active_19 : decode cX1_active 19 = .ok (.ireturn, 1) := by decide +kernel
theorem dX1_active_20 : decode cX1_active 20 = .ok (.aload_n 0, 1) := by decide +kernel
theorem dX1_active_21 : decode cX1_active 21 = .ok (.getfield 7, 3) := by decide +kernel
theorem dX1_active_24 : decode cX1_active 24 = .ok (.iconst 1, 1) := by decide +kernel
theorem dX1_active_25 : decode cX1_active 25 = .ok (.iconst 1, 1) := by decide +kernel
theorem dX1_active_26 : decode cX1_active 26 = .ok (.invokevirtual 23, 3) := by decide +kernel
theorem dX1_active_29 : decode cX1_active 29 = .ok (.aload_n 0, 1) := by decide +kernel
theorem dX1_active_30 : decode cX1_active 30 = .ok (.iconst 0, 1) := by decide +kernel
theorem dX1_active_31 : decode cX1_active 31 = .ok (.invokevirtual 27, 3) := by decide +kernel
theorem dX1_active_34 : decode cX1_active 34 = .ok (.if_icmp .ne 7, 3) := by decide +kernel
theorem dX1_active_37 : decode cX1_active 37 = .ok (.iconst 1, 1) := by decide +kernel
theorem dX1_active_38 : decode cX1_active 38 = .ok (.goto 4, 3) := by decide +kernel
theorem dX1_active_41 : decode cX1_active 41 = .ok (.iconst 0, 1) := by decide +kernel
theorem dX1_active_42 : decode cX1_active 42 = .ok (.ireturn, 1) := by decide +kernel
theorem dX1_activeGeneration_0 : decode cX1_activeGeneration 0 = .ok (.aload_n 0, 1) := by decide +kernel
theorem dX1_activeGeneration_1 : decode cX1_activeGeneration 1 = .ok (.getfield 7, 3) := by decide +kernel
theorem dX1_activeGeneration_4 : decode cX1_activeGeneration 4 = .ok (.aload_n 0, 1) := by decide +kernel
theorem dX1_activeGeneration_5 : decode cX1_activeGeneration 5 = .ok (.invokevirtual 31, 3) := by decide +kernel
theorem dX1_activeGeneration_8 : decode cX1_activeGeneration 8 = .ok (.iconst 1, 1) := by decide +kernel
theorem dX1_activeGeneration_9 : decode cX1_activeGeneration 9 = .ok (.invokevirtual 23, 3) := by decide +kernel
theorem dX1_activeGeneration_12 : decode cX1_activeGeneration 12 = .ok (.ireturn, 1) := by decide +kernel
theorem dX1_pin_0 : decode cX1_pin 0 = .ok (.aload_n 0, 1) := by decide +kernel
theorem dX1_pin_1 : decode cX1_pin 1 = .ok (.invokevirtual 31, 3) := by decide +kernel
theorem dX1_pin_4 : decode cX1_pin 4 = .ok (.istore_n 1, 1) := by decide +kernel
theorem dX1_pin_5 : decode cX1_pin 5 = .ok (.aload_n 0, 1) := by decide +kernel
theorem dX1_pin_6 : decode cX1_pin 6 = .ok (.getfield 7, 3) := by decide +kernel
theorem dX1_pin_9 : decode cX1_pin 9 = .ok (.iload_n 1, 1) := by decide +kernel
theorem dX1_pin_10 : decode cX1_pin 10 = .ok (.iconst 2, 1) := by decide +kernel
theorem dX1_pin_11 : decode cX1_pin 11 = .ok (.invokevirtual 23, 3) := by decide +kernel
theorem dX1_pin_14 : decode cX1_pin 14 = .ok (.bipush 8, 2) := by decide +kernel
theorem dX1_pin_16 : decode cX1_pin 16 = .ok (.ishl, 1) := by decide +kernel
theorem dX1_pin_17 : decode cX1_pin 17 = .ok (.aload_n 0, 1) := by decide +kernel
theorem dX1_pin_18 : decode cX1_pin 18 = .ok (.getfield 7, 3) := by decide +kernel
theorem dX1_pin_21 : decode cX1_pin 21 = .ok (.iload_n 1, 1) := by decide +kernel
theorem dX1_pin_22 : decode cX1_pin 22 = .ok (.iconst 3, 1) := by decide +kernel
theorem dX1_pin_23 : decode cX1_pin 23 = .ok (.invokevirtual 23, 3) := by decide +kernel
theorem dX1_pin_26 : decode cX1_pin 26 = .ok (.ior, 1) := by decide +kernel
theorem dX1_pin_27 : decode cX1_pin 27 = .ok (.ireturn, 1) := by decide +kernel
theorem dX1_pinTriesUsed_0 : decode cX1_pinTriesUsed 0 = .ok (.aload_n 0, 1) := by decide +kernel
theorem dX1_pinTriesUsed_1 : decode cX1_pinTriesUsed 1 = .ok (.invokevirtual 31, 3) := by decide +kernel
theorem dX1_pinTriesUsed_4 : decode cX1_pinTriesUsed 4 = .ok (.istore_n 1, 1) := by decide +kernel
theorem dX1_pinTriesUsed_5 : decode cX1_pinTriesUsed 5 = .ok (.aload_n 0, 1) := by decide +kernel
theorem dX1_pinTriesUsed_6 : decode cX1_pinTriesUsed 6 = .ok (.getfield 7, 3) := by decide +kernel
theorem dX1_pinTriesUsed_9 : decode cX1_pinTriesUsed 9 = .ok (.iload_n 1, 1) := by decide +kernel
theorem dX1_pinTriesUsed_10 : decode cX1_pinTriesUsed 10 = .ok (.iconst 4, 1) := by decide +kernel
theorem dX1_pinTriesUsed_11 : decode cX1_pinTriesUsed 11 = .ok (.invokevirtual 23, 3) := by decide +kernel
theorem dX1_pinTriesUsed_14 : decode cX1_pinTriesUsed 14 = .ok (.istore_n 2, 1) := by decide +kernel
theorem dX1_pinTriesUsed_15 : decode cX1_pinTriesUsed 15 = .ok (.bipush 6, 2) := by decide +kernel
theorem dX1_pinTriesUsed_17 : decode cX1_pinTriesUsed 17 = .ok (.istore_n 3, 1) := by decide +kernel
theorem dX1_pinTriesUsed_18 : decode cX1_pinTriesUsed 18 = .ok (.iload_n 3, 1) := by decide +kernel
theorem dX1_pinTriesUsed_19 : decode cX1_pinTriesUsed 19 = .ok (.bipush 16, 2) := by decide +kernel
theorem dX1_pinTriesUsed_21 : decode cX1_pinTriesUsed 21 = .ok (.if_icmp .ge 42, 3) := by decide +kernel
theorem dX1_pinTriesUsed_24 : decode cX1_pinTriesUsed 24 = .ok (.aload_n 0, 1) := by decide +kernel
theorem dX1_pinTriesUsed_25 : decode cX1_pinTriesUsed 25 = .ok (.getfield 7, 3) := by decide +kernel
theorem dX1_pinTriesUsed_28 : decode cX1_pinTriesUsed 28 = .ok (.iload_n 1, 1) := by decide +kernel
theorem dX1_pinTriesUsed_29 : decode cX1_pinTriesUsed 29 = .ok (.iload_n 3, 1) := by decide +kernel
theorem dX1_pinTriesUsed_30 : decode cX1_pinTriesUsed 30 = .ok (.invokevirtual 23, 3) := by decide +kernel
theorem dX1_pinTriesUsed_33 : decode cX1_pinTriesUsed 33 = .ok (.istore 4, 2) := by decide +kernel
theorem dX1_pinTriesUsed_35 : decode cX1_pinTriesUsed 35 = .ok (.iload 4, 2) := by decide +kernel
theorem dX1_pinTriesUsed_37 : decode cX1_pinTriesUsed 37 = .ok (.iconst 1, 1) := by decide +kernel
theorem dX1_pinTriesUsed_38 : decode cX1_pinTriesUsed 38 = .ok (.iand, 1) := by decide +kernel
theorem dX1_pinTriesUsed_39 : decode cX1_pinTriesUsed 39 = .ok (.ifCond .ne 18, 3) := by decide +kernel
theorem dX1_pinTriesUsed_42 : decode cX1_pinTriesUsed 42 = .ok (.iload 4, 2) := by decide +kernel
theorem dX1_pinTriesUsed_44 : decode cX1_pinTriesUsed 44 = .ok (.iconst 2, 1) := by decide +kernel
theorem dX1_pinTriesUsed_45 : decode cX1_pinTriesUsed 45 = .ok (.iand, 1) := by decide +kernel
theorem dX1_pinTriesUsed_46 : decode cX1_pinTriesUsed 46 = .ok (.ifCond .ne 7, 3) := by decide +kernel
theorem dX1_pinTriesUsed_49 : decode cX1_pinTriesUsed 49 = .ok (.iconst 0, 1) := by decide +kernel
theorem dX1_pinTriesUsed_50 : decode cX1_pinTriesUsed 50 = .ok (.goto 6, 3) := by decide +kernel
theorem dX1_pinTriesUsed_53 : decode cX1_pinTriesUsed 53 = .ok (.iload_n 2, 1) := by decide +kernel
theorem dX1_pinTriesUsed_54 : decode cX1_pinTriesUsed 54 = .ok (.iconst 1, 1) := by decide +kernel
theorem dX1_pinTriesUsed_55 : decode cX1_pinTriesUsed 55 = .ok (.iadd, 1) := by decide +kernel
theorem dX1_pinTriesUsed_56 : decode cX1_pinTriesUsed 56 = .ok (.istore_n 2, 1) := by decide +kernel
theorem dX1_pinTriesUsed_57 : decode cX1_pinTriesUsed 57 = .ok (.iinc 3 1, 3) := by decide +kernel
theorem dX1_pinTriesUsed_60 : decode cX1_pinTriesUsed 60 = .ok (.goto (-42), 3) := by decide +kernel
theorem dX1_pinTriesUsed_63 : decode cX1_pinTriesUsed 63 = .ok (.iload_n 2, 1) := by decide +kernel
theorem dX1_pinTriesUsed_64 : decode cX1_pinTriesUsed 64 = .ok (.ireturn, 1) := by decide +kernel
theorem dX1_pukTriesUsed_0 : decode cX1_pukTriesUsed 0 = .ok (.aload_n 0, 1) := by decide +kernel
theorem dX1_pukTriesUsed_1 : decode cX1_pukTriesUsed 1 = .ok (.invokevirtual 31, 3) := by decide +kernel
theorem dX1_pukTriesUsed_4 : decode cX1_pukTriesUsed 4 = .ok (.istore_n 1, 1) := by decide +kernel
theorem dX1_pukTriesUsed_5 : decode cX1_pukTriesUsed 5 = .ok (.aload_n 0, 1) := by decide +kernel
theorem dX1_pukTriesUsed_6 : decode cX1_pukTriesUsed 6 = .ok (.getfield 7, 3) := by decide +kernel
theorem dX1_pukTriesUsed_9 : decode cX1_pukTriesUsed 9 = .ok (.iload_n 1, 1) := by decide +kernel
theorem dX1_pukTriesUsed_10 : decode cX1_pukTriesUsed 10 = .ok (.iconst 5, 1) := by decide +kernel
theorem dX1_pukTriesUsed_11 : decode cX1_pukTriesUsed 11 = .ok (.invokevirtual 23, 3) := by decide +kernel
theorem dX1_pukTriesUsed_14 : decode cX1_pukTriesUsed 14 = .ok (.istore_n 2, 1) := by decide +kernel
theorem dX1_pukTriesUsed_15 : decode cX1_pukTriesUsed 15 = .ok (.bipush 6, 2) := by decide +kernel
theorem dX1_pukTriesUsed_17 : decode cX1_pukTriesUsed 17 = .ok (.istore_n 3, 1) := by decide +kernel
theorem dX1_pukTriesUsed_18 : decode cX1_pukTriesUsed 18 = .ok (.iload_n 3, 1) := by decide +kernel
theorem dX1_pukTriesUsed_19 : decode cX1_pukTriesUsed 19 = .ok (.bipush 16, 2) := by decide +kernel
theorem dX1_pukTriesUsed_21 : decode cX1_pukTriesUsed 21 = .ok (.if_icmp .ge 27, 3) := by decide +kernel
theorem dX1_pukTriesUsed_24 : decode cX1_pukTriesUsed 24 = .ok (.aload_n 0, 1) := by decide +kernel
theorem dX1_pukTriesUsed_25 : decode cX1_pukTriesUsed 25 = .ok (.getfield 7, 3) := by decide +kernel
theorem dX1_pukTriesUsed_28 : decode cX1_pukTriesUsed 28 = .ok (.iload_n 1, 1) := by decide +kernel
theorem dX1_pukTriesUsed_29 : decode cX1_pukTriesUsed 29 = .ok (.iload_n 3, 1) := by decide +kernel
end
section
theorem dX1_pukTriesUsed_30 : decode cX1_pukTriesUsed 30 = .ok (.invokevirtual 23, 3) := by decide +kernel
theorem dX1_pukTriesUsed_33 : decode cX1_pukTriesUsed 33 = .ok (.bipush 16, 2) := by decide +kernel
theorem dX1_pukTriesUsed_35 : decode cX1_pukTriesUsed 35 = .ok (.iand, 1) := by decide +kernel
theorem dX1_pukTriesUsed_36 : decode cX1_pukTriesUsed 36 = .ok (.ifCond .ne 6, 3) := by decide +kernel
theorem dX1_pukTriesUsed_39 : decode cX1_pukTriesUsed 39 = .ok (.iinc 2 1, 3) := by decide +kernel
theorem dX1_pukTriesUsed_42 : decode cX1_pukTriesUsed 42 = .ok (.iinc 3 1, 3) := by decide +kernel
theorem dX1_pukTriesUsed_45 : decode cX1_pukTriesUsed 45 = .ok (.goto (-27), 3) := by decide +kernel
theorem dX1_pukTriesUsed_48 : decode cX1_pukTriesUsed 48 = .ok (.iload_n 2, 1) := by decide +kernel
theorem dX1_pukTriesUsed_49 : decode cX1_pukTriesUsed 49 = .ok (.ireturn, 1) := by decide +kernel
theorem dX1_freeEntries_0 : decode cX1_freeEntries 0 = .ok (.aload_n 0, 1) := by decide +kernel
theorem dX1_freeEntries_1 : decode cX1_freeEntries 1 = .ok (.invokevirtual 31, 3) := by decide +kernel
theorem dX1_freeEntries_4 : decode cX1_freeEntries 4 = .ok (.istore_n 1, 1) := by decide +kernel
theorem dX1_freeEntries_5 : decode cX1_freeEntries 5 = .ok (.iconst 0, 1) := by decide +kernel
theorem dX1_freeEntries_6 : decode cX1_freeEntries 6 = .ok (.istore_n 2, 1) := by decide +kernel
theorem dX1_freeEntries_7 : decode cX1_freeEntries 7 = .ok (.bipush 6, 2) := by decide +kernel
theorem dX1_freeEntries_9 : decode cX1_freeEntries 9 = .ok (.istore_n 3, 1) := by decide +kernel
theorem dX1_freeEntries_10 : decode cX1_freeEntries 10 = .ok (.iload_n 3, 1) := by decide +kernel
theorem dX1_freeEntries_11 : decode cX1_freeEntries 11 = .ok (.bipush 16, 2) := by decide +kernel
theorem dX1_freeEntries_13 : decode cX1_freeEntries 13 = .ok (.if_icmp .ge 27, 3) := by decide +kernel
theorem dX1_freeEntries_16 : decode cX1_freeEntries 16 = .ok (.aload_n 0, 1) := by decide +kernel
theorem dX1_freeEntries_17 : decode cX1_freeEntries 17 = .ok (.getfield 7, 3) := by decide +kernel
theorem dX1_freeEntries_20 : decode cX1_freeEntries 20 = .ok (.iload_n 1, 1) := by decide +kernel
theorem dX1_freeEntries_21 : decode cX1_freeEntries 21 = .ok (.iload_n 3, 1) := by decide +kernel
theorem dX1_freeEntries_22 : decode cX1_freeEntries 22 = .ok (.invokevirtual 23, 3) := by decide +kernel
theorem dX1_freeEntries_25 : decode cX1_freeEntries 25 = .ok (.sipush 255, 3) := by decide +kernel
theorem dX1_freeEntries_28 : decode cX1_freeEntries 28 = .ok (.if_icmp .ne 6, 3) := by decide +kernel
theorem dX1_freeEntries_31 : decode cX1_freeEntries 31 = .ok (.iinc 2 1, 3) := by decide +kernel
theorem dX1_freeEntries_34 : decode cX1_freeEntries 34 = .ok (.iinc 3 1, 3) := by decide +kernel
theorem dX1_freeEntries_37 : decode cX1_freeEntries 37 = .ok (.goto (-27), 3) := by decide +kernel
theorem dX1_freeEntries_40 : decode cX1_freeEntries 40 = .ok (.iload_n 2, 1) := by decide +kernel
theorem dX1_freeEntries_41 : decode cX1_freeEntries 41 = .ok (.ireturn, 1) := by decide +kernel
theorem dX1_mark_0 : decode cX1_mark 0 = .ok (.aload_n 0, 1) := by decide +kernel
theorem dX1_mark_1 : decode cX1_mark 1 = .ok (.invokevirtual 35, 3) := by decide +kernel
theorem dX1_mark_4 : decode cX1_mark 4 = .ok (.iconst (-1), 1) := by decide +kernel
theorem dX1_mark_5 : decode cX1_mark 5 = .ok (.if_icmp .ne 24, 3) := by decide +kernel
theorem dX1_mark_8 : decode cX1_mark 8 = .ok (.aload_n 0, 1) := by decide +kernel
theorem dX1_mark_9 : decode cX1_mark 9 = .ok (.aload_n 0, 1) := by decide +kernel
theorem dX1_mark_10 : decode cX1_mark 10 = .ok (.invokevirtual 38, 3) := by decide +kernel
theorem dX1_mark_13 : decode cX1_mark 13 = .ok (.aload_n 0, 1) := by decide +kernel
theorem dX1_mark_14 : decode cX1_mark 14 = .ok (.invokevirtual 41, 3) := by decide +kernel
theorem dX1_mark_17 : decode cX1_mark 17 = .ok (.aload_n 0, 1) := by decide +kernel
theorem dX1_mark_18 : decode cX1_mark 18 = .ok (.invokevirtual 44, 3) := by decide +kernel
theorem dX1_mark_21 : decode cX1_mark 21 = .ok (.invokevirtual 47, 3) := by decide +kernel
theorem dX1_mark_24 : decode cX1_mark 24 = .ok (.ifCond .ne 5, 3) := by decide +kernel
theorem dX1_mark_27 : decode cX1_mark 27 = .ok (.iconst (-1), 1) := by decide +kernel
theorem dX1_mark_28 : decode cX1_mark 28 = .ok (.ireturn, 1) := by decide +kernel
theorem dX1_mark_29 : decode cX1_mark 29 = .ok (.aload_n 0, 1) := by decide +kernel
theorem dX1_mark_30 : decode cX1_mark 30 = .ok (.invokevirtual 35, 3) := by decide +kernel
theorem dX1_mark_33 : decode cX1_mark 33 = .ok (.istore_n 2, 1) := by decide +kernel
theorem dX1_mark_34 : decode cX1_mark 34 = .ok (.iload_n 2, 1) := by decide +kernel
theorem dX1_mark_35 : decode cX1_mark 35 = .ok (.iconst (-1), 1) := by decide +kernel
theorem dX1_mark_36 : decode cX1_mark 36 = .ok (.if_icmp .eq 23, 3) := by decide +kernel
theorem dX1_mark_39 : decode cX1_mark 39 = .ok (.aload_n 0, 1) := by decide +kernel
theorem dX1_mark_40 : decode cX1_mark 40 = .ok (.getfield 7, 3) := by decide +kernel
theorem dX1_mark_43 : decode cX1_mark 43 = .ok (.aload_n 0, 1) := by decide +kernel
theorem dX1_mark_44 : decode cX1_mark 44 = .ok (.invokevirtual 31, 3) := by decide +kernel
theorem dX1_mark_47 : decode cX1_mark 47 = .ok (.iload_n 2, 1) := by decide +kernel
theorem dX1_mark_48 : decode cX1_mark 48 = .ok (.iload_n 1, 1) := by decide +kernel
theorem dX1_mark_49 : decode cX1_mark 49 = .ok (.invokevirtual 51, 3) := by decide +kernel
theorem dX1_mark_52 : decode cX1_mark 52 = .ok (.ifCond .eq 7, 3) := by decide +kernel
theorem dX1_mark_55 : decode cX1_mark 55 = .ok (.iload_n 2, 1) := by decide +kernel
theorem dX1_mark_56 : decode cX1_mark 56 = .ok (.goto 4, 3) := by decide +kernel
theorem dX1_mark_59 : decode cX1_mark 59 = .ok (.iconst (-1), 1) := by decide +kernel
theorem dX1_mark_60 : decode cX1_mark 60 = .ok (.ireturn, 1) := by decide +kernel
theorem dX1_remark_0 : decode cX1_remark 0 = .ok (.aload_n 0, 1) := by decide +kernel
theorem dX1_remark_1 : decode cX1_remark 1 = .ok (.getfield 7, 3) := by decide +kernel
theorem dX1_remark_4 : decode cX1_remark 4 = .ok (.aload_n 0, 1) := by decide +kernel
theorem dX1_remark_5 : decode cX1_remark 5 = .ok (.invokevirtual 31, 3) := by decide +kernel
theorem dX1_remark_8 : decode cX1_remark 8 = .ok (.iload_n 1, 1) := by decide +kernel
theorem dX1_remark_9 : decode cX1_remark 9 = .ok (.iload_n 2, 1) := by decide +kernel
theorem dX1_remark_10 : decode cX1_remark 10 = .ok (.invokevirtual 51, 3) := by decide +kernel
theorem dX1_remark_13 : decode cX1_remark 13 = .ok (.ireturn, 1) := by decide +kernel
theorem dX1_turn_0 : decode cX1_turn 0 = .ok (.aload_n 0, 1) := by decide +kernel
theorem dX1_turn_1 : decode cX1_turn 1 = .ok (.invokevirtual 31, 3) := by decide +kernel
theorem dX1_turn_4 : decode cX1_turn 4 = .ok (.istore 4, 2) := by decide +kernel
theorem dX1_turn_6 : decode cX1_turn 6 = .ok (.iconst 1, 1) := by decide +kernel
theorem dX1_turn_7 : decode cX1_turn 7 = .ok (.iload 4, 2) := by decide +kernel
theorem dX1_turn_9 : decode cX1_turn 9 = .ok (.isub, 1) := by decide +kernel
theorem dX1_turn_10 : decode cX1_turn 10 = .ok (.istore 5, 2) := by decide +kernel
theorem dX1_turn_12 : decode cX1_turn 12 = .ok (.aload_n 0, 1) := by decide +kernel
theorem dX1_turn_13 : decode cX1_turn 13 = .ok (.iload 5, 2) := by decide +kernel
theorem dX1_turn_15 : decode cX1_turn 15 = .ok (.invokevirtual 19, 3) := by decide +kernel
theorem dX1_turn_18 : decode cX1_turn 18 = .ok (.ifCond .eq 19, 3) := by decide +kernel
theorem dX1_turn_21 : decode cX1_turn 21 = .ok (.aload_n 0, 1) := by decide +kernel
theorem dX1_turn_22 : decode cX1_turn 22 = .ok (.getfield 7, 3) := by decide +kernel
theorem dX1_turn_25 : decode cX1_turn 25 = .ok (.iload 5, 2) := by decide +kernel
theorem dX1_turn_27 : decode cX1_turn 27 = .ok (.iconst 0, 1) := by decide +kernel
theorem dX1_turn_28 : decode cX1_turn 28 = .ok (.iconst 0, 1) := by decide +kernel
theorem dX1_turn_29 : decode cX1_turn 29 = .ok (.invokevirtual 51, 3) := by decide +kernel
theorem dX1_turn_32 : decode cX1_turn 32 = .ok (.ifCond .ne 5, 3) := by decide +kernel
theorem dX1_turn_35 : decode cX1_turn 35 = .ok (.iconst 0, 1) := by decide +kernel
theorem dX1_turn_36 : decode cX1_turn 36 = .ok (.ireturn, 1) := by decide +kernel
theorem dX1_turn_37 : decode cX1_turn 37 = .ok (.aload_n 0, 1) := by decide +kernel
theorem dX1_turn_38 : decode cX1_turn 38 = .ok (.getfield 7, 3) := by decide +kernel
theorem dX1_turn_41 : decode cX1_turn 41 = .ok (.iload 5, 2) := by decide +kernel
theorem dX1_turn_43 : decode cX1_turn 43 = .ok (.invokevirtual 54, 3) := by decide +kernel
theorem dX1_turn_46 : decode cX1_turn 46 = .ok (.ifCond .eq 104, 3) := by decide +kernel
theorem dX1_turn_49 : decode cX1_turn 49 = .ok (.aload_n 0, 1) := by decide +kernel
theorem dX1_turn_50 : decode cX1_turn 50 = .ok (.getfield 7, 3) := by decide +kernel
theorem dX1_turn_53 : decode cX1_turn 53 = .ok (.iload 5, 2) := by decide +kernel
theorem dX1_turn_55 : decode cX1_turn 55 = .ok (.iconst 1, 1) := by decide +kernel
theorem dX1_turn_56 : decode cX1_turn 56 = .ok (.aload_n 0, 1) := by decide +kernel
theorem dX1_turn_57 : decode cX1_turn 57 = .ok (.iload 4, 2) := by decide +kernel
theorem dX1_turn_59 : decode cX1_turn 59 = .ok (.invokevirtual 27, 3) := by decide +kernel
theorem dX1_turn_62 : decode cX1_turn 62 = .ok (.invokevirtual 51, 3) := by decide +kernel
theorem dX1_turn_65 : decode cX1_turn 65 = .ok (.ifCond .eq 85, 3) := by decide +kernel
theorem dX1_turn_68 : decode cX1_turn 68 = .ok (.aload_n 0, 1) := by decide +kernel
theorem dX1_turn_69 : decode cX1_turn 69 = .ok (.getfield 7, 3) := by decide +kernel
theorem dX1_turn_72 : decode cX1_turn 72 = .ok (.iload 5, 2) := by decide +kernel
theorem dX1_turn_74 : decode cX1_turn 74 = .ok (.iconst 2, 1) := by decide +kernel
theorem dX1_turn_75 : decode cX1_turn 75 = .ok (.iload_n 1, 1) := by decide +kernel
theorem dX1_turn_76 : decode cX1_turn 76 = .ok (.bipush 8, 2) := by decide +kernel
theorem dX1_turn_78 : decode cX1_turn 78 = .ok (.ishr, 1) := by decide +kernel
theorem dX1_turn_79 : decode cX1_turn 79 = .ok (.invokevirtual 51, 3) := by decide +kernel
theorem dX1_turn_82 : decode cX1_turn 82 = .ok (.ifCond .eq 68, 3) := by decide +kernel
theorem dX1_turn_85 : decode cX1_turn 85 = .ok (.aload_n 0, 1) := by decide +kernel
theorem dX1_turn_86 : decode cX1_turn 86 = .ok (.getfield 7, 3) := by decide +kernel
theorem dX1_turn_89 : decode cX1_turn 89 = .ok (.iload 5, 2) := by decide +kernel
theorem dX1_turn_91 : decode cX1_turn 91 = .ok (.iconst 3, 1) := by decide +kernel
theorem dX1_turn_92 : decode cX1_turn 92 = .ok (.iload_n 1, 1) := by decide +kernel
theorem dX1_turn_93 : decode cX1_turn 93 = .ok (.sipush 255, 3) := by decide +kernel
theorem dX1_turn_96 : decode cX1_turn 96 = .ok (.iand, 1) := by decide +kernel
theorem dX1_turn_97 : decode cX1_turn 97 = .ok (.invokevirtual 51, 3) := by decide +kernel
theorem dX1_turn_100 : decode cX1_turn 100 = .ok (.ifCond .eq 50, 3) := by decide +kernel
theorem dX1_turn_103 : decode cX1_turn 103 = .ok (.aload_n 0, 1) := by decide +kernel
theorem dX1_turn_104 : decode cX1_turn 104 = .ok (.getfield 7, 3) := by decide +kernel
theorem dX1_turn_107 : decode cX1_turn 107 = .ok (.iload 5, 2) := by decide +kernel
theorem dX1_turn_109 : decode cX1_turn 109 = .ok (.iconst 4, 1) := by decide +kernel
theorem dX1_turn_110 : decode cX1_turn 110 = .ok (.iload_n 2, 1) := by decide +kernel
theorem dX1_turn_111 : decode cX1_turn 111 = .ok (.invokevirtual 51, 3) := by decide +kernel
theorem dX1_turn_114 : decode cX1_turn 114 = .ok (.ifCond .eq 36, 3) := by decide +kernel
theorem dX1_turn_117 : decode cX1_turn 117 = .ok (.aload_n 0, 1) := by decide +kernel
theorem dX1_turn_118 : decode cX1_turn 118 = .ok (.getfield 7, 3) := by decide +kernel
theorem dX1_turn_121 : decode cX1_turn 121 = .ok (.iload 5, 2) := by decide +kernel
theorem dX1_turn_123 : decode cX1_turn 123 = .ok (.iconst 5, 1) := by decide +kernel
theorem dX1_turn_124 : decode cX1_turn 124 = .ok (.iload_n 3, 1) := by decide +kernel
theorem dX1_turn_125 : decode cX1_turn 125 = .ok (.invokevirtual 51, 3) := by decide +kernel
theorem dX1_turn_128 : decode cX1_turn 128 = .ok (.ifCond .eq 22, 3) := by decide +kernel
theorem dX1_turn_131 : decode cX1_turn 131 = .ok (.aload_n 0, 1) := by decide +kernel
theorem dX1_turn_132 : decode cX1_turn 132 = .ok (.getfield 7, 3) := by decide +kernel
theorem dX1_turn_135 : decode cX1_turn 135 = .ok (.iload 5, 2) := by decide +kernel
theorem dX1_turn_137 : decode cX1_turn 137 = .ok (.iconst 0, 1) := by decide +kernel
theorem dX1_turn_138 : decode cX1_turn 138 = .ok (.bipush 90, 2) := by decide +kernel
theorem dX1_turn_140 : decode cX1_turn 140 = .ok (.invokevirtual 51, 3) := by decide +kernel
theorem dX1_turn_143 : decode cX1_turn 143 = .ok (.ifCond .eq 7, 3) := by decide +kernel
theorem dX1_turn_146 : decode cX1_turn 146 = .ok (.iconst 1, 1) := by decide +kernel
theorem dX1_turn_147 : decode cX1_turn 147 = .ok (.goto 4, 3) := by decide +kernel
theorem dX1_turn_150 : decode cX1_turn 150 = .ok (.iconst 0, 1) := by decide +kernel
theorem dX1_turn_151 : decode cX1_turn 151 = .ok (.ireturn, 1) := by decide +kernel
theorem dX1_isGood_0 : decode cX1_isGood 0 = .ok (.aload_n 0, 1) := by decide +kernel
theorem dX1_isGood_1 : decode cX1_isGood 1 = .ok (.getfield 7, 3) := by decide +kernel
theorem dX1_isGood_4 : decode cX1_isGood 4 = .ok (.iload_n 1, 1) := by decide +kernel
theorem dX1_isGood_5 : decode cX1_isGood 5 = .ok (.iconst 0, 1) := by decide +kernel
theorem dX1_isGood_6 : decode cX1_isGood 6 = .ok (.invokevirtual 23, 3) := by decide +kernel
theorem dX1_isGood_9 : decode cX1_isGood 9 = .ok (.bipush 90, 2) := by decide +kernel
theorem dX1_isGood_11 : decode cX1_isGood 11 = .ok (.if_icmp .ne 7, 3) := by decide +kernel
theorem dX1_isGood_14 : decode cX1_isGood 14 = .ok (.iconst 1, 1) := by decide +kernel
theorem dX1_isGood_15 : decode cX1_isGood 15 = .ok (.goto 4, 3) := by decide +kernel
theorem dX1_isGood_18 : decode cX1_isGood 18 = .ok (.iconst 0, 1) := by decide +kernel
theorem dX1_isGood_19 : decode cX1_isGood 19 = .ok (.ireturn, 1) := by decide +kernel
theorem dX1_generationAfter_0 : decode cX1_generationAfter 0 = .ok (.aload_n 0, 1) := by decide +kernel
theorem dX1_generationAfter_1 : decode cX1_generationAfter 1 = .ok (.getfield 7, 3) := by decide +kernel
theorem dX1_generationAfter_4 : decode cX1_generationAfter 4 = .ok (.iload_n 1, 1) := by decide +kernel
theorem dX1_generationAfter_5 : decode cX1_generationAfter 5 = .ok (.iconst 1, 1) := by decide +kernel
theorem dX1_generationAfter_6 : decode cX1_generationAfter 6 = .ok (.invokevirtual 23, 3) := by decide +kernel
theorem dX1_generationAfter_9 : decode cX1_generationAfter 9 = .ok (.iconst 1, 1) := by decide +kernel
theorem dX1_generationAfter_10 : decode cX1_generationAfter 10 = .ok (.iadd, 1) := by decide +kernel
theorem dX1_generationAfter_11 : decode cX1_generationAfter 11 = .ok (.sipush 255, 3) := by decide +kernel
theorem dX1_generationAfter_14 : decode cX1_generationAfter 14 = .ok (.iand, 1) := by decide +kernel
theorem dX1_generationAfter_15 : decode cX1_generationAfter 15 = .ok (.ireturn, 1) := by decide +kernel
theorem dX1_firstFreeEntry_0 : decode cX1_firstFreeEntry 0 = .ok (.aload_n 0, 1) := by decide +kernel
theorem dX1_firstFreeEntry_1 : decode cX1_firstFreeEntry 1 = .ok (.invokevirtual 31, 3) := by decide +kernel
theorem dX1_firstFreeEntry_4 : decode cX1_firstFreeEntry 4 = .ok (.istore_n 1, 1) := by decide +kernel
theorem dX1_firstFreeEntry_5 : decode cX1_firstFreeEntry 5 = .ok (.bipush 6, 2) := by decide +kernel
theorem dX1_firstFreeEntry_7 : decode cX1_firstFreeEntry 7 = .ok (.istore_n 2, 1) := by decide +kernel
theorem dX1_firstFreeEntry_8 : decode cX1_firstFreeEntry 8 = .ok (.iload_n 2, 1) := by decide +kernel
theorem dX1_firstFreeEntry_9 : decode cX1_firstFreeEntry 9 = .ok (.bipush 16, 2) := by decide +kernel
theorem dX1_firstFreeEntry_11 : decode cX1_firstFreeEntry 11 = .ok (.if_icmp .ge 26, 3) := by decide +kernel
theorem dX1_firstFreeEntry_14 : decode cX1_firstFreeEntry 14 = .ok (.aload_n 0, 1) := by decide +kernel
theorem dX1_firstFreeEntry_15 : decode cX1_firstFreeEntry 15 = .ok (.getfield 7, 3) := by decide +kernel
theorem dX1_firstFreeEntry_18 : decode cX1_firstFreeEntry 18 = .ok (.iload_n 1, 1) := by decide +kernel
theorem dX1_firstFreeEntry_19 : decode cX1_firstFreeEntry 19 = .ok (.iload_n 2, 1) := by decide +kernel
theorem dX1_firstFreeEntry_20 : decode cX1_firstFreeEntry 20 = .ok (.invokevirtual 23, 3) := by decide +kernel
theorem dX1_firstFreeEntry_23 : decode cX1_firstFreeEntry 23 = .ok (.sipush 255, 3) := by decide +kernel
theorem dX1_firstFreeEntry_26 : decode cX1_firstFreeEntry 26 = .ok (.if_icmp .ne 5, 3) := by decide +kernel
theorem dX1_firstFreeEntry_29 : decode cX1_firstFreeEntry 29 = .ok (.iload_n 2, 1) := by decide +kernel
theorem dX1_firstFreeEntry_30 : decode cX1_firstFreeEntry 30 = .ok (.ireturn, 1) := by decide +kernel
theorem dX1_firstFreeEntry_31 : decode cX1_firstFreeEntry 31 = .ok (.iinc 2 1, 3) := by decide +kernel
theorem dX1_firstFreeEntry_34 : decode cX1_firstFreeEntry 34 = .ok (.goto (-26), 3) := by decide +kernel
theorem dX1_firstFreeEntry_37 : decode cX1_firstFreeEntry 37 = .ok (.iconst (-1), 1) := by decide +kernel
theorem dX1_firstFreeEntry_38 : decode cX1_firstFreeEntry 38 = .ok (.ireturn, 1) := by decide +kernel
theorem dX2_init_0 : decode cX2_init 0 = .ok (.aload_n 0, 1) := by decide +kernel
theorem dX2_init_1 : decode cX2_init 1 = .ok (.invokespecial 1, 3) := by decide +kernel
theorem dX2_init_4 : decode cX2_init 4 = .ok (.aload_n 0, 1) := by decide +kernel
theorem dX2_init_5 : decode cX2_init 5 = .ok (.new 7, 3) := by decide +kernel
theorem dX2_init_8 : decode cX2_init 8 = .ok (.dup, 1) := by decide +kernel
theorem dX2_init_9 : decode cX2_init 9 = .ok (.invokespecial 9, 3) := by decide +kernel
theorem dX2_init_12 : decode cX2_init 12 = .ok (.putfield 10, 3) := by decide +kernel
theorem dX2_init_15 : decode cX2_init 15 = .ok (.aload_n 0, 1) := by decide +kernel
theorem dX2_init_16 : decode cX2_init 16 = .ok (.new 16, 3) := by decide +kernel
theorem dX2_init_19 : decode cX2_init 19 = .ok (.dup, 1) := by decide +kernel
theorem dX2_init_20 : decode cX2_init 20 = .ok (.aload_n 0, 1) := by decide +kernel
theorem dX2_init_21 : decode cX2_init 21 = .ok (.getfield 10, 3) := by decide +kernel
theorem dX2_init_24 : decode cX2_init 24 = .ok (.iload_n 1, 1) := by decide +kernel
theorem dX2_init_25 : decode cX2_init 25 = .ok (.ldc 18, 2) := by decide +kernel
theorem dX2_init_27 : decode cX2_init 27 = .ok (.iand, 1) := by decide +kernel
theorem dX2_init_28 : decode cX2_init 28 = .ok (.invokespecial 19, 3) := by decide +kernel
theorem dX2_init_31 : decode cX2_init 31 = .ok (.putfield 22, 3) := by decide +kernel
theorem dX2_init_34 : decode cX2_init 34 = .ok (.aload_n 0, 1) := by decide +kernel
theorem dX2_init_35 : decode cX2_init 35 = .ok (.iload_n 2, 1) := by decide +kernel
theorem dX2_init_36 : decode cX2_init 36 = .ok (.putfield 26, 3) := by decide +kernel
theorem dX2_init_39 : decode cX2_init 39 = .ok (.aload_n 0, 1) := by decide +kernel
theorem dX2_init_40 : decode cX2_init 40 = .ok (.iload_n 3, 1) := by decide +kernel
theorem dX2_init_41 : decode cX2_init 41 = .ok (.iconst 3, 1) := by decide +kernel
theorem dX2_init_42 : decode cX2_init 42 = .ok (.invokestatic 30, 3) := by decide +kernel
theorem dX2_init_45 : decode cX2_init 45 = .ok (.putfield 34, 3) := by decide +kernel
theorem dX2_init_48 : decode cX2_init 48 = .ok (.aload_n 0, 1) := by decide +kernel
theorem dX2_init_49 : decode cX2_init 49 = .ok (.iload 4, 2) := by decide +kernel
theorem dX2_init_51 : decode cX2_init 51 = .ok (.iconst 5, 1) := by decide +kernel
theorem dX2_init_52 : decode cX2_init 52 = .ok (.invokestatic 30, 3) := by decide +kernel
theorem dX2_init_55 : decode cX2_init 55 = .ok (.putfield 37, 3) := by decide +kernel
theorem dX2_init_58 : decode cX2_init 58 = .ok (.aload_n 0, 1) := by decide +kernel
theorem dX2_init_59 : decode cX2_init 59 = .ok (.iconst 1, 1) := by decide +kernel
theorem dX2_init_60 : decode cX2_init 60 = .ok (.putfield 40, 3) := by decide +kernel
theorem dX2_init_63 : decode cX2_init 63 = .ok (.aload_n 0, 1) := by decide +kernel
theorem dX2_init_64 : decode cX2_init 64 = .ok (.iconst 0, 1) := by decide +kernel
theorem dX2_init_65 : decode cX2_init 65 = .ok (.putfield 44, 3) := by decide +kernel
theorem dX2_init_68 : decode cX2_init 68 = .ok (.aload_n 0, 1) := by decide +kernel
theorem dX2_init_69 : decode cX2_init 69 = .ok (.iconst 0, 1) := by decide +kernel
theorem dX2_init_70 : decode cX2_init 70 = .ok (.putfield 47, 3) := by decide +kernel
theorem dX2_init_73 : decode cX2_init 73 = .ok (.return_, 1) := by decide +kernel
theorem dX2_verify_0 : decode cX2_verify 0 = .ok (.aload_n 0, 1) := by decide +kernel
theorem dX2_verify_1 : decode cX2_verify 1 = .ok (.iload_n 1, 1) := by decide +kernel
theorem dX2_verify_2 : decode cX2_verify 2 = .ok (.ldc 18, 2) := by decide +kernel
theorem dX2_verify_4 : decode cX2_verify 4 = .ok (.iand, 1) := by decide +kernel
theorem dX2_verify_5 : decode cX2_verify 5 = .ok (.invokevirtual 50, 3) := by decide +kernel
theorem dX2_verify_8 : decode cX2_verify 8 = .ok (.istore_n 2, 1) := by decide +kernel
theorem dX2_verify_9 : decode cX2_verify 9 = .ok (.iload_n 2, 1) := by decide +kernel
theorem dX2_verify_10 : decode cX2_verify 10 = .ok (.iconst 1, 1) := by decide +kernel
theorem dX2_verify_11 : decode cX2_verify 11 = .ok (.if_icmp .ne 8, 3) := by decide +kernel
theorem dX2_verify_14 : decode cX2_verify 14 = .ok (.aload_n 0, 1) := by decide +kernel
theorem dX2_verify_15 : decode cX2_verify 15 = .ok (.iconst 1, 1) := by decide +kernel
theorem dX2_verify_16 : decode cX2_verify 16 = .ok (.putfield 44, 3) := by decide +kernel
theorem dX2_verify_19 : decode cX2_verify 19 = .ok (.iload_n 2, 1) := by decide +kernel
theorem dX2_verify_20 : decode cX2_verify 20 = .ok (.ireturn, 1) := by decide +kernel
theorem dX2_change_0 : decode cX2_change 0 = .ok (.aload_n 0, 1) := by decide +kernel
theorem dX2_change_1 : decode cX2_change 1 = .ok (.iload_n 1, 1) := by decide +kernel
theorem dX2_change_2 : decode cX2_change 2 = .ok (.ldc 18, 2) := by decide +kernel
theorem dX2_change_4 : decode cX2_change 4 = .ok (.iand, 1) := by decide +kernel
theorem dX2_change_5 : decode cX2_change 5 = .ok (.invokevirtual 50, 3) := by decide +kernel
theorem dX2_change_8 : decode cX2_change 8 = .ok (.istore_n 3, 1) := by decide +kernel
theorem dX2_change_9 : decode cX2_change 9 = .ok (.iload_n 3, 1) := by decide +kernel
theorem dX2_change_10 : decode cX2_change 10 = .ok (.iconst 1, 1) := by decide +kernel
theorem dX2_change_11 : decode cX2_change 11 = .ok (.if_icmp .eq 5, 3) := by decide +kernel
theorem dX2_change_14 : decode cX2_change 14 = .ok (.iload_n 3, 1) := by decide +kernel
theorem dX2_change_15 : decode cX2_change 15 = .ok (.ireturn, 1) := by decide +kernel
theorem dX2_change_16 : decode cX2_change 16 = .ok (.aload_n 0, 1) := by decide +kernel
theorem dX2_change_17 : decode cX2_change 17 = .ok (.getfield 22, 3) := by decide +kernel
theorem dX2_change_20 : decode cX2_change 20 = .ok (.iload_n 2, 1) := by decide +kernel
theorem dX2_change_21 : decode cX2_change 21 = .ok (.ldc 18, 2) := by decide +kernel
theorem dX2_change_23 : decode cX2_change 23 = .ok (.iand, 1) := by decide +kernel
theorem dX2_change_24 : decode cX2_change 24 = .ok (.iconst 0, 1) := by decide +kernel
theorem dX2_change_25 : decode cX2_change 25 = .ok (.aload_n 0, 1) := by decide +kernel
theorem dX2_change_26 : decode cX2_change 26 = .ok (.getfield 22, 3) := by decide +kernel
theorem dX2_change_29 : decode cX2_change 29 = .ok (.invokevirtual 54, 3) := by decide +kernel
theorem dX2_change_32 : decode cX2_change 32 = .ok (.invokevirtual 58, 3) := by decide +kernel
theorem dX2_change_35 : decode cX2_change 35 = .ok (.ifCond .ne 8, 3) := by decide +kernel
theorem dX2_change_38 : decode cX2_change 38 = .ok (.aload_n 0, 1) := by decide +kernel
theorem dX2_change_39 : decode cX2_change 39 = .ok (.invokevirtual 62, 3) := by decide +kernel
theorem dX2_change_42 : decode cX2_change 42 = .ok (.ireturn, 1) := by decide +kernel
theorem dX2_change_43 : decode cX2_change 43 = .ok (.aload_n 0, 1) := by decide +kernel
theorem dX2_change_44 : decode cX2_change 44 = .ok (.iconst 1, 1) := by decide +kernel
theorem dX2_change_45 : decode cX2_change 45 = .ok (.putfield 44, 3) := by decide +kernel
theorem dX2_change_48 : decode cX2_change 48 = .ok (.iconst 1, 1) := by decide +kernel
theorem dX2_change_49 : decode cX2_change 49 = .ok (.ireturn, 1) := by decide +kernel
theorem dX2_unblock_0 : decode cX2_unblock 0 = .ok (.aload_n 0, 1) := by decide +kernel
theorem dX2_unblock_1 : decode cX2_unblock 1 = .ok (.getfield 40, 3) := by decide +kernel
theorem dX2_unblock_4 : decode cX2_unblock 4 = .ok (.ifCond .ne 5, 3) := by decide +kernel
theorem dX2_unblock_7 : decode cX2_unblock 7 = .ok (.iconst (-1), 1) := by decide +kernel
theorem dX2_unblock_8 : decode cX2_unblock 8 = .ok (.ireturn, 1) := by decide +kernel
theorem dX2_unblock_9 : decode cX2_unblock 9 = .ok (.aload_n 0, 1) := by decide +kernel
theorem dX2_unblock_10 : decode cX2_unblock 10 = .ok (.getfield 22, 3) := by decide +kernel
theorem dX2_unblock_13 : decode cX2_unblock 13 = .ok (.invokevirtual 54, 3) := by decide +kernel
theorem dX2_unblock_16 : decode cX2_unblock 16 = .ok (.aload_n 0, 1) := by decide +kernel
theorem dX2_unblock_17 : decode cX2_unblock 17 = .ok (.getfield 37, 3) := by decide +kernel
theorem dX2_unblock_20 : decode cX2_unblock 20 = .ok (.if_icmp .lt 6, 3) := by decide +kernel
theorem dX2_unblock_23 : decode cX2_unblock 23 = .ok (.bipush (-2), 2) := by decide +kernel
theorem dX2_unblock_25 : decode cX2_unblock 25 = .ok (.ireturn, 1) := by decide +kernel
theorem dX2_unblock_26 : decode cX2_unblock 26 = .ok (.aload_n 0, 1) := by decide +kernel
theorem dX2_unblock_27 : decode cX2_unblock 27 = .ok (.iconst 0, 1) := by decide +kernel
theorem dX2_unblock_28 : decode cX2_unblock 28 = .ok (.putfield 44, 3) := by decide +kernel
theorem dX2_unblock_31 : decode cX2_unblock 31 = .ok (.aload_n 0, 1) := by decide +kernel
theorem dX2_unblock_32 : decode cX2_unblock 32 = .ok (.getfield 22, 3) := by decide +kernel
theorem dX2_unblock_35 : decode cX2_unblock 35 = .ok (.sipush 239, 3) := by decide +kernel
theorem dX2_unblock_38 : decode cX2_unblock 38 = .ok (.invokevirtual 65, 3) := by decide +kernel
theorem dX2_unblock_41 : decode cX2_unblock 41 = .ok (.iconst (-1), 1) := by decide +kernel
theorem dX2_unblock_42 : decode cX2_unblock 42 = .ok (.if_icmp .ne 8, 3) := by decide +kernel
theorem dX2_unblock_45 : decode cX2_unblock 45 = .ok (.aload_n 0, 1) := by decide +kernel
theorem dX2_unblock_46 : decode cX2_unblock 46 = .ok (.invokevirtual 62, 3) := by decide +kernel
theorem dX2_unblock_49 : decode cX2_unblock 49 = .ok (.ireturn, 1) := by decide +kernel
theorem dX2_unblock_50 : decode cX2_unblock 50 = .ok (.iload_n 1, 1) := by decide +kernel
theorem dX2_unblock_51 : decode cX2_unblock 51 = .ok (.aload_n 0, 1) := by decide +kernel
theorem dX2_unblock_52 : decode cX2_unblock 52 = .ok (.getfield 26, 3) := by decide +kernel
theorem dX2_unblock_55 : decode cX2_unblock 55 = .ok (.if_icmp .eq 5, 3) := by decide +kernel
theorem dX2_unblock_58 : decode cX2_unblock 58 = .ok (.iconst 0, 1) := by decide +kernel
theorem dX2_unblock_59 : decode cX2_unblock 59 = .ok (.ireturn, 1) := by decide +kernel
theorem dX2_unblock_60 : decode cX2_unblock 60 = .ok (.aload_n 0, 1) := by decide +kernel
theorem dX2_unblock_61 : decode cX2_unblock 61 = .ok (.getfield 22, 3) := by decide +kernel
theorem dX2_unblock_64 : decode cX2_unblock 64 = .ok (.iload_n 2, 1) := by decide +kernel
theorem dX2_unblock_65 : decode cX2_unblock 65 = .ok (.ldc 18, 2) := by decide +kernel
theorem dX2_unblock_67 : decode cX2_unblock 67 = .ok (.iand, 1) := by decide +kernel
theorem dX2_unblock_68 : decode cX2_unblock 68 = .ok (.iconst 0, 1) := by decide +kernel
theorem dX2_unblock_69 : decode cX2_unblock 69 = .ok (.iconst 0, 1) := by decide +kernel
theorem dX2_unblock_70 : decode cX2_unblock 70 = .ok (.invokevirtual 58, 3) := by decide +kernel
theorem dX2_unblock_73 : decode cX2_unblock 73 = .ok (.ifCond .eq 7, 3) := by decide +kernel
theorem dX2_unblock_76 : decode cX2_unblock 76 = .ok (.iconst 1, 1) := by decide +kernel
theorem dX2_unblock_77 : decode cX2_unblock 77 = .ok (.goto 7, 3) := by decide +kernel
theorem dX2_unblock_80 : decode cX2_unblock 80 = .ok (.aload_n 0, 1) := by decide +kernel
theorem dX2_unblock_81 : decode cX2_unblock 81 = .ok (.invokevirtual 62, 3) := by decide +kernel
theorem dX2_unblock_84 : decode cX2_unblock 84 = .ok (.ireturn, 1) := by decide +kernel
theorem dX2_arm_0 : decode cX2_arm 0 = .ok (.iload_n 1, 1) := by decide +kernel
theorem dX2_arm_1 : decode cX2_arm 1 = .ok (.ifCond .lt 20, 3) := by decide +kernel
theorem dX2_arm_4 : decode cX2_arm 4 = .ok (.iload_n 1, 1) := by decide +kernel
theorem dX2_arm_5 : decode cX2_arm 5 = .ok (.bipush 30, 2) := by decide +kernel
theorem dX2_arm_7 : decode cX2_arm 7 = .ok (.if_icmp .gt 14, 3) := by decide +kernel
theorem dX2_arm_10 : decode cX2_arm 10 = .ok (.iload_n 2, 1) := by decide +kernel
theorem dX2_arm_11 : decode cX2_arm 11 = .ok (.ifCond .lt 10, 3) := by decide +kernel
theorem dX2_arm_14 : decode cX2_arm 14 = .ok (.iload_n 2, 1) := by decide +kernel
theorem dX2_arm_15 : decode cX2_arm 15 = .ok (.sipush 255, 3) := by decide +kernel
theorem dX2_arm_18 : decode cX2_arm 18 = .ok (.if_icmp .le 5, 3) := by decide +kernel
theorem dX2_arm_21 : decode cX2_arm 21 = .ok (.iconst 0, 1) := by decide +kernel
theorem dX2_arm_22 : decode cX2_arm 22 = .ok (.ireturn, 1) := by decide +kernel
theorem dX2_arm_23 : decode cX2_arm 23 = .ok (.iload_n 1, 1) := by decide +kernel
theorem dX2_arm_24 : decode cX2_arm 24 = .ok (.ifCond .le 24, 3) := by decide +kernel
theorem dX2_arm_27 : decode cX2_arm 27 = .ok (.aload_n 0, 1) := by decide +kernel
theorem dX2_arm_28 : decode cX2_arm 28 = .ok (.getfield 47, 3) := by decide +kernel
theorem dX2_arm_31 : decode cX2_arm 31 = .ok (.bipush 40, 2) := by decide +kernel
theorem dX2_arm_33 : decode cX2_arm 33 = .ok (.if_icmp .lt 5, 3) := by decide +kernel
theorem dX2_arm_36 : decode cX2_arm 36 = .ok (.iconst 0, 1) := by decide +kernel
theorem dX2_arm_37 : decode cX2_arm 37 = .ok (.ireturn, 1) := by decide +kernel
theorem dX2_arm_38 : decode cX2_arm 38 = .ok (.aload_n 0, 1) := by decide +kernel
theorem dX2_arm_39 : decode cX2_arm 39 = .ok (.dup, 1) := by decide +kernel
theorem dX2_arm_40 : decode cX2_arm 40 = .ok (.getfield 47, 3) := by decide +kernel
theorem dX2_arm_43 : decode cX2_arm 43 = .ok (.iconst 1, 1) := by decide +kernel
theorem dX2_arm_44 : decode cX2_arm 44 = .ok (.iadd, 1) := by decide +kernel
theorem dX2_arm_45 : decode cX2_arm 45 = .ok (.putfield 47, 3) := by decide +kernel
theorem dX2_arm_48 : decode cX2_arm 48 = .ok (.aload_n 0, 1) := by decide +kernel
theorem dX2_arm_49 : decode cX2_arm 49 = .ok (.getfield 10, 3) := by decide +kernel
theorem dX2_arm_52 : decode cX2_arm 52 = .ok (.iload_n 1, 1) := by decide +kernel
theorem dX2_arm_53 : decode cX2_arm 53 = .ok (.iload_n 2, 1) := by decide +kernel
theorem dX2_arm_54 : decode cX2_arm 54 = .ok (.invokevirtual 68, 3) := by decide +kernel
theorem dX2_arm_57 : decode cX2_arm 57 = .ok (.iconst 1, 1) := by decide +kernel
theorem dX2_arm_58 : decode cX2_arm 58 = .ok (.ireturn, 1) := by decide +kernel
theorem dX2_cut_0 : decode cX2_cut 0 = .ok (.aload_n 0, 1) := by decide +kernel
theorem dX2_cut_1 : decode cX2_cut 1 = .ok (.getfield 40, 3) := by decide +kernel
theorem dX2_cut_4 : decode cX2_cut 4 = .ok (.ifCond .ne 5, 3) := by decide +kernel
theorem dX2_cut_7 : decode cX2_cut 7 = .ok (.iconst 0, 1) := by decide +kernel
theorem dX2_cut_8 : decode cX2_cut 8 = .ok (.ireturn, 1) := by decide +kernel
theorem dX2_cut_9 : decode cX2_cut 9 = .ok (.aload_n 0, 1) := by decide +kernel
theorem dX2_cut_10 : decode cX2_cut 10 = .ok (.invokevirtual 62, 3) := by decide +kernel
theorem dX2_cut_13 : decode cX2_cut 13 = .ok (.pop, 1) := by decide +kernel
theorem dX2_cut_14 : decode cX2_cut 14 = .ok (.iconst 1, 1) := by decide +kernel
theorem dX2_cut_15 : decode cX2_cut 15 = .ok (.ireturn, 1) := by decide +kernel
theorem dX2_start_0 : decode cX2_start 0 = .ok (.aload_n 0, 1) := by decide +kernel
end
section
theorem dX2_start_1 : decode cX2_start 1 = .ok (.getfield 40, 3) := by decide +kernel
theorem dX2_start_4 : decode cX2_start 4 = .ok (.ifCond .eq 5, 3) := by decide +kernel
theorem dX2_start_7 : decode cX2_start 7 = .ok (.iconst 0, 1) := by decide +kernel
theorem dX2_start_8 : decode cX2_start 8 = .ok (.ireturn, 1) := by decide +kernel
theorem dX2_start_9 : decode cX2_start 9 = .ok (.aload_n 0, 1) := by decide +kernel
theorem dX2_start_10 : decode cX2_start 10 = .ok (.iconst 1, 1) := by decide +kernel
theorem dX2_start_11 : decode cX2_start 11 = .ok (.putfield 40, 3) := by decide +kernel
theorem dX2_start_14 : decode cX2_start 14 = .ok (.iconst 1, 1) := by decide +kernel
theorem dX2_start_15 : decode cX2_start 15 = .ok (.ireturn, 1) := by decide +kernel
theorem dX2_in_0 : decode cX2_in 0 = .ok (.aload_n 0, 1) := by decide +kernel
theorem dX2_in_1 : decode cX2_in 1 = .ok (.getfield 44, 3) := by decide +kernel
theorem dX2_in_4 : decode cX2_in 4 = .ok (.ireturn, 1) := by decide +kernel
theorem dX2_up_0 : decode cX2_up 0 = .ok (.aload_n 0, 1) := by decide +kernel
theorem dX2_up_1 : decode cX2_up 1 = .ok (.getfield 40, 3) := by decide +kernel
theorem dX2_up_4 : decode cX2_up 4 = .ok (.ireturn, 1) := by decide +kernel
theorem dX2_tries_0 : decode cX2_tries 0 = .ok (.iconst 0, 1) := by decide +kernel
theorem dX2_tries_1 : decode cX2_tries 1 = .ok (.aload_n 0, 1) := by decide +kernel
theorem dX2_tries_2 : decode cX2_tries 2 = .ok (.getfield 34, 3) := by decide +kernel
theorem dX2_tries_5 : decode cX2_tries 5 = .ok (.aload_n 0, 1) := by decide +kernel
theorem dX2_tries_6 : decode cX2_tries 6 = .ok (.getfield 22, 3) := by decide +kernel
theorem dX2_tries_9 : decode cX2_tries 9 = .ok (.invokevirtual 72, 3) := by decide +kernel
theorem dX2_tries_12 : decode cX2_tries 12 = .ok (.isub, 1) := by decide +kernel
theorem dX2_tries_13 : decode cX2_tries 13 = .ok (.invokestatic 75, 3) := by decide +kernel
theorem dX2_tries_16 : decode cX2_tries 16 = .ok (.ireturn, 1) := by decide +kernel
theorem dX2_puks_0 : decode cX2_puks 0 = .ok (.iconst 0, 1) := by decide +kernel
theorem dX2_puks_1 : decode cX2_puks 1 = .ok (.aload_n 0, 1) := by decide +kernel
theorem dX2_puks_2 : decode cX2_puks 2 = .ok (.getfield 37, 3) := by decide +kernel
theorem dX2_puks_5 : decode cX2_puks 5 = .ok (.aload_n 0, 1) := by decide +kernel
theorem dX2_puks_6 : decode cX2_puks 6 = .ok (.getfield 22, 3) := by decide +kernel
theorem dX2_puks_9 : decode cX2_puks 9 = .ok (.invokevirtual 54, 3) := by decide +kernel
theorem dX2_puks_12 : decode cX2_puks 12 = .ok (.isub, 1) := by decide +kernel
theorem dX2_puks_13 : decode cX2_puks 13 = .ok (.invokestatic 75, 3) := by decide +kernel
theorem dX2_puks_16 : decode cX2_puks 16 = .ok (.ireturn, 1) := by decide +kernel
theorem dX2_page_0 : decode cX2_page 0 = .ok (.aload_n 0, 1) := by decide +kernel
theorem dX2_page_1 : decode cX2_page 1 = .ok (.getfield 22, 3) := by decide +kernel
theorem dX2_page_4 : decode cX2_page 4 = .ok (.invokevirtual 80, 3) := by decide +kernel
theorem dX2_page_7 : decode cX2_page 7 = .ok (.ireturn, 1) := by decide +kernel
theorem dX2_generation_0 : decode cX2_generation 0 = .ok (.aload_n 0, 1) := by decide +kernel
theorem dX2_generation_1 : decode cX2_generation 1 = .ok (.getfield 22, 3) := by decide +kernel
theorem dX2_generation_4 : decode cX2_generation 4 = .ok (.invokevirtual 83, 3) := by decide +kernel
theorem dX2_generation_7 : decode cX2_generation 7 = .ok (.ireturn, 1) := by decide +kernel
theorem dX2_free_0 : decode cX2_free 0 = .ok (.aload_n 0, 1) := by decide +kernel
theorem dX2_free_1 : decode cX2_free 1 = .ok (.getfield 22, 3) := by decide +kernel
theorem dX2_free_4 : decode cX2_free 4 = .ok (.invokevirtual 86, 3) := by decide +kernel
theorem dX2_free_7 : decode cX2_free 7 = .ok (.ireturn, 1) := by decide +kernel
theorem dX2_operations_0 : decode cX2_operations 0 = .ok (.aload_n 0, 1) := by decide +kernel
theorem dX2_operations_1 : decode cX2_operations 1 = .ok (.getfield 10, 3) := by decide +kernel
theorem dX2_operations_4 : decode cX2_operations 4 = .ok (.invokevirtual 89, 3) := by decide +kernel
theorem dX2_operations_7 : decode cX2_operations 7 = .ok (.ireturn, 1) := by decide +kernel
theorem dX2_erased_0 : decode cX2_erased 0 = .ok (.aload_n 0, 1) := by decide +kernel
theorem dX2_erased_1 : decode cX2_erased 1 = .ok (.getfield 10, 3) := by decide +kernel
theorem dX2_erased_4 : decode cX2_erased 4 = .ok (.iload_n 1, 1) := by decide +kernel
theorem dX2_erased_5 : decode cX2_erased 5 = .ok (.invokevirtual 92, 3) := by decide +kernel
theorem dX2_erased_8 : decode cX2_erased 8 = .ok (.ireturn, 1) := by decide +kernel
theorem dX2_limitOr_0 : decode cX2_limitOr 0 = .ok (.iload_n 0, 1) := by decide +kernel
theorem dX2_limitOr_1 : decode cX2_limitOr 1 = .ok (.iconst 1, 1) := by decide +kernel
theorem dX2_limitOr_2 : decode cX2_limitOr 2 = .ok (.if_icmp .lt 13, 3) := by decide +kernel
theorem dX2_limitOr_5 : decode cX2_limitOr 5 = .ok (.iload_n 0, 1) := by decide +kernel
theorem dX2_limitOr_6 : decode cX2_limitOr 6 = .ok (.bipush 7, 2) := by decide +kernel
theorem dX2_limitOr_8 : decode cX2_limitOr 8 = .ok (.if_icmp .gt 7, 3) := by decide +kernel
theorem dX2_limitOr_11 : decode cX2_limitOr 11 = .ok (.iload_n 0, 1) := by decide +kernel
theorem dX2_limitOr_12 : decode cX2_limitOr 12 = .ok (.goto 4, 3) := by decide +kernel
theorem dX2_limitOr_15 : decode cX2_limitOr 15 = .ok (.iload_n 1, 1) := by decide +kernel
theorem dX2_limitOr_16 : decode cX2_limitOr 16 = .ok (.ireturn, 1) := by decide +kernel
theorem dX2_tryNumber_0 : decode cX2_tryNumber 0 = .ok (.aload_n 0, 1) := by decide +kernel
theorem dX2_tryNumber_1 : decode cX2_tryNumber 1 = .ok (.getfield 40, 3) := by decide +kernel
theorem dX2_tryNumber_4 : decode cX2_tryNumber 4 = .ok (.ifCond .ne 5, 3) := by decide +kernel
theorem dX2_tryNumber_7 : decode cX2_tryNumber 7 = .ok (.iconst (-1), 1) := by decide +kernel
theorem dX2_tryNumber_8 : decode cX2_tryNumber 8 = .ok (.ireturn, 1) := by decide +kernel
theorem dX2_tryNumber_9 : decode cX2_tryNumber 9 = .ok (.aload_n 0, 1) := by decide +kernel
theorem dX2_tryNumber_10 : decode cX2_tryNumber 10 = .ok (.getfield 22, 3) := by decide +kernel
theorem dX2_tryNumber_13 : decode cX2_tryNumber 13 = .ok (.invokevirtual 72, 3) := by decide +kernel
theorem dX2_tryNumber_16 : decode cX2_tryNumber 16 = .ok (.aload_n 0, 1) := by decide +kernel
theorem dX2_tryNumber_17 : decode cX2_tryNumber 17 = .ok (.getfield 34, 3) := by decide +kernel
theorem dX2_tryNumber_20 : decode cX2_tryNumber 20 = .ok (.if_icmp .lt 6, 3) := by decide +kernel
theorem dX2_tryNumber_23 : decode cX2_tryNumber 23 = .ok (.bipush (-2), 2) := by decide +kernel
theorem dX2_tryNumber_25 : decode cX2_tryNumber 25 = .ok (.ireturn, 1) := by decide +kernel
theorem dX2_tryNumber_26 : decode cX2_tryNumber 26 = .ok (.aload_n 0, 1) := by decide +kernel
theorem dX2_tryNumber_27 : decode cX2_tryNumber 27 = .ok (.iconst 0, 1) := by decide +kernel
theorem dX2_tryNumber_28 : decode cX2_tryNumber 28 = .ok (.putfield 44, 3) := by decide +kernel
theorem dX2_tryNumber_31 : decode cX2_tryNumber 31 = .ok (.aload_n 0, 1) := by decide +kernel
theorem dX2_tryNumber_32 : decode cX2_tryNumber 32 = .ok (.getfield 22, 3) := by decide +kernel
theorem dX2_tryNumber_35 : decode cX2_tryNumber 35 = .ok (.sipush 254, 3) := by decide +kernel
theorem dX2_tryNumber_38 : decode cX2_tryNumber 38 = .ok (.invokevirtual 65, 3) := by decide +kernel
theorem dX2_tryNumber_41 : decode cX2_tryNumber 41 = .ok (.istore_n 2, 1) := by decide +kernel
theorem dX2_tryNumber_42 : decode cX2_tryNumber 42 = .ok (.iload_n 2, 1) := by decide +kernel
theorem dX2_tryNumber_43 : decode cX2_tryNumber 43 = .ok (.iconst (-1), 1) := by decide +kernel
theorem dX2_tryNumber_44 : decode cX2_tryNumber 44 = .ok (.if_icmp .ne 8, 3) := by decide +kernel
theorem dX2_tryNumber_47 : decode cX2_tryNumber 47 = .ok (.aload_n 0, 1) := by decide +kernel
theorem dX2_tryNumber_48 : decode cX2_tryNumber 48 = .ok (.invokevirtual 62, 3) := by decide +kernel
theorem dX2_tryNumber_51 : decode cX2_tryNumber 51 = .ok (.ireturn, 1) := by decide +kernel
theorem dX2_tryNumber_52 : decode cX2_tryNumber 52 = .ok (.iload_n 1, 1) := by decide +kernel
theorem dX2_tryNumber_53 : decode cX2_tryNumber 53 = .ok (.aload_n 0, 1) := by decide +kernel
theorem dX2_tryNumber_54 : decode cX2_tryNumber 54 = .ok (.getfield 22, 3) := by decide +kernel
theorem dX2_tryNumber_57 : decode cX2_tryNumber 57 = .ok (.invokevirtual 95, 3) := by decide +kernel
theorem dX2_tryNumber_60 : decode cX2_tryNumber 60 = .ok (.if_icmp .eq 5, 3) := by decide +kernel
theorem dX2_tryNumber_63 : decode cX2_tryNumber 63 = .ok (.iconst 0, 1) := by decide +kernel
theorem dX2_tryNumber_64 : decode cX2_tryNumber 64 = .ok (.ireturn, 1) := by decide +kernel
theorem dX2_tryNumber_65 : decode cX2_tryNumber 65 = .ok (.aload_n 0, 1) := by decide +kernel
theorem dX2_tryNumber_66 : decode cX2_tryNumber 66 = .ok (.getfield 22, 3) := by decide +kernel
theorem dX2_tryNumber_69 : decode cX2_tryNumber 69 = .ok (.iload_n 2, 1) := by decide +kernel
theorem dX2_tryNumber_70 : decode cX2_tryNumber 70 = .ok (.sipush 253, 3) := by decide +kernel
theorem dX2_tryNumber_73 : decode cX2_tryNumber 73 = .ok (.invokevirtual 98, 3) := by decide +kernel
theorem dX2_tryNumber_76 : decode cX2_tryNumber 76 = .ok (.ifCond .eq 7, 3) := by decide +kernel
theorem dX2_tryNumber_79 : decode cX2_tryNumber 79 = .ok (.iconst 1, 1) := by decide +kernel
theorem dX2_tryNumber_80 : decode cX2_tryNumber 80 = .ok (.goto 7, 3) := by decide +kernel
theorem dX2_tryNumber_83 : decode cX2_tryNumber 83 = .ok (.aload_n 0, 1) := by decide +kernel
theorem dX2_tryNumber_84 : decode cX2_tryNumber 84 = .ok (.invokevirtual 62, 3) := by decide +kernel
theorem dX2_tryNumber_87 : decode cX2_tryNumber 87 = .ok (.ireturn, 1) := by decide +kernel
theorem dX2_losePower_0 : decode cX2_losePower 0 = .ok (.aload_n 0, 1) := by decide +kernel
theorem dX2_losePower_1 : decode cX2_losePower 1 = .ok (.iconst 0, 1) := by decide +kernel
theorem dX2_losePower_2 : decode cX2_losePower 2 = .ok (.putfield 40, 3) := by decide +kernel
theorem dX2_losePower_5 : decode cX2_losePower 5 = .ok (.aload_n 0, 1) := by decide +kernel
theorem dX2_losePower_6 : decode cX2_losePower 6 = .ok (.iconst 0, 1) := by decide +kernel
theorem dX2_losePower_7 : decode cX2_losePower 7 = .ok (.putfield 44, 3) := by decide +kernel
theorem dX2_losePower_10 : decode cX2_losePower 10 = .ok (.bipush (-3), 2) := by decide +kernel
theorem dX2_losePower_12 : decode cX2_losePower 12 = .ok (.ireturn, 1) := by decide +kernel
theorem dL_cell_0 : decode cL_cell 0 = .ok (.iload_n 1, 1) := by decide +kernel
theorem dL_cell_1 : decode cL_cell 1 = .ok (.aload_n 0, 1) := by decide +kernel
theorem dL_cell_2 : decode cL_cell 2 = .ok (.arraylength, 1) := by decide +kernel
theorem dL_cell_3 : decode cL_cell 3 = .ok (.if_icmp .ge 9, 3) := by decide +kernel
theorem dL_cell_6 : decode cL_cell 6 = .ok (.aload_n 0, 1) := by decide +kernel
theorem dL_cell_7 : decode cL_cell 7 = .ok (.iload_n 1, 1) := by decide +kernel
theorem dL_cell_8 : decode cL_cell 8 = .ok (.iaload, 1) := by decide +kernel
theorem dL_cell_9 : decode cL_cell 9 = .ok (.goto 4, 3) := by decide +kernel
theorem dL_cell_12 : decode cL_cell 12 = .ok (.iconst 0, 1) := by decide +kernel
theorem dL_cell_13 : decode cL_cell 13 = .ok (.ireturn, 1) := by decide +kernel
theorem dL_law_0 : decode cL_law 0 = .ok (.new 7, 3) := by decide +kernel
theorem dL_law_3 : decode cL_law 3 = .ok (.dup, 1) := by decide +kernel
theorem dL_law_4 : decode cL_law 4 = .ok (.aload_n 0, 1) := by decide +kernel
theorem dL_law_5 : decode cL_law 5 = .ok (.iconst 0, 1) := by decide +kernel
theorem dL_law_6 : decode cL_law 6 = .ok (.invokestatic 9, 3) := by decide +kernel
theorem dL_law_9 : decode cL_law 9 = .ok (.aload_n 0, 1) := by decide +kernel
theorem dL_law_10 : decode cL_law 10 = .ok (.iconst 1, 1) := by decide +kernel
theorem dL_law_11 : decode cL_law 11 = .ok (.invokestatic 9, 3) := by decide +kernel
theorem dL_law_14 : decode cL_law 14 = .ok (.aload_n 0, 1) := by decide +kernel
theorem dL_law_15 : decode cL_law 15 = .ok (.iconst 2, 1) := by decide +kernel
theorem dL_law_16 : decode cL_law 16 = .ok (.invokestatic 9, 3) := by decide +kernel
theorem dL_law_19 : decode cL_law 19 = .ok (.aload_n 0, 1) := by decide +kernel
theorem dL_law_20 : decode cL_law 20 = .ok (.iconst 3, 1) := by decide +kernel
theorem dL_law_21 : decode cL_law 21 = .ok (.invokestatic 9, 3) := by decide +kernel
theorem dL_law_24 : decode cL_law 24 = .ok (.invokespecial 15, 3) := by decide +kernel
theorem dL_law_27 : decode cL_law 27 = .ok (.astore_n 1, 1) := by decide +kernel
theorem dL_law_28 : decode cL_law 28 = .ok (.new 18, 3) := by decide +kernel
theorem dL_law_31 : decode cL_law 31 = .ok (.dup, 1) := by decide +kernel
theorem dL_law_32 : decode cL_law 32 = .ok (.aload_n 0, 1) := by decide +kernel
theorem dL_law_33 : decode cL_law 33 = .ok (.iconst 0, 1) := by decide +kernel
theorem dL_law_34 : decode cL_law 34 = .ok (.invokestatic 9, 3) := by decide +kernel
theorem dL_law_37 : decode cL_law 37 = .ok (.aload_n 0, 1) := by decide +kernel
theorem dL_law_38 : decode cL_law 38 = .ok (.iconst 1, 1) := by decide +kernel
theorem dL_law_39 : decode cL_law 39 = .ok (.invokestatic 9, 3) := by decide +kernel
theorem dL_law_42 : decode cL_law 42 = .ok (.aload_n 0, 1) := by decide +kernel
theorem dL_law_43 : decode cL_law 43 = .ok (.iconst 2, 1) := by decide +kernel
theorem dL_law_44 : decode cL_law 44 = .ok (.invokestatic 9, 3) := by decide +kernel
theorem dL_law_47 : decode cL_law 47 = .ok (.aload_n 0, 1) := by decide +kernel
theorem dL_law_48 : decode cL_law 48 = .ok (.iconst 3, 1) := by decide +kernel
theorem dL_law_49 : decode cL_law 49 = .ok (.invokestatic 9, 3) := by decide +kernel
theorem dL_law_52 : decode cL_law 52 = .ok (.invokespecial 20, 3) := by decide +kernel
theorem dL_law_55 : decode cL_law 55 = .ok (.astore_n 2, 1) := by decide +kernel
theorem dL_law_56 : decode cL_law 56 = .ok (.iconst 4, 1) := by decide +kernel
theorem dL_law_57 : decode cL_law 57 = .ok (.istore_n 3, 1) := by decide +kernel
theorem dL_law_58 : decode cL_law 58 = .ok (.iload_n 3, 1) := by decide +kernel
theorem dL_law_59 : decode cL_law 59 = .ok (.aload_n 0, 1) := by decide +kernel
theorem dL_law_60 : decode cL_law 60 = .ok (.arraylength, 1) := by decide +kernel
theorem dL_law_61 : decode cL_law 61 = .ok (.iconst 3, 1) := by decide +kernel
theorem dL_law_62 : decode cL_law 62 = .ok (.isub, 1) := by decide +kernel
theorem dL_law_63 : decode cL_law 63 = .ok (.if_icmp .gt 366, 3) := by decide +kernel
theorem dL_law_66 : decode cL_law 66 = .ok (.aload_n 0, 1) := by decide +kernel
theorem dL_law_67 : decode cL_law 67 = .ok (.iload_n 3, 1) := by decide +kernel
theorem dL_law_68 : decode cL_law 68 = .ok (.iaload, 1) := by decide +kernel
theorem dL_law_69 : decode cL_law 69 = .ok (.bipush 15, 2) := by decide +kernel
theorem dL_law_71 : decode cL_law 71 = .ok (.iand, 1) := by decide +kernel
theorem dL_law_72 : decode cL_law 72 = .ok (.tableswitch 351 0 14 #[76, 99, 132, 165, 198, 211, 224, 237, 250, 263, 276, 289, 302, 315, 328], 76) := by decide +kernel
theorem dL_law_148 : decode cL_law 148 = .ok (.aload_n 1, 1) := by decide +kernel
theorem dL_law_149 : decode cL_law 149 = .ok (.aload_n 0, 1) := by decide +kernel
theorem dL_law_150 : decode cL_law 150 = .ok (.iload_n 3, 1) := by decide +kernel
theorem dL_law_151 : decode cL_law 151 = .ok (.iconst 1, 1) := by decide +kernel
theorem dL_law_152 : decode cL_law 152 = .ok (.iadd, 1) := by decide +kernel
theorem dL_law_153 : decode cL_law 153 = .ok (.iaload, 1) := by decide +kernel
theorem dL_law_154 : decode cL_law 154 = .ok (.invokevirtual 21, 3) := by decide +kernel
theorem dL_law_157 : decode cL_law 157 = .ok (.aload_n 2, 1) := by decide +kernel
theorem dL_law_158 : decode cL_law 158 = .ok (.aload_n 0, 1) := by decide +kernel
theorem dL_law_159 : decode cL_law 159 = .ok (.iload_n 3, 1) := by decide +kernel
theorem dL_law_160 : decode cL_law 160 = .ok (.iconst 1, 1) := by decide +kernel
theorem dL_law_161 : decode cL_law 161 = .ok (.iadd, 1) := by decide +kernel
theorem dL_law_162 : decode cL_law 162 = .ok (.iaload, 1) := by decide +kernel
theorem dL_law_163 : decode cL_law 163 = .ok (.invokevirtual 25, 3) := by decide +kernel
theorem dL_law_166 : decode cL_law 166 = .ok (.if_icmp .eq 257, 3) := by decide +kernel
theorem dL_law_169 : decode cL_law 169 = .ok (.iconst 0, 1) := by decide +kernel
theorem dL_law_170 : decode cL_law 170 = .ok (.ireturn, 1) := by decide +kernel
theorem dL_law_171 : decode cL_law 171 = .ok (.aload_n 1, 1) := by decide +kernel
theorem dL_law_172 : decode cL_law 172 = .ok (.aload_n 0, 1) := by decide +kernel
theorem dL_law_173 : decode cL_law 173 = .ok (.iload_n 3, 1) := by decide +kernel
theorem dL_law_174 : decode cL_law 174 = .ok (.iconst 1, 1) := by decide +kernel
theorem dL_law_175 : decode cL_law 175 = .ok (.iadd, 1) := by decide +kernel
theorem dL_law_176 : decode cL_law 176 = .ok (.iaload, 1) := by decide +kernel
theorem dL_law_177 : decode cL_law 177 = .ok (.aload_n 0, 1) := by decide +kernel
theorem dL_law_178 : decode cL_law 178 = .ok (.iload_n 3, 1) := by decide +kernel
theorem dL_law_179 : decode cL_law 179 = .ok (.iconst 2, 1) := by decide +kernel
theorem dL_law_180 : decode cL_law 180 = .ok (.iadd, 1) := by decide +kernel
theorem dL_law_181 : decode cL_law 181 = .ok (.iaload, 1) := by decide +kernel
theorem dL_law_182 : decode cL_law 182 = .ok (.invokevirtual 26, 3) := by decide +kernel
theorem dL_law_185 : decode cL_law 185 = .ok (.aload_n 2, 1) := by decide +kernel
theorem dL_law_186 : decode cL_law 186 = .ok (.aload_n 0, 1) := by decide +kernel
theorem dL_law_187 : decode cL_law 187 = .ok (.iload_n 3, 1) := by decide +kernel
theorem dL_law_188 : decode cL_law 188 = .ok (.iconst 1, 1) := by decide +kernel
theorem dL_law_189 : decode cL_law 189 = .ok (.iadd, 1) := by decide +kernel
theorem dL_law_190 : decode cL_law 190 = .ok (.iaload, 1) := by decide +kernel
theorem dL_law_191 : decode cL_law 191 = .ok (.aload_n 0, 1) := by decide +kernel
theorem dL_law_192 : decode cL_law 192 = .ok (.iload_n 3, 1) := by decide +kernel
theorem dL_law_193 : decode cL_law 193 = .ok (.iconst 2, 1) := by decide +kernel
theorem dL_law_194 : decode cL_law 194 = .ok (.iadd, 1) := by decide +kernel
theorem dL_law_195 : decode cL_law 195 = .ok (.iaload, 1) := by decide +kernel
theorem dL_law_196 : decode cL_law 196 = .ok (.invokevirtual 30, 3) := by decide +kernel
theorem dL_law_199 : decode cL_law 199 = .ok (.if_icmp .eq 224, 3) := by decide +kernel
theorem dL_law_202 : decode cL_law 202 = .ok (.iconst 0, 1) := by decide +kernel
theorem dL_law_203 : decode cL_law 203 = .ok (.ireturn, 1) := by decide +kernel
theorem dL_law_204 : decode cL_law 204 = .ok (.aload_n 1, 1) := by decide +kernel
theorem dL_law_205 : decode cL_law 205 = .ok (.aload_n 0, 1) := by decide +kernel
theorem dL_law_206 : decode cL_law 206 = .ok (.iload_n 3, 1) := by decide +kernel
theorem dL_law_207 : decode cL_law 207 = .ok (.iconst 1, 1) := by decide +kernel
theorem dL_law_208 : decode cL_law 208 = .ok (.iadd, 1) := by decide +kernel
theorem dL_law_209 : decode cL_law 209 = .ok (.iaload, 1) := by decide +kernel
theorem dL_law_210 : decode cL_law 210 = .ok (.aload_n 0, 1) := by decide +kernel
theorem dL_law_211 : decode cL_law 211 = .ok (.iload_n 3, 1) := by decide +kernel
theorem dL_law_212 : decode cL_law 212 = .ok (.iconst 2, 1) := by decide +kernel
theorem dL_law_213 : decode cL_law 213 = .ok (.iadd, 1) := by decide +kernel
theorem dL_law_214 : decode cL_law 214 = .ok (.iaload, 1) := by decide +kernel
theorem dL_law_215 : decode cL_law 215 = .ok (.invokevirtual 31, 3) := by decide +kernel
theorem dL_law_218 : decode cL_law 218 = .ok (.aload_n 2, 1) := by decide +kernel
theorem dL_law_219 : decode cL_law 219 = .ok (.aload_n 0, 1) := by decide +kernel
theorem dL_law_220 : decode cL_law 220 = .ok (.iload_n 3, 1) := by decide +kernel
theorem dL_law_221 : decode cL_law 221 = .ok (.iconst 1, 1) := by decide +kernel
theorem dL_law_222 : decode cL_law 222 = .ok (.iadd, 1) := by decide +kernel
theorem dL_law_223 : decode cL_law 223 = .ok (.iaload, 1) := by decide +kernel
theorem dL_law_224 : decode cL_law 224 = .ok (.aload_n 0, 1) := by decide +kernel
theorem dL_law_225 : decode cL_law 225 = .ok (.iload_n 3, 1) := by decide +kernel
theorem dL_law_226 : decode cL_law 226 = .ok (.iconst 2, 1) := by decide +kernel
theorem dL_law_227 : decode cL_law 227 = .ok (.iadd, 1) := by decide +kernel
theorem dL_law_228 : decode cL_law 228 = .ok (.iaload, 1) := by decide +kernel
theorem dL_law_229 : decode cL_law 229 = .ok (.invokevirtual 34, 3) := by decide +kernel
theorem dL_law_232 : decode cL_law 232 = .ok (.if_icmp .eq 191, 3) := by decide +kernel
theorem dL_law_235 : decode cL_law 235 = .ok (.iconst 0, 1) := by decide +kernel
theorem dL_law_236 : decode cL_law 236 = .ok (.ireturn, 1) := by decide +kernel
theorem dL_law_237 : decode cL_law 237 = .ok (.aload_n 1, 1) := by decide +kernel
theorem dL_law_238 : decode cL_law 238 = .ok (.aload_n 0, 1) := by decide +kernel
theorem dL_law_239 : decode cL_law 239 = .ok (.iload_n 3, 1) := by decide +kernel
theorem dL_law_240 : decode cL_law 240 = .ok (.iconst 1, 1) := by decide +kernel
theorem dL_law_241 : decode cL_law 241 = .ok (.iadd, 1) := by decide +kernel
theorem dL_law_242 : decode cL_law 242 = .ok (.iaload, 1) := by decide +kernel
theorem dL_law_243 : decode cL_law 243 = .ok (.aload_n 0, 1) := by decide +kernel
theorem dL_law_244 : decode cL_law 244 = .ok (.iload_n 3, 1) := by decide +kernel
theorem dL_law_245 : decode cL_law 245 = .ok (.iconst 2, 1) := by decide +kernel
theorem dL_law_246 : decode cL_law 246 = .ok (.iadd, 1) := by decide +kernel
theorem dL_law_247 : decode cL_law 247 = .ok (.iaload, 1) := by decide +kernel
theorem dL_law_248 : decode cL_law 248 = .ok (.invokevirtual 35, 3) := by decide +kernel
theorem dL_law_251 : decode cL_law 251 = .ok (.aload_n 2, 1) := by decide +kernel
theorem dL_law_252 : decode cL_law 252 = .ok (.aload_n 0, 1) := by decide +kernel
theorem dL_law_253 : decode cL_law 253 = .ok (.iload_n 3, 1) := by decide +kernel
theorem dL_law_254 : decode cL_law 254 = .ok (.iconst 1, 1) := by decide +kernel
theorem dL_law_255 : decode cL_law 255 = .ok (.iadd, 1) := by decide +kernel
theorem dL_law_256 : decode cL_law 256 = .ok (.iaload, 1) := by decide +kernel
theorem dL_law_257 : decode cL_law 257 = .ok (.aload_n 0, 1) := by decide +kernel
theorem dL_law_258 : decode cL_law 258 = .ok (.iload_n 3, 1) := by decide +kernel
theorem dL_law_259 : decode cL_law 259 = .ok (.iconst 2, 1) := by decide +kernel
theorem dL_law_260 : decode cL_law 260 = .ok (.iadd, 1) := by decide +kernel
theorem dL_law_261 : decode cL_law 261 = .ok (.iaload, 1) := by decide +kernel
theorem dL_law_262 : decode cL_law 262 = .ok (.invokevirtual 39, 3) := by decide +kernel
theorem dL_law_265 : decode cL_law 265 = .ok (.if_icmp .eq 158, 3) := by decide +kernel
theorem dL_law_268 : decode cL_law 268 = .ok (.iconst 0, 1) := by decide +kernel
theorem dL_law_269 : decode cL_law 269 = .ok (.ireturn, 1) := by decide +kernel
theorem dL_law_270 : decode cL_law 270 = .ok (.aload_n 1, 1) := by decide +kernel
theorem dL_law_271 : decode cL_law 271 = .ok (.invokevirtual 40, 3) := by decide +kernel
theorem dL_law_274 : decode cL_law 274 = .ok (.aload_n 2, 1) := by decide +kernel
theorem dL_law_275 : decode cL_law 275 = .ok (.invokevirtual 44, 3) := by decide +kernel
theorem dL_law_278 : decode cL_law 278 = .ok (.if_icmp .eq 145, 3) := by decide +kernel
theorem dL_law_281 : decode cL_law 281 = .ok (.iconst 0, 1) := by decide +kernel
theorem dL_law_282 : decode cL_law 282 = .ok (.ireturn, 1) := by decide +kernel
theorem dL_law_283 : decode cL_law 283 = .ok (.aload_n 1, 1) := by decide +kernel
theorem dL_law_284 : decode cL_law 284 = .ok (.invokevirtual 45, 3) := by decide +kernel
theorem dL_law_287 : decode cL_law 287 = .ok (.aload_n 2, 1) := by decide +kernel
theorem dL_law_288 : decode cL_law 288 = .ok (.invokevirtual 48, 3) := by decide +kernel
theorem dL_law_291 : decode cL_law 291 = .ok (.if_icmp .eq 132, 3) := by decide +kernel
theorem dL_law_294 : decode cL_law 294 = .ok (.iconst 0, 1) := by decide +kernel
theorem dL_law_295 : decode cL_law 295 = .ok (.ireturn, 1) := by decide +kernel
theorem dL_law_296 : decode cL_law 296 = .ok (.aload_n 1, 1) := by decide +kernel
theorem dL_law_297 : decode cL_law 297 = .ok (.invokevirtual 49, 3) := by decide +kernel
theorem dL_law_300 : decode cL_law 300 = .ok (.aload_n 2, 1) := by decide +kernel
theorem dL_law_301 : decode cL_law 301 = .ok (.invokevirtual 52, 3) := by decide +kernel
theorem dL_law_304 : decode cL_law 304 = .ok (.if_icmp .eq 119, 3) := by decide +kernel
theorem dL_law_307 : decode cL_law 307 = .ok (.iconst 0, 1) := by decide +kernel
theorem dL_law_308 : decode cL_law 308 = .ok (.ireturn, 1) := by decide +kernel
theorem dL_law_309 : decode cL_law 309 = .ok (.aload_n 1, 1) := by decide +kernel
theorem dL_law_310 : decode cL_law 310 = .ok (.invokevirtual 53, 3) := by decide +kernel
theorem dL_law_313 : decode cL_law 313 = .ok (.aload_n 2, 1) := by decide +kernel
theorem dL_law_314 : decode cL_law 314 = .ok (.invokevirtual 56, 3) := by decide +kernel
theorem dL_law_317 : decode cL_law 317 = .ok (.if_icmp .eq 106, 3) := by decide +kernel
theorem dL_law_320 : decode cL_law 320 = .ok (.iconst 0, 1) := by decide +kernel
theorem dL_law_321 : decode cL_law 321 = .ok (.ireturn, 1) := by decide +kernel
theorem dL_law_322 : decode cL_law 322 = .ok (.aload_n 1, 1) := by decide +kernel
theorem dL_law_323 : decode cL_law 323 = .ok (.invokevirtual 57, 3) := by decide +kernel
theorem dL_law_326 : decode cL_law 326 = .ok (.aload_n 2, 1) := by decide +kernel
theorem dL_law_327 : decode cL_law 327 = .ok (.invokevirtual 61, 3) := by decide +kernel
theorem dL_law_330 : decode cL_law 330 = .ok (.if_icmp .eq 93, 3) := by decide +kernel
theorem dL_law_333 : decode cL_law 333 = .ok (.iconst 0, 1) := by decide +kernel
theorem dL_law_334 : decode cL_law 334 = .ok (.ireturn, 1) := by decide +kernel
theorem dL_law_335 : decode cL_law 335 = .ok (.aload_n 1, 1) := by decide +kernel
theorem dL_law_336 : decode cL_law 336 = .ok (.invokevirtual 62, 3) := by decide +kernel
theorem dL_law_339 : decode cL_law 339 = .ok (.aload_n 2, 1) := by decide +kernel
theorem dL_law_340 : decode cL_law 340 = .ok (.invokevirtual 65, 3) := by decide +kernel
theorem dL_law_343 : decode cL_law 343 = .ok (.if_icmp .eq 80, 3) := by decide +kernel
theorem dL_law_346 : decode cL_law 346 = .ok (.iconst 0, 1) := by decide +kernel
theorem dL_law_347 : decode cL_law 347 = .ok (.ireturn, 1) := by decide +kernel
theorem dL_law_348 : decode cL_law 348 = .ok (.aload_n 1, 1) := by decide +kernel
theorem dL_law_349 : decode cL_law 349 = .ok (.invokevirtual 66, 3) := by decide +kernel
theorem dL_law_352 : decode cL_law 352 = .ok (.aload_n 2, 1) := by decide +kernel
theorem dL_law_353 : decode cL_law 353 = .ok (.invokevirtual 69, 3) := by decide +kernel
theorem dL_law_356 : decode cL_law 356 = .ok (.if_icmp .eq 67, 3) := by decide +kernel
theorem dL_law_359 : decode cL_law 359 = .ok (.iconst 0, 1) := by decide +kernel
theorem dL_law_360 : decode cL_law 360 = .ok (.ireturn, 1) := by decide +kernel
theorem dL_law_361 : decode cL_law 361 = .ok (.aload_n 1, 1) := by decide +kernel
theorem dL_law_362 : decode cL_law 362 = .ok (.invokevirtual 70, 3) := by decide +kernel
theorem dL_law_365 : decode cL_law 365 = .ok (.aload_n 2, 1) := by decide +kernel
theorem dL_law_366 : decode cL_law 366 = .ok (.invokevirtual 73, 3) := by decide +kernel
theorem dL_law_369 : decode cL_law 369 = .ok (.if_icmp .eq 54, 3) := by decide +kernel
theorem dL_law_372 : decode cL_law 372 = .ok (.iconst 0, 1) := by decide +kernel
theorem dL_law_373 : decode cL_law 373 = .ok (.ireturn, 1) := by decide +kernel
theorem dL_law_374 : decode cL_law 374 = .ok (.aload_n 1, 1) := by decide +kernel
theorem dL_law_375 : decode cL_law 375 = .ok (.invokevirtual 74, 3) := by decide +kernel
theorem dL_law_378 : decode cL_law 378 = .ok (.aload_n 2, 1) := by decide +kernel
theorem dL_law_379 : decode cL_law 379 = .ok (.invokevirtual 77, 3) := by decide +kernel
theorem dL_law_382 : decode cL_law 382 = .ok (.if_icmp .eq 41, 3) := by decide +kernel
theorem dL_law_385 : decode cL_law 385 = .ok (.iconst 0, 1) := by decide +kernel
theorem dL_law_386 : decode cL_law 386 = .ok (.ireturn, 1) := by decide +kernel
theorem dL_law_387 : decode cL_law 387 = .ok (.aload_n 1, 1) := by decide +kernel
theorem dL_law_388 : decode cL_law 388 = .ok (.invokevirtual 78, 3) := by decide +kernel
theorem dL_law_391 : decode cL_law 391 = .ok (.aload_n 2, 1) := by decide +kernel
theorem dL_law_392 : decode cL_law 392 = .ok (.invokevirtual 81, 3) := by decide +kernel
theorem dL_law_395 : decode cL_law 395 = .ok (.if_icmp .eq 28, 3) := by decide +kernel
theorem dL_law_398 : decode cL_law 398 = .ok (.iconst 0, 1) := by decide +kernel
theorem dL_law_399 : decode cL_law 399 = .ok (.ireturn, 1) := by decide +kernel
theorem dL_law_400 : decode cL_law 400 = .ok (.aload_n 1, 1) := by decide +kernel
theorem dL_law_401 : decode cL_law 401 = .ok (.aload_n 0, 1) := by decide +kernel
theorem dL_law_402 : decode cL_law 402 = .ok (.iload_n 3, 1) := by decide +kernel
theorem dL_law_403 : decode cL_law 403 = .ok (.iconst 1, 1) := by decide +kernel
theorem dL_law_404 : decode cL_law 404 = .ok (.iadd, 1) := by decide +kernel
theorem dL_law_405 : decode cL_law 405 = .ok (.iaload, 1) := by decide +kernel
theorem dL_law_406 : decode cL_law 406 = .ok (.invokevirtual 82, 3) := by decide +kernel
theorem dL_law_409 : decode cL_law 409 = .ok (.aload_n 2, 1) := by decide +kernel
theorem dL_law_410 : decode cL_law 410 = .ok (.aload_n 0, 1) := by decide +kernel
theorem dL_law_411 : decode cL_law 411 = .ok (.iload_n 3, 1) := by decide +kernel
theorem dL_law_412 : decode cL_law 412 = .ok (.iconst 1, 1) := by decide +kernel
theorem dL_law_413 : decode cL_law 413 = .ok (.iadd, 1) := by decide +kernel
theorem dL_law_414 : decode cL_law 414 = .ok (.iaload, 1) := by decide +kernel
theorem dL_law_415 : decode cL_law 415 = .ok (.invokevirtual 85, 3) := by decide +kernel
theorem dL_law_418 : decode cL_law 418 = .ok (.if_icmp .eq 5, 3) := by decide +kernel
theorem dL_law_421 : decode cL_law 421 = .ok (.iconst 0, 1) := by decide +kernel
theorem dL_law_422 : decode cL_law 422 = .ok (.ireturn, 1) := by decide +kernel
theorem dL_law_423 : decode cL_law 423 = .ok (.iinc 3 3, 3) := by decide +kernel
theorem dL_law_426 : decode cL_law 426 = .ok (.goto (-368), 3) := by decide +kernel
theorem dL_law_429 : decode cL_law 429 = .ok (.iconst 1, 1) := by decide +kernel
theorem dL_law_430 : decode cL_law 430 = .ok (.ireturn, 1) := by decide +kernel
end
section
set_option maxRecDepth 20000 in
theorem ggX0_program_X0_countOperation : GoodIn wsX0_program wsX0_countOperation := goodIn_r _ [7, 8, 9, 10, 11, 12, 13, 14] (by decide +kernel) (by decide +kernel)
set_option maxRecDepth 20000 in
theorem gX0_program_X0_countOperation : GoodIn wsX0_program (wsV RX0 26 RX0 yX0_countOperation wsX0_countOperation) := goodIn_app (goodIn_of _ (by decide +kernel)) ggX0_program_X0_countOperation
set_option maxRecDepth 20000 in
theorem ggX0_erase_X0_countOperation : GoodIn wsX0_erase wsX0_countOperation := goodIn_r _ [8, 9, 10, 14, 15, 16, 17, 18] (by decide +kernel) (by decide +kernel)
set_option maxRecDepth 20000 in
theorem gX0_erase_X0_countOperation : GoodIn wsX0_erase (wsV RX0 26 RX0 yX0_countOperation wsX0_countOperation) := goodIn_app (goodIn_of _ (by decide +kernel)) ggX0_erase_X0_countOperation
set_option maxRecDepth 20000 in
theorem ggX0_erase_X0_isPage : GoodIn wsX0_erase wsX0_isPage := goodIn_r _ [13] (by decide +kernel) (by decide +kernel)
set_option maxRecDepth 20000 in
theorem gX0_erase_X0_isPage : GoodIn wsX0_erase (va_wsS RX0 30 yX0_isPage wsX0_isPage) := goodIn_app (goodIn_of _ (by decide +kernel)) ggX0_erase_X0_isPage
set_option maxRecDepth 20000 in
theorem ggX0_eraseCount_X0_isPage : GoodIn wsX0_eraseCount wsX0_isPage := goodIn_r _ [5] (by decide +kernel) (by decide +kernel)
set_option maxRecDepth 20000 in
theorem gX0_eraseCount_X0_isPage : GoodIn wsX0_eraseCount (va_wsS RX0 30 yX0_isPage wsX0_isPage) := goodIn_app (goodIn_of _ (by decide +kernel)) ggX0_eraseCount_X0_isPage
set_option maxRecDepth 20000 in
theorem ggX1_init_X0_preset : GoodIn wsX1_init wsX0_preset := goodIn_r _ [9, 10, 12, 13, 14, 15, 16] (by decide +kernel) (by decide +kernel)
set_option maxRecDepth 20000 in
theorem gX1_init_X0_preset : GoodIn wsX1_init (wsV RX1 13 RX0 yX0_preset wsX0_preset) := goodIn_app (goodIn_of _ (by decide +kernel)) ggX1_init_X0_preset
set_option maxRecDepth 20000 in
theorem ggX1_active_X1_isGood : GoodIn wsX1_active wsX1_isGood := goodIn_r _ [6, 1, 7, 8, 9, 10, 11, 12, 17, 18, 19, 20, 21, 22] (by decide +kernel) (by decide +kernel)
set_option maxRecDepth 20000 in
theorem gX1_active_X1_isGood : GoodIn wsX1_active (wsV RX1 19 RX1 yX1_isGood wsX1_isGood) := goodIn_app (goodIn_of _ (by decide +kernel)) ggX1_active_X1_isGood
set_option maxRecDepth 20000 in
theorem ggX1_active_X0_read : GoodIn wsX1_active wsX0_read := goodIn_r _ [11, 12, 18, 19, 20, 21, 22] (by decide +kernel) (by decide +kernel)
set_option maxRecDepth 20000 in
theorem gX1_active_X0_read : GoodIn wsX1_active (wsV RX1 23 RX0 yX0_read wsX0_read) := goodIn_app (goodIn_of _ (by decide +kernel)) ggX1_active_X0_read
set_option maxRecDepth 20000 in
theorem ggX1_active_X1_generationAfter : GoodIn wsX1_active wsX1_generationAfter := goodIn_r _ [16, 1, 7, 8, 9, 10, 11, 12, 17, 18, 19, 20, 21, 22] (by decide +kernel) (by decide +kernel)
set_option maxRecDepth 20000 in
theorem gX1_active_X1_generationAfter : GoodIn wsX1_active (wsV RX1 27 RX1 yX1_generationAfter wsX1_generationAfter) := goodIn_app (goodIn_of _ (by decide +kernel)) ggX1_active_X1_generationAfter
set_option maxRecDepth 20000 in
theorem ggX1_activeGeneration_X1_active : GoodIn wsX1_activeGeneration wsX1_active := goodIn_r _ [6, 1, 7, 8, 9, 5, 10, 11, 12, 13, 14, 15, 16, 17, 18, 19, 20, 21, 22, 23, 24, 25, 26] (by decide +kernel) (by decide +kernel)
set_option maxRecDepth 20000 in
theorem gX1_activeGeneration_X1_active : GoodIn wsX1_activeGeneration (wsV RX1 31 RX1 yX1_active wsX1_active) := goodIn_app (goodIn_of _ (by decide +kernel)) ggX1_activeGeneration_X1_active
set_option maxRecDepth 20000 in
theorem ggX1_activeGeneration_X0_read : GoodIn wsX1_activeGeneration wsX0_read := goodIn_r _ [15, 16, 22, 23, 24, 25, 26] (by decide +kernel) (by decide +kernel)
set_option maxRecDepth 20000 in
theorem gX1_activeGeneration_X0_read : GoodIn wsX1_activeGeneration (wsV RX1 23 RX0 yX0_read wsX0_read) := goodIn_app (goodIn_of _ (by decide +kernel)) ggX1_activeGeneration_X0_read
set_option maxRecDepth 20000 in
theorem ggX1_pin_X1_active : GoodIn wsX1_pin wsX1_active := goodIn_r _ [6, 1, 7, 8, 9, 5, 10, 11, 12, 13, 14, 15, 16, 17, 18, 19, 20, 21, 22, 23, 24, 25, 26] (by decide +kernel) (by decide +kernel)
set_option maxRecDepth 20000 in
theorem gX1_pin_X1_active : GoodIn wsX1_pin (wsV RX1 31 RX1 yX1_active wsX1_active) := goodIn_app (goodIn_of _ (by decide +kernel)) ggX1_pin_X1_active
set_option maxRecDepth 20000 in
theorem ggX1_pin_X0_read : GoodIn wsX1_pin wsX0_read := goodIn_r _ [15, 16, 22, 23, 24, 25, 26] (by decide +kernel) (by decide +kernel)
set_option maxRecDepth 20000 in
theorem gX1_pin_X0_read : GoodIn wsX1_pin (wsV RX1 23 RX0 yX0_read wsX0_read) := goodIn_app (goodIn_of _ (by decide +kernel)) ggX1_pin_X0_read
set_option maxRecDepth 20000 in
theorem ggX1_pinTriesUsed_X1_active : GoodIn wsX1_pinTriesUsed wsX1_active := goodIn_r _ [6, 1, 7, 8, 9, 5, 10, 11, 12, 13, 14, 15, 16, 17, 18, 19, 20, 21, 22, 23, 24, 25, 26] (by decide +kernel) (by decide +kernel)
set_option maxRecDepth 20000 in
theorem gX1_pinTriesUsed_X1_active : GoodIn wsX1_pinTriesUsed (wsV RX1 31 RX1 yX1_active wsX1_active) := goodIn_app (goodIn_of _ (by decide +kernel)) ggX1_pinTriesUsed_X1_active
set_option maxRecDepth 20000 in
theorem ggX1_pinTriesUsed_X0_read : GoodIn wsX1_pinTriesUsed wsX0_read := goodIn_r _ [15, 16, 22, 23, 24, 25, 26] (by decide +kernel) (by decide +kernel)
set_option maxRecDepth 20000 in
theorem gX1_pinTriesUsed_X0_read : GoodIn wsX1_pinTriesUsed (wsV RX1 23 RX0 yX0_read wsX0_read) := goodIn_app (goodIn_of _ (by decide +kernel)) ggX1_pinTriesUsed_X0_read
set_option maxRecDepth 20000 in
theorem ggX1_pukTriesUsed_X1_active : GoodIn wsX1_pukTriesUsed wsX1_active := goodIn_r _ [6, 1, 7, 8, 9, 5, 10, 11, 12, 13, 14, 15, 16, 17, 18, 19, 20, 21, 22, 23, 24, 25, 26] (by decide +kernel) (by decide +kernel)
set_option maxRecDepth 20000 in
theorem gX1_pukTriesUsed_X1_active : GoodIn wsX1_pukTriesUsed (wsV RX1 31 RX1 yX1_active wsX1_active) := goodIn_app (goodIn_of _ (by decide +kernel)) ggX1_pukTriesUsed_X1_active
set_option maxRecDepth 20000 in
theorem ggX1_pukTriesUsed_X0_read : GoodIn wsX1_pukTriesUsed wsX0_read := goodIn_r _ [15, 16, 22, 23, 24, 25, 26] (by decide +kernel) (by decide +kernel)
set_option maxRecDepth 20000 in
theorem gX1_pukTriesUsed_X0_read : GoodIn wsX1_pukTriesUsed (wsV RX1 23 RX0 yX0_read wsX0_read) := goodIn_app (goodIn_of _ (by decide +kernel)) ggX1_pukTriesUsed_X0_read
set_option maxRecDepth 20000 in
theorem ggX1_freeEntries_X1_active : GoodIn wsX1_freeEntries wsX1_active := goodIn_r _ [6, 1, 7, 8, 9, 5, 10, 11, 12, 13, 14, 15, 16, 17, 18, 19, 20, 21, 22, 23, 24, 25, 26] (by decide +kernel) (by decide +kernel)
set_option maxRecDepth 20000 in
theorem gX1_freeEntries_X1_active : GoodIn wsX1_freeEntries (wsV RX1 31 RX1 yX1_active wsX1_active) := goodIn_app (goodIn_of _ (by decide +kernel)) ggX1_freeEntries_X1_active
set_option maxRecDepth 20000 in
theorem ggX1_freeEntries_X0_read : GoodIn wsX1_freeEntries wsX0_read := goodIn_r _ [15, 16, 22, 23, 24, 25, 26] (by decide +kernel) (by decide +kernel)
set_option maxRecDepth 20000 in
theorem gX1_freeEntries_X0_read : GoodIn wsX1_freeEntries (wsV RX1 23 RX0 yX0_read wsX0_read) := goodIn_app (goodIn_of _ (by decide +kernel)) ggX1_freeEntries_X0_read
set_option maxRecDepth 20000 in
theorem ggX1_mark_X1_firstFreeEntry : GoodIn wsX1_mark wsX1_firstFreeEntry := goodIn_r _ [6, 1, 7, 8, 9, 5, 10, 11, 12, 13, 14, 15, 16, 17, 18, 19, 20, 21, 22, 23, 24, 60, 61, 62, 63, 64, 65] (by decide +kernel) (by decide +kernel)
set_option maxRecDepth 20000 in
theorem gX1_mark_X1_firstFreeEntry : GoodIn wsX1_mark (wsV RX1 35 RX1 yX1_firstFreeEntry wsX1_firstFreeEntry) := goodIn_app (goodIn_of _ (by decide +kernel)) ggX1_mark_X1_firstFreeEntry
set_option maxRecDepth 20000 in
theorem ggX1_mark_X1_pin : GoodIn wsX1_mark wsX1_pin := goodIn_r _ [28, 1, 7, 8, 9, 5, 10, 11, 12, 13, 14, 15, 16, 17, 18, 19, 20, 21, 22, 23, 24, 60, 61, 62, 63, 64, 65] (by decide +kernel) (by decide +kernel)
set_option maxRecDepth 20000 in
theorem gX1_mark_X1_pin : GoodIn wsX1_mark (wsV RX1 38 RX1 yX1_pin wsX1_pin) := goodIn_app (goodIn_of _ (by decide +kernel)) ggX1_mark_X1_pin
set_option maxRecDepth 20000 in
theorem ggX1_mark_X1_pinTriesUsed : GoodIn wsX1_mark wsX1_pinTriesUsed := goodIn_r _ [32, 1, 7, 8, 9, 5, 10, 11, 12, 13, 14, 15, 16, 17, 18, 19, 20, 21, 22, 23, 24, 60, 61, 62, 63, 64, 65] (by decide +kernel) (by decide +kernel)
set_option maxRecDepth 20000 in
theorem gX1_mark_X1_pinTriesUsed : GoodIn wsX1_mark (wsV RX1 41 RX1 yX1_pinTriesUsed wsX1_pinTriesUsed) := goodIn_app (goodIn_of _ (by decide +kernel)) ggX1_mark_X1_pinTriesUsed
set_option maxRecDepth 20000 in
theorem ggX1_mark_X1_pukTriesUsed : GoodIn wsX1_mark wsX1_pukTriesUsed := goodIn_r _ [36, 1, 7, 8, 9, 5, 10, 11, 12, 13, 14, 15, 16, 17, 18, 19, 20, 21, 22, 23, 24, 60, 61, 62, 63, 64, 65] (by decide +kernel) (by decide +kernel)
set_option maxRecDepth 20000 in
theorem gX1_mark_X1_pukTriesUsed : GoodIn wsX1_mark (wsV RX1 44 RX1 yX1_pukTriesUsed wsX1_pukTriesUsed) := goodIn_app (goodIn_of _ (by decide +kernel)) ggX1_mark_X1_pukTriesUsed
set_option maxRecDepth 20000 in
theorem ggX1_mark_X1_turn : GoodIn wsX1_mark wsX1_turn := goodIn_r _ [40, 1, 7, 8, 9, 5, 10, 11, 12, 13, 14, 15, 16, 17, 18, 19, 20, 21, 22, 23, 24, 41, 42, 43, 44, 45, 46, 47, 48, 49, 50, 51, 52, 53, 54, 55, 56, 57, 58, 59, 60, 61, 62, 63, 64, 65] (by decide +kernel) (by decide +kernel)
set_option maxRecDepth 20000 in
theorem gX1_mark_X1_turn : GoodIn wsX1_mark (wsV RX1 47 RX1 yX1_turn wsX1_turn) := goodIn_app (goodIn_of _ (by decide +kernel)) ggX1_mark_X1_turn
set_option maxRecDepth 20000 in
theorem ggX1_mark_X1_active : GoodIn wsX1_mark wsX1_active := goodIn_r _ [10, 1, 11, 12, 13, 5, 14, 15, 16, 17, 18, 19, 20, 21, 22, 23, 24, 60, 61, 62, 63, 64, 65] (by decide +kernel) (by decide +kernel)
set_option maxRecDepth 20000 in
theorem gX1_mark_X1_active : GoodIn wsX1_mark (wsV RX1 31 RX1 yX1_active wsX1_active) := goodIn_app (goodIn_of _ (by decide +kernel)) ggX1_mark_X1_active
set_option maxRecDepth 20000 in
theorem ggX1_mark_X0_program : GoodIn wsX1_mark wsX0_program := goodIn_r _ [44, 45, 20, 46, 47, 48, 18, 49, 50, 51, 61, 62, 63, 64, 65] (by decide +kernel) (by decide +kernel)
set_option maxRecDepth 20000 in
theorem gX1_mark_X0_program : GoodIn wsX1_mark (wsV RX1 51 RX0 yX0_program wsX0_program) := goodIn_app (goodIn_of _ (by decide +kernel)) ggX1_mark_X0_program
set_option maxRecDepth 20000 in
theorem ggX1_remark_X1_active : GoodIn wsX1_remark wsX1_active := goodIn_r _ [6, 1, 7, 8, 9, 5, 10, 11, 12, 13, 14, 15, 16, 17, 18, 19, 20, 32, 33, 34, 35, 36, 37] (by decide +kernel) (by decide +kernel)
set_option maxRecDepth 20000 in
theorem gX1_remark_X1_active : GoodIn wsX1_remark (wsV RX1 31 RX1 yX1_active wsX1_active) := goodIn_app (goodIn_of _ (by decide +kernel)) ggX1_remark_X1_active
set_option maxRecDepth 20000 in
theorem ggX1_remark_X0_program : GoodIn wsX1_remark wsX0_program := goodIn_r _ [24, 25, 16, 26, 27, 28, 14, 29, 30, 31, 33, 34, 35, 36, 37] (by decide +kernel) (by decide +kernel)
set_option maxRecDepth 20000 in
theorem gX1_remark_X0_program : GoodIn wsX1_remark (wsV RX1 51 RX0 yX0_program wsX0_program) := goodIn_app (goodIn_of _ (by decide +kernel)) ggX1_remark_X0_program
set_option maxRecDepth 20000 in
theorem ggX1_turn_X1_active : GoodIn wsX1_turn wsX1_active := goodIn_r _ [6, 1, 7, 8, 9, 5, 10, 11, 12, 13, 14, 15, 16, 17, 18, 19, 20, 40, 41, 42, 43, 44, 45] (by decide +kernel) (by decide +kernel)
set_option maxRecDepth 20000 in
theorem gX1_turn_X1_active : GoodIn wsX1_turn (wsV RX1 31 RX1 yX1_active wsX1_active) := goodIn_app (goodIn_of _ (by decide +kernel)) ggX1_turn_X1_active
set_option maxRecDepth 20000 in
theorem ggX1_turn_X1_isGood : GoodIn wsX1_turn wsX1_isGood := goodIn_r _ [10, 1, 11, 12, 13, 14, 15, 16, 40, 41, 42, 43, 44, 45] (by decide +kernel) (by decide +kernel)
set_option maxRecDepth 20000 in
theorem gX1_turn_X1_isGood : GoodIn wsX1_turn (wsV RX1 19 RX1 yX1_isGood wsX1_isGood) := goodIn_app (goodIn_of _ (by decide +kernel)) ggX1_turn_X1_isGood
set_option maxRecDepth 20000 in
theorem ggX1_turn_X0_program : GoodIn wsX1_turn wsX0_program := goodIn_r _ [24, 25, 16, 26, 27, 28, 14, 29, 30, 31, 41, 42, 43, 44, 45] (by decide +kernel) (by decide +kernel)
set_option maxRecDepth 20000 in
theorem gX1_turn_X0_program : GoodIn wsX1_turn (wsV RX1 51 RX0 yX0_program wsX0_program) := goodIn_app (goodIn_of _ (by decide +kernel)) ggX1_turn_X0_program
set_option maxRecDepth 20000 in
theorem ggX1_turn_X0_erase : GoodIn wsX1_turn wsX0_erase := goodIn_r _ [35, 25, 36, 16, 26, 27, 28, 14, 29, 30, 31, 37, 38, 39, 41, 42, 43, 44, 45] (by decide +kernel) (by decide +kernel)
set_option maxRecDepth 20000 in
theorem gX1_turn_X0_erase : GoodIn wsX1_turn (wsV RX1 54 RX0 yX0_erase wsX0_erase) := goodIn_app (goodIn_of _ (by decide +kernel)) ggX1_turn_X0_erase
set_option maxRecDepth 20000 in
theorem ggX1_turn_X1_generationAfter : GoodIn wsX1_turn wsX1_generationAfter := goodIn_r _ [20, 1, 11, 12, 13, 14, 15, 16, 40, 41, 42, 43, 44, 45] (by decide +kernel) (by decide +kernel)
set_option maxRecDepth 20000 in
theorem gX1_turn_X1_generationAfter : GoodIn wsX1_turn (wsV RX1 27 RX1 yX1_generationAfter wsX1_generationAfter) := goodIn_app (goodIn_of _ (by decide +kernel)) ggX1_turn_X1_generationAfter
set_option maxRecDepth 20000 in
theorem ggX1_isGood_X0_read : GoodIn wsX1_isGood wsX0_read := goodIn_r _ [6, 7, 9, 10, 11, 12, 13] (by decide +kernel) (by decide +kernel)
set_option maxRecDepth 20000 in
theorem gX1_isGood_X0_read : GoodIn wsX1_isGood (wsV RX1 23 RX0 yX0_read wsX0_read) := goodIn_app (goodIn_of _ (by decide +kernel)) ggX1_isGood_X0_read
set_option maxRecDepth 20000 in
theorem ggX1_generationAfter_X0_read : GoodIn wsX1_generationAfter wsX0_read := goodIn_r _ [6, 7, 9, 10, 11, 12, 13] (by decide +kernel) (by decide +kernel)
set_option maxRecDepth 20000 in
theorem gX1_generationAfter_X0_read : GoodIn wsX1_generationAfter (wsV RX1 23 RX0 yX0_read wsX0_read) := goodIn_app (goodIn_of _ (by decide +kernel)) ggX1_generationAfter_X0_read
set_option maxRecDepth 20000 in
theorem ggX1_firstFreeEntry_X1_active : GoodIn wsX1_firstFreeEntry wsX1_active := goodIn_r _ [6, 1, 7, 8, 9, 5, 10, 11, 12, 13, 14, 15, 16, 17, 18, 19, 20, 21, 22, 23, 24, 25, 26] (by decide +kernel) (by decide +kernel)
set_option maxRecDepth 20000 in
theorem gX1_firstFreeEntry_X1_active : GoodIn wsX1_firstFreeEntry (wsV RX1 31 RX1 yX1_active wsX1_active) := goodIn_app (goodIn_of _ (by decide +kernel)) ggX1_firstFreeEntry_X1_active
set_option maxRecDepth 20000 in
theorem ggX1_firstFreeEntry_X0_read : GoodIn wsX1_firstFreeEntry wsX0_read := goodIn_r _ [15, 16, 22, 23, 24, 25, 26] (by decide +kernel) (by decide +kernel)
set_option maxRecDepth 20000 in
theorem gX1_firstFreeEntry_X0_read : GoodIn wsX1_firstFreeEntry (wsV RX1 23 RX0 yX0_read wsX0_read) := goodIn_app (goodIn_of _ (by decide +kernel)) ggX1_firstFreeEntry_X0_read
set_option maxRecDepth 20000 in
theorem ggX2_init_X0_init : GoodIn wsX2_init wsX0_init := goodIn_r _ [21, 22, 2, 3, 23, 24, 25, 26, 27, 28, 42, 43, 44, 45, 46] (by decide +kernel) (by decide +kernel)
set_option maxRecDepth 20000 in
theorem gX2_init_X0_init : GoodIn wsX2_init (wsX0_init) := ggX2_init_X0_init
set_option maxRecDepth 20000 in
theorem ggX2_init_X1_init : GoodIn wsX2_init wsX1_init := goodIn_r _ [31, 32, 2, 3, 33, 34, 35, 36, 6, 37, 24, 55, 42, 43, 44, 45, 46] (by decide +kernel) (by decide +kernel)
set_option maxRecDepth 20000 in
theorem gX2_init_X1_init : GoodIn wsX2_init (wsX1_init) := ggX2_init_X1_init
set_option maxRecDepth 20000 in
theorem ggX2_init_X2_limitOr : GoodIn wsX2_init wsX2_limitOr := goodIn_r _ [41] (by decide +kernel) (by decide +kernel)
set_option maxRecDepth 20000 in
theorem gX2_init_X2_limitOr : GoodIn wsX2_init (va_wsS RX2 30 yX2_limitOr wsX2_limitOr) := goodIn_app (goodIn_of _ (by decide +kernel)) ggX2_init_X2_limitOr
set_option maxRecDepth 20000 in
theorem ggX2_verify_X2_tryNumber : GoodIn wsX2_verify wsX2_tryNumber := goodIn_r _ [7, 8, 9, 10, 2, 11, 12, 13, 14, 15, 16, 17, 18, 19, 20, 21, 22, 23, 24, 25, 26, 27, 28, 29, 30, 31, 32, 33, 34, 35, 36, 37, 38, 39, 40, 41, 42, 43, 44, 45, 46, 47, 48, 49, 50, 51, 52, 53, 54, 55, 56, 57, 58, 59, 60, 61, 62, 63, 64, 65, 66, 67, 68, 69, 70, 71, 72, 73, 74, 75, 76, 77, 6, 78, 79, 80, 81, 82, 83, 84, 85, 86, 87, 88, 89, 90, 91, 92, 93, 94, 95, 96, 97] (by decide +kernel) (by decide +kernel)
set_option maxRecDepth 20000 in
theorem gX2_verify_X2_tryNumber : GoodIn wsX2_verify (wsV RX2 50 RX2 yX2_tryNumber wsX2_tryNumber) := goodIn_app (goodIn_of _ (by decide +kernel)) ggX2_verify_X2_tryNumber
set_option maxRecDepth 20000 in
theorem ggX2_change_X2_tryNumber : GoodIn wsX2_change wsX2_tryNumber := goodIn_r _ [8, 9, 2, 10, 3, 11, 12, 13, 14, 15, 16, 17, 18, 19, 20, 21, 22, 23, 24, 25, 26, 27, 28, 29, 30, 31, 32, 33, 34, 35, 36, 37, 38, 39, 40, 41, 42, 43, 44, 45, 46, 47, 48, 49, 50, 51, 52, 53, 54, 55, 56, 57, 58, 59, 60, 61, 62, 63, 64, 65, 66, 67, 68, 69, 70, 71, 72, 73, 74, 75, 76, 77, 7, 78, 79, 80, 81, 82, 83, 86, 87, 88, 89, 90, 91, 92, 93, 94, 95, 96, 97, 98, 99] (by decide +kernel) (by decide +kernel)
set_option maxRecDepth 20000 in
theorem gX2_change_X2_tryNumber : GoodIn wsX2_change (wsV RX2 50 RX2 yX2_tryNumber wsX2_tryNumber) := goodIn_app (goodIn_of _ (by decide +kernel)) ggX2_change_X2_tryNumber
set_option maxRecDepth 20000 in
theorem ggX2_change_X1_pukTriesUsed : GoodIn wsX2_change wsX1_pukTriesUsed := goodIn_r _ [51, 16, 17, 18, 19, 14, 20, 21, 22, 23, 24, 25, 26, 27, 28, 29, 30, 31, 32, 33, 34, 94, 95, 96, 97, 98, 99] (by decide +kernel) (by decide +kernel)
set_option maxRecDepth 20000 in
theorem gX2_change_X1_pukTriesUsed : GoodIn wsX2_change (wsV RX2 54 RX1 yX1_pukTriesUsed wsX1_pukTriesUsed) := goodIn_app (goodIn_of _ (by decide +kernel)) ggX2_change_X1_pukTriesUsed
set_option maxRecDepth 20000 in
theorem ggX2_change_X1_turn : GoodIn wsX2_change wsX1_turn := goodIn_r _ [55, 16, 17, 18, 19, 14, 20, 21, 22, 23, 24, 25, 26, 27, 28, 29, 30, 31, 32, 33, 34, 56, 57, 58, 59, 60, 61, 62, 63, 64, 65, 66, 67, 68, 69, 70, 71, 72, 73, 74, 94, 95, 96, 97, 98, 99] (by decide +kernel) (by decide +kernel)
set_option maxRecDepth 20000 in
theorem gX2_change_X1_turn : GoodIn wsX2_change (wsV RX2 58 RX1 yX1_turn wsX1_turn) := goodIn_app (goodIn_of _ (by decide +kernel)) ggX2_change_X1_turn
set_option maxRecDepth 20000 in
theorem ggX2_change_X2_losePower : GoodIn wsX2_change wsX2_losePower := goodIn_r _ [78, 9, 3, 86, 87, 88, 89, 90, 91, 92, 93] (by decide +kernel) (by decide +kernel)
set_option maxRecDepth 20000 in
theorem gX2_change_X2_losePower : GoodIn wsX2_change (wsV RX2 62 RX2 yX2_losePower wsX2_losePower) := goodIn_app (goodIn_of _ (by decide +kernel)) ggX2_change_X2_losePower
set_option maxRecDepth 20000 in
theorem ggX2_unblock_X1_pukTriesUsed : GoodIn wsX2_unblock wsX1_pukTriesUsed := goodIn_r _ [11, 12, 13, 14, 15, 10, 16, 17, 18, 19, 20, 21, 22, 23, 24, 25, 26, 27, 28, 29, 30, 85, 86, 87, 88, 89, 90] (by decide +kernel) (by decide +kernel)
set_option maxRecDepth 20000 in
theorem gX2_unblock_X1_pukTriesUsed : GoodIn wsX2_unblock (wsV RX2 54 RX1 yX1_pukTriesUsed wsX1_pukTriesUsed) := goodIn_app (goodIn_of _ (by decide +kernel)) ggX2_unblock_X1_pukTriesUsed
set_option maxRecDepth 20000 in
theorem ggX2_unblock_X1_mark : GoodIn wsX2_unblock wsX1_mark := goodIn_r _ [34, 12, 35, 36, 37, 10, 38, 13, 14, 15, 16, 17, 18, 19, 20, 21, 22, 23, 24, 25, 26, 27, 28, 29, 30, 39, 40, 41, 42, 43, 44, 45, 46, 47, 8, 9, 11, 48, 49, 50, 51, 52, 53, 54, 55, 56, 57, 58, 59, 60, 61, 62, 63, 64, 65, 66, 67, 68, 69, 70, 85, 86, 87, 88, 89, 90] (by decide +kernel) (by decide +kernel)
set_option maxRecDepth 20000 in
theorem gX2_unblock_X1_mark : GoodIn wsX2_unblock (wsV RX2 65 RX1 yX1_mark wsX1_mark) := goodIn_app (goodIn_of _ (by decide +kernel)) ggX2_unblock_X1_mark
set_option maxRecDepth 20000 in
theorem ggX2_unblock_X2_losePower : GoodIn wsX2_unblock wsX2_losePower := goodIn_r _ [75, 1, 4, 77, 78, 79, 80, 81, 82, 83, 84] (by decide +kernel) (by decide +kernel)
set_option maxRecDepth 20000 in
theorem gX2_unblock_X2_losePower : GoodIn wsX2_unblock (wsV RX2 62 RX2 yX2_losePower wsX2_losePower) := goodIn_app (goodIn_of _ (by decide +kernel)) ggX2_unblock_X2_losePower
set_option maxRecDepth 20000 in
theorem ggX2_unblock_X1_turn : GoodIn wsX2_unblock wsX1_turn := goodIn_r _ [51, 12, 13, 14, 15, 10, 16, 17, 18, 19, 20, 21, 22, 23, 24, 25, 26, 27, 28, 29, 30, 52, 53, 54, 55, 56, 57, 58, 59, 60, 61, 62, 63, 64, 65, 66, 67, 68, 69, 70, 85, 86, 87, 88, 89, 90] (by decide +kernel) (by decide +kernel)
set_option maxRecDepth 20000 in
theorem gX2_unblock_X1_turn : GoodIn wsX2_unblock (wsV RX2 58 RX1 yX1_turn wsX1_turn) := goodIn_app (goodIn_of _ (by decide +kernel)) ggX2_unblock_X1_turn
set_option maxRecDepth 20000 in
theorem ggX2_arm_X0_tearLater : GoodIn wsX2_arm wsX0_tearLater := goodIn_r _ [7, 8, 9, 18, 19, 20, 21, 22] (by decide +kernel) (by decide +kernel)
set_option maxRecDepth 20000 in
theorem gX2_arm_X0_tearLater : GoodIn wsX2_arm (wsV RX2 68 RX0 yX0_tearLater wsX0_tearLater) := goodIn_app (goodIn_of _ (by decide +kernel)) ggX2_arm_X0_tearLater
set_option maxRecDepth 20000 in
theorem ggX2_cut_X2_losePower : GoodIn wsX2_cut wsX2_losePower := goodIn_r _ [6, 1, 7, 8, 9, 10, 11, 12, 13, 14, 15] (by decide +kernel) (by decide +kernel)
set_option maxRecDepth 20000 in
theorem gX2_cut_X2_losePower : GoodIn wsX2_cut (wsV RX2 62 RX2 yX2_losePower wsX2_losePower) := goodIn_app (goodIn_of _ (by decide +kernel)) ggX2_cut_X2_losePower
set_option maxRecDepth 20000 in
theorem ggX2_tries_X1_pinTriesUsed : GoodIn wsX2_tries wsX1_pinTriesUsed := goodIn_r _ [11, 12, 13, 14, 15, 10, 16, 17, 18, 19, 20, 21, 22, 23, 24, 25, 26, 27, 28, 29, 30, 39, 40, 41, 42, 43, 44] (by decide +kernel) (by decide +kernel)
set_option maxRecDepth 20000 in
theorem gX2_tries_X1_pinTriesUsed : GoodIn wsX2_tries (wsV RX2 72 RX1 yX1_pinTriesUsed wsX1_pinTriesUsed) := goodIn_app (goodIn_of _ (by decide +kernel)) ggX2_tries_X1_pinTriesUsed
set_option maxRecDepth 20000 in
theorem ggX2_puks_X1_pukTriesUsed : GoodIn wsX2_puks wsX1_pukTriesUsed := goodIn_r _ [11, 12, 13, 14, 15, 10, 16, 17, 18, 19, 20, 21, 22, 23, 24, 25, 26, 27, 28, 29, 30, 39, 40, 41, 42, 43, 44] (by decide +kernel) (by decide +kernel)
set_option maxRecDepth 20000 in
theorem gX2_puks_X1_pukTriesUsed : GoodIn wsX2_puks (wsV RX2 54 RX1 yX1_pukTriesUsed wsX1_pukTriesUsed) := goodIn_app (goodIn_of _ (by decide +kernel)) ggX2_puks_X1_pukTriesUsed
set_option maxRecDepth 20000 in
theorem ggX2_page_X1_active : GoodIn wsX2_page wsX1_active := goodIn_r _ [6, 7, 8, 9, 10, 5, 11, 12, 13, 14, 15, 16, 17, 18, 19, 20, 21, 30, 31, 32, 33, 34, 35] (by decide +kernel) (by decide +kernel)
set_option maxRecDepth 20000 in
theorem gX2_page_X1_active : GoodIn wsX2_page (wsV RX2 80 RX1 yX1_active wsX1_active) := goodIn_app (goodIn_of _ (by decide +kernel)) ggX2_page_X1_active
set_option maxRecDepth 20000 in
theorem ggX2_generation_X1_activeGeneration : GoodIn wsX2_generation wsX1_activeGeneration := goodIn_r _ [6, 7, 8, 9, 10, 5, 11, 12, 13, 14, 15, 16, 17, 18, 19, 20, 21, 22, 23, 24, 25, 34, 35, 36, 37, 38, 39] (by decide +kernel) (by decide +kernel)
set_option maxRecDepth 20000 in
theorem gX2_generation_X1_activeGeneration : GoodIn wsX2_generation (wsV RX2 83 RX1 yX1_activeGeneration wsX1_activeGeneration) := goodIn_app (goodIn_of _ (by decide +kernel)) ggX2_generation_X1_activeGeneration
set_option maxRecDepth 20000 in
theorem ggX2_free_X1_freeEntries : GoodIn wsX2_free wsX1_freeEntries := goodIn_r _ [6, 7, 8, 9, 10, 5, 11, 12, 13, 14, 15, 16, 17, 18, 19, 20, 21, 22, 23, 24, 25, 34, 35, 36, 37, 38, 39] (by decide +kernel) (by decide +kernel)
set_option maxRecDepth 20000 in
theorem gX2_free_X1_freeEntries : GoodIn wsX2_free (wsV RX2 86 RX1 yX1_freeEntries wsX1_freeEntries) := goodIn_app (goodIn_of _ (by decide +kernel)) ggX2_free_X1_freeEntries
set_option maxRecDepth 20000 in
theorem ggX2_operations_X0_operationCount : GoodIn wsX2_operations wsX0_operationCount := goodIn_r _ [6, 7, 16, 17, 18, 19, 20] (by decide +kernel) (by decide +kernel)
set_option maxRecDepth 20000 in
theorem gX2_operations_X0_operationCount : GoodIn wsX2_operations (wsV RX2 89 RX0 yX0_operationCount wsX0_operationCount) := goodIn_app (goodIn_of _ (by decide +kernel)) ggX2_operations_X0_operationCount
set_option maxRecDepth 20000 in
theorem ggX2_erased_X0_eraseCount : GoodIn wsX2_erased wsX0_eraseCount := goodIn_r _ [6, 7, 8, 9, 5, 10, 19, 20, 21, 22, 23] (by decide +kernel) (by decide +kernel)
set_option maxRecDepth 20000 in
theorem gX2_erased_X0_eraseCount : GoodIn wsX2_erased (wsV RX2 92 RX0 yX0_eraseCount wsX0_eraseCount) := goodIn_app (goodIn_of _ (by decide +kernel)) ggX2_erased_X0_eraseCount
set_option maxRecDepth 20000 in
theorem ggX2_tryNumber_X1_pinTriesUsed : GoodIn wsX2_tryNumber wsX1_pinTriesUsed := goodIn_r _ [9, 10, 11, 12, 13, 8, 14, 15, 16, 17, 18, 19, 20, 21, 22, 23, 24, 25, 26, 27, 28, 87, 88, 89, 90, 91, 92] (by decide +kernel) (by decide +kernel)
set_option maxRecDepth 20000 in
theorem gX2_tryNumber_X1_pinTriesUsed : GoodIn wsX2_tryNumber (wsV RX2 72 RX1 yX1_pinTriesUsed wsX1_pinTriesUsed) := goodIn_app (goodIn_of _ (by decide +kernel)) ggX2_tryNumber_X1_pinTriesUsed
set_option maxRecDepth 20000 in
theorem ggX2_tryNumber_X1_mark : GoodIn wsX2_tryNumber wsX1_mark := goodIn_r _ [32, 10, 33, 34, 35, 8, 36, 11, 12, 13, 14, 15, 16, 17, 18, 19, 20, 21, 22, 23, 24, 25, 26, 27, 28, 37, 38, 39, 40, 41, 6, 7, 9, 42, 43, 44, 45, 46, 47, 48, 49, 50, 51, 52, 53, 54, 55, 56, 57, 58, 59, 60, 61, 62, 63, 64, 65, 66, 67, 68, 87, 88, 89, 90, 91, 92] (by decide +kernel) (by decide +kernel)
set_option maxRecDepth 20000 in
theorem gX2_tryNumber_X1_mark : GoodIn wsX2_tryNumber (wsV RX2 65 RX1 yX1_mark wsX1_mark) := goodIn_app (goodIn_of _ (by decide +kernel)) ggX2_tryNumber_X1_mark
set_option maxRecDepth 20000 in
theorem ggX2_tryNumber_X2_losePower : GoodIn wsX2_tryNumber wsX2_losePower := goodIn_r _ [73, 1, 4, 79, 80, 81, 82, 83, 84, 85, 86] (by decide +kernel) (by decide +kernel)
set_option maxRecDepth 20000 in
theorem gX2_tryNumber_X2_losePower : GoodIn wsX2_tryNumber (wsV RX2 62 RX2 yX2_losePower wsX2_losePower) := goodIn_app (goodIn_of _ (by decide +kernel)) ggX2_tryNumber_X2_losePower
set_option maxRecDepth 20000 in
theorem ggX2_tryNumber_X1_pin : GoodIn wsX2_tryNumber wsX1_pin := goodIn_r _ [40, 10, 11, 12, 13, 8, 14, 15, 16, 17, 18, 19, 20, 21, 22, 23, 24, 25, 26, 27, 28, 87, 88, 89, 90, 91, 92] (by decide +kernel) (by decide +kernel)
set_option maxRecDepth 20000 in
theorem gX2_tryNumber_X1_pin : GoodIn wsX2_tryNumber (wsV RX2 95 RX1 yX1_pin wsX1_pin) := goodIn_app (goodIn_of _ (by decide +kernel)) ggX2_tryNumber_X1_pin
set_option maxRecDepth 20000 in
theorem ggX2_tryNumber_X1_remark : GoodIn wsX2_tryNumber wsX1_remark := goodIn_r _ [78, 10, 11, 12, 13, 8, 14, 15, 16, 17, 18, 19, 20, 21, 22, 23, 24, 25, 26, 27, 28, 50, 51, 52, 53, 54, 55, 56, 57, 58, 59, 60, 87, 88, 89, 90, 91, 92] (by decide +kernel) (by decide +kernel)
set_option maxRecDepth 20000 in
theorem gX2_tryNumber_X1_remark : GoodIn wsX2_tryNumber (wsV RX2 98 RX1 yX1_remark wsX1_remark) := goodIn_app (goodIn_of _ (by decide +kernel)) ggX2_tryNumber_X1_remark
end
section
def RM : String := "TornTryCounterModel"
def TM : u_T := fun k => match k with
  | 0 => ("TornTryCounterModel", "pinLimit", "I", true)
  | 1 => ("TornTryCounterModel", "pukLimit", "I", true)
  | 2 => ("TornTryCounterModel", "pukNumber", "I", true)
  | 3 => ("TornTryCounterModel", "active", "I", false)
  | 4 => ("TornTryCounterModel", "age", "I", false)
  | 5 => ("TornTryCounterModel", "pinNumber", "I", false)
  | 6 => ("TornTryCounterModel", "pinTries", "I", false)
  | 7 => ("TornTryCounterModel", "pukTries", "I", false)
  | 8 => ("TornTryCounterModel", "entries", "I", false)
  | 9 => ("TornTryCounterModel", "otherGood", "Z", false)
  | 10 => ("TornTryCounterModel", "power", "Z", false)
  | 11 => ("TornTryCounterModel", "holder", "Z", false)
  | 12 => ("TornTryCounterModel", "torn", "I", false)
  | 13 => ("TornTryCounterModel", "tornMask", "I", false)
  | 14 => ("TornTryCounterModel", "arms", "I", false)
  | 15 => ("TornTryCounterModel", "done", "I", false)
  | 16 => ("TornTryCounterModel", "erased0", "I", false)
  | _ => ("TornTryCounterModel", "erased1", "I", false)
def tyM : Nat → FieldType := fun k => match k with
  | 0 => .int
  | 1 => .int
  | 2 => .int
  | 3 => .int
  | 4 => .int
  | 5 => .int
  | 6 => .int
  | 7 => .int
  | 8 => .int
  | 9 => .boolean
  | 10 => .boolean
  | 11 => .boolean
  | 12 => .int
  | 13 => .int
  | 14 => .int
  | 15 => .int
  | 16 => .int
  | _ => .int
abbrev wsM0 : List Cond := u_ws RM TM 18
theorem nmM : ∀ a, a < 18 → ∀ b, b < 18 → a ≠ b → (TM a).2.1 ≠ (TM b).2.1 := by decide +kernel
theorem tyM_ok : ∀ k, k < 18 → parseFieldDescriptor (TM k).2.2.1 = some (tyM k) := by decide +kernel
abbrev cM_init : ByteArray := prog_5_method_1_code
def yM_init : MethodName := ⟨RM, "<init>", "(IIII)V"⟩
abbrev cM_verify : ByteArray := prog_5_method_7_code
def yM_verify : MethodName := ⟨RM, "verify", "(I)I"⟩
abbrev cM_attempt : ByteArray := prog_5_method_6_code
def yM_attempt : MethodName := ⟨RM, "attempt", "(I)I"⟩
abbrev cM_mark : ByteArray := prog_5_method_5_code
def yM_mark : MethodName := ⟨RM, "mark", "(Z)Z"⟩
abbrev cM_turn : ByteArray := prog_5_method_4_code
def yM_turn : MethodName := ⟨RM, "turn", "(III)Z"⟩
abbrev cM_operate : ByteArray := prog_5_method_2_code
def yM_operate : MethodName := ⟨RM, "operate", "()I"⟩
abbrev cM_all : ByteArray := prog_5_method_3_code
def yM_all : MethodName := ⟨RM, "all", "(II)Z"⟩
abbrev cM_change : ByteArray := prog_5_method_8_code
def yM_change : MethodName := ⟨RM, "change", "(II)I"⟩
abbrev cM_unblock : ByteArray := prog_5_method_9_code
def yM_unblock : MethodName := ⟨RM, "unblock", "(II)I"⟩
abbrev cM_arm : ByteArray := prog_5_method_10_code
def yM_arm : MethodName := ⟨RM, "arm", "(II)Z"⟩
abbrev cM_cut : ByteArray := prog_5_method_11_code
def yM_cut : MethodName := ⟨RM, "cut", "()Z"⟩
abbrev cM_start : ByteArray := prog_5_method_12_code
def yM_start : MethodName := ⟨RM, "start", "()Z"⟩
abbrev cM_in : ByteArray := prog_5_method_13_code
def yM_in : MethodName := ⟨RM, "in", "()Z"⟩
abbrev cM_up : ByteArray := prog_5_method_14_code
def yM_up : MethodName := ⟨RM, "up", "()Z"⟩
abbrev cM_tries : ByteArray := prog_5_method_15_code
def yM_tries : MethodName := ⟨RM, "tries", "()I"⟩
abbrev cM_puks : ByteArray := prog_5_method_16_code
def yM_puks : MethodName := ⟨RM, "puks", "()I"⟩
abbrev cM_page : ByteArray := prog_5_method_17_code
def yM_page : MethodName := ⟨RM, "page", "()I"⟩
abbrev cM_generation : ByteArray := prog_5_method_18_code
def yM_generation : MethodName := ⟨RM, "generation", "()I"⟩
abbrev cM_free : ByteArray := prog_5_method_19_code
def yM_free : MethodName := ⟨RM, "free", "()I"⟩
abbrev cM_operations : ByteArray := prog_5_method_20_code
def yM_operations : MethodName := ⟨RM, "operations", "()I"⟩
abbrev cM_erased : ByteArray := prog_5_method_21_code
def yM_erased : MethodName := ⟨RM, "erased", "(I)I"⟩
def wsM_init : List Cond := .code yM_init cM_init 5 none :: ([.methodLink RM 1 objectInit, .instanceMethod objectInit, .code objectInit ⟨#[0xb1]⟩ 1 none, .fieldLink RM 7 "TornTryCounterModel" "entries" "I", .fieldLink RM 13 "TornTryCounterModel" "power" "Z", .constant RM 17 65535, .fieldLink RM 18 "TornTryCounterModel" "pinNumber" "I", .fieldLink RM 21 "TornTryCounterModel" "pukNumber" "I", .fieldLink RM 24 "TornTryCounterModel" "pinLimit" "I", .fieldLink RM 27 "TornTryCounterModel" "pukLimit" "I"] ++ wsM0)
def wsM_operate : List Cond := .code yM_operate cM_operate 2 (some .int) :: ([.fieldLink RM 30 "TornTryCounterModel" "done" "I", .fieldLink RM 33 "TornTryCounterModel" "torn" "I", .fieldLink RM 13 "TornTryCounterModel" "power" "Z", .fieldLink RM 36 "TornTryCounterModel" "holder" "Z", .fieldLink RM 39 "TornTryCounterModel" "tornMask" "I"] ++ wsM0)
def wsM_all : List Cond := .code yM_all cM_all 2 (some .boolean) :: ([] ++ wsM0)
def wsM_turn : List Cond := .code yM_turn cM_turn 5 (some .boolean) :: ([.fieldLink RM 42 "TornTryCounterModel" "otherGood" "Z", .methodLink RM 45 yM_operate, .instanceMethod yM_operate, .selects RM yM_operate yM_operate, .initialized RM, .code yM_operate cM_operate 2 (some .int), .fieldLink RM 30 "TornTryCounterModel" "done" "I", .fieldLink RM 33 "TornTryCounterModel" "torn" "I", .fieldLink RM 13 "TornTryCounterModel" "power" "Z", .fieldLink RM 36 "TornTryCounterModel" "holder" "Z", .fieldLink RM 39 "TornTryCounterModel" "tornMask" "I", .fieldLink RM 49 "TornTryCounterModel" "active" "I", .fieldLink RM 52 "TornTryCounterModel" "erased1" "I", .fieldLink RM 55 "TornTryCounterModel" "erased0" "I", .methodLink RM 58 yM_all, .static yM_all, .code yM_all cM_all 2 (some .boolean), .fieldLink RM 62 "TornTryCounterModel" "age" "I", .fieldLink RM 18 "TornTryCounterModel" "pinNumber" "I", .fieldLink RM 65 "TornTryCounterModel" "pinTries" "I", .fieldLink RM 68 "TornTryCounterModel" "pukTries" "I", .fieldLink RM 7 "TornTryCounterModel" "entries" "I"] ++ wsM0)
def wsM_mark : List Cond := .code yM_mark cM_mark 3 (some .boolean) :: ([.fieldLink RM 7 "TornTryCounterModel" "entries" "I", .fieldLink RM 18 "TornTryCounterModel" "pinNumber" "I", .fieldLink RM 65 "TornTryCounterModel" "pinTries" "I", .fieldLink RM 68 "TornTryCounterModel" "pukTries" "I", .methodLink RM 71 yM_turn, .instanceMethod yM_turn, .selects RM yM_turn yM_turn, .initialized RM, .code yM_turn cM_turn 5 (some .boolean), .fieldLink RM 42 "TornTryCounterModel" "otherGood" "Z", .methodLink RM 45 yM_operate, .instanceMethod yM_operate, .selects RM yM_operate yM_operate, .code yM_operate cM_operate 2 (some .int), .fieldLink RM 30 "TornTryCounterModel" "done" "I", .fieldLink RM 33 "TornTryCounterModel" "torn" "I", .fieldLink RM 13 "TornTryCounterModel" "power" "Z", .fieldLink RM 36 "TornTryCounterModel" "holder" "Z", .fieldLink RM 39 "TornTryCounterModel" "tornMask" "I", .fieldLink RM 49 "TornTryCounterModel" "active" "I", .fieldLink RM 52 "TornTryCounterModel" "erased1" "I", .fieldLink RM 55 "TornTryCounterModel" "erased0" "I", .methodLink RM 58 yM_all, .static yM_all, .code yM_all cM_all 2 (some .boolean), .fieldLink RM 62 "TornTryCounterModel" "age" "I"] ++ wsM0)
def wsM_attempt : List Cond := .code yM_attempt cM_attempt 3 (some .int) :: ([.fieldLink RM 13 "TornTryCounterModel" "power" "Z", .fieldLink RM 65 "TornTryCounterModel" "pinTries" "I", .fieldLink RM 24 "TornTryCounterModel" "pinLimit" "I", .fieldLink RM 36 "TornTryCounterModel" "holder" "Z", .methodLink RM 75 yM_mark, .instanceMethod yM_mark, .selects RM yM_mark yM_mark, .initialized RM, .code yM_mark cM_mark 3 (some .boolean), .fieldLink RM 7 "TornTryCounterModel" "entries" "I", .fieldLink RM 18 "TornTryCounterModel" "pinNumber" "I", .fieldLink RM 68 "TornTryCounterModel" "pukTries" "I", .methodLink RM 71 yM_turn, .instanceMethod yM_turn, .selects RM yM_turn yM_turn, .code yM_turn cM_turn 5 (some .boolean), .fieldLink RM 42 "TornTryCounterModel" "otherGood" "Z", .methodLink RM 45 yM_operate, .instanceMethod yM_operate, .selects RM yM_operate yM_operate, .code yM_operate cM_operate 2 (some .int), .fieldLink RM 30 "TornTryCounterModel" "done" "I", .fieldLink RM 33 "TornTryCounterModel" "torn" "I", .fieldLink RM 39 "TornTryCounterModel" "tornMask" "I", .fieldLink RM 49 "TornTryCounterModel" "active" "I", .fieldLink RM 52 "TornTryCounterModel" "erased1" "I", .fieldLink RM 55 "TornTryCounterModel" "erased0" "I", .methodLink RM 58 yM_all, .static yM_all, .code yM_all cM_all 2 (some .boolean), .fieldLink RM 62 "TornTryCounterModel" "age" "I", .constant RM 17 65535] ++ wsM0)
def wsM_verify : List Cond := .code yM_verify cM_verify 3 (some .int) :: ([.methodLink RM 79 yM_attempt, .instanceMethod yM_attempt, .selects RM yM_attempt yM_attempt, .initialized RM, .code yM_attempt cM_attempt 3 (some .int), .fieldLink RM 13 "TornTryCounterModel" "power" "Z", .fieldLink RM 65 "TornTryCounterModel" "pinTries" "I", .fieldLink RM 24 "TornTryCounterModel" "pinLimit" "I", .fieldLink RM 36 "TornTryCounterModel" "holder" "Z", .methodLink RM 75 yM_mark, .instanceMethod yM_mark, .selects RM yM_mark yM_mark, .code yM_mark cM_mark 3 (some .boolean), .fieldLink RM 7 "TornTryCounterModel" "entries" "I", .fieldLink RM 18 "TornTryCounterModel" "pinNumber" "I", .fieldLink RM 68 "TornTryCounterModel" "pukTries" "I", .methodLink RM 71 yM_turn, .instanceMethod yM_turn, .selects RM yM_turn yM_turn, .code yM_turn cM_turn 5 (some .boolean), .fieldLink RM 42 "TornTryCounterModel" "otherGood" "Z", .methodLink RM 45 yM_operate, .instanceMethod yM_operate, .selects RM yM_operate yM_operate, .code yM_operate cM_operate 2 (some .int), .fieldLink RM 30 "TornTryCounterModel" "done" "I", .fieldLink RM 33 "TornTryCounterModel" "torn" "I", .fieldLink RM 39 "TornTryCounterModel" "tornMask" "I", .fieldLink RM 49 "TornTryCounterModel" "active" "I", .fieldLink RM 52 "TornTryCounterModel" "erased1" "I", .fieldLink RM 55 "TornTryCounterModel" "erased0" "I", .methodLink RM 58 yM_all, .static yM_all, .code yM_all cM_all 2 (some .boolean), .fieldLink RM 62 "TornTryCounterModel" "age" "I", .constant RM 17 65535] ++ wsM0)
def wsM_change : List Cond := .code yM_change cM_change 4 (some .int) :: ([.methodLink RM 79 yM_attempt, .instanceMethod yM_attempt, .selects RM yM_attempt yM_attempt, .initialized RM, .code yM_attempt cM_attempt 3 (some .int), .fieldLink RM 13 "TornTryCounterModel" "power" "Z", .fieldLink RM 65 "TornTryCounterModel" "pinTries" "I", .fieldLink RM 24 "TornTryCounterModel" "pinLimit" "I", .fieldLink RM 36 "TornTryCounterModel" "holder" "Z", .methodLink RM 75 yM_mark, .instanceMethod yM_mark, .selects RM yM_mark yM_mark, .code yM_mark cM_mark 3 (some .boolean), .fieldLink RM 7 "TornTryCounterModel" "entries" "I", .fieldLink RM 18 "TornTryCounterModel" "pinNumber" "I", .fieldLink RM 68 "TornTryCounterModel" "pukTries" "I", .methodLink RM 71 yM_turn, .instanceMethod yM_turn, .selects RM yM_turn yM_turn, .code yM_turn cM_turn 5 (some .boolean), .fieldLink RM 42 "TornTryCounterModel" "otherGood" "Z", .methodLink RM 45 yM_operate, .instanceMethod yM_operate, .selects RM yM_operate yM_operate, .code yM_operate cM_operate 2 (some .int), .fieldLink RM 30 "TornTryCounterModel" "done" "I", .fieldLink RM 33 "TornTryCounterModel" "torn" "I", .fieldLink RM 39 "TornTryCounterModel" "tornMask" "I", .fieldLink RM 49 "TornTryCounterModel" "active" "I", .fieldLink RM 52 "TornTryCounterModel" "erased1" "I", .fieldLink RM 55 "TornTryCounterModel" "erased0" "I", .methodLink RM 58 yM_all, .static yM_all, .code yM_all cM_all 2 (some .boolean), .fieldLink RM 62 "TornTryCounterModel" "age" "I", .constant RM 17 65535] ++ wsM0)
def wsM_unblock : List Cond := .code yM_unblock cM_unblock 3 (some .int) :: ([.fieldLink RM 13 "TornTryCounterModel" "power" "Z", .fieldLink RM 68 "TornTryCounterModel" "pukTries" "I", .fieldLink RM 27 "TornTryCounterModel" "pukLimit" "I", .fieldLink RM 36 "TornTryCounterModel" "holder" "Z", .methodLink RM 75 yM_mark, .instanceMethod yM_mark, .selects RM yM_mark yM_mark, .initialized RM, .code yM_mark cM_mark 3 (some .boolean), .fieldLink RM 7 "TornTryCounterModel" "entries" "I", .fieldLink RM 18 "TornTryCounterModel" "pinNumber" "I", .fieldLink RM 65 "TornTryCounterModel" "pinTries" "I", .methodLink RM 71 yM_turn, .instanceMethod yM_turn, .selects RM yM_turn yM_turn, .code yM_turn cM_turn 5 (some .boolean), .fieldLink RM 42 "TornTryCounterModel" "otherGood" "Z", .methodLink RM 45 yM_operate, .instanceMethod yM_operate, .selects RM yM_operate yM_operate, .code yM_operate cM_operate 2 (some .int), .fieldLink RM 30 "TornTryCounterModel" "done" "I", .fieldLink RM 33 "TornTryCounterModel" "torn" "I", .fieldLink RM 39 "TornTryCounterModel" "tornMask" "I", .fieldLink RM 49 "TornTryCounterModel" "active" "I", .fieldLink RM 52 "TornTryCounterModel" "erased1" "I", .fieldLink RM 55 "TornTryCounterModel" "erased0" "I", .methodLink RM 58 yM_all, .static yM_all, .code yM_all cM_all 2 (some .boolean), .fieldLink RM 62 "TornTryCounterModel" "age" "I", .fieldLink RM 21 "TornTryCounterModel" "pukNumber" "I", .constant RM 17 65535] ++ wsM0)
def wsM_arm : List Cond := .code yM_arm cM_arm 3 (some .boolean) :: ([.fieldLink RM 83 "TornTryCounterModel" "arms" "I", .fieldLink RM 33 "TornTryCounterModel" "torn" "I", .fieldLink RM 39 "TornTryCounterModel" "tornMask" "I"] ++ wsM0)
def wsM_cut : List Cond := .code yM_cut cM_cut 2 (some .boolean) :: ([.fieldLink RM 13 "TornTryCounterModel" "power" "Z", .fieldLink RM 36 "TornTryCounterModel" "holder" "Z"] ++ wsM0)
def wsM_start : List Cond := .code yM_start cM_start 2 (some .boolean) :: ([.fieldLink RM 13 "TornTryCounterModel" "power" "Z"] ++ wsM0)
def wsM_in : List Cond := .code yM_in cM_in 1 (some .boolean) :: ([.fieldLink RM 36 "TornTryCounterModel" "holder" "Z"] ++ wsM0)
def wsM_up : List Cond := .code yM_up cM_up 1 (some .boolean) :: ([.fieldLink RM 13 "TornTryCounterModel" "power" "Z"] ++ wsM0)
def wsM_tries : List Cond := .code yM_tries cM_tries 1 (some .int) :: ([.fieldLink RM 65 "TornTryCounterModel" "pinTries" "I", .fieldLink RM 24 "TornTryCounterModel" "pinLimit" "I"] ++ wsM0)
def wsM_puks : List Cond := .code yM_puks cM_puks 1 (some .int) :: ([.fieldLink RM 68 "TornTryCounterModel" "pukTries" "I", .fieldLink RM 27 "TornTryCounterModel" "pukLimit" "I"] ++ wsM0)
def wsM_page : List Cond := .code yM_page cM_page 1 (some .int) :: ([.fieldLink RM 49 "TornTryCounterModel" "active" "I"] ++ wsM0)
def wsM_generation : List Cond := .code yM_generation cM_generation 1 (some .int) :: ([.fieldLink RM 62 "TornTryCounterModel" "age" "I"] ++ wsM0)
def wsM_free : List Cond := .code yM_free cM_free 1 (some .int) :: ([.fieldLink RM 7 "TornTryCounterModel" "entries" "I"] ++ wsM0)
def wsM_operations : List Cond := .code yM_operations cM_operations 1 (some .int) :: ([.fieldLink RM 30 "TornTryCounterModel" "done" "I"] ++ wsM0)
def wsM_erased : List Cond := .code yM_erased cM_erased 2 (some .int) :: ([.fieldLink RM 55 "TornTryCounterModel" "erased0" "I", .fieldLink RM 52 "TornTryCounterModel" "erased1" "I"] ++ wsM0)
abbrev ttCl : List vw_C := [(RX0, TX0, 5), (RX1, TX1, 1), (RX2, TX2, 8), (RM, TM, 18)]
end
section
theorem dM_init_0 : decode cM_init 0 = .ok (.aload_n 0, 1) := by decide +kernel
theorem dM_init_1 : decode cM_init 1 = .ok (.invokespecial 1, 3) := by decide +kernel
theorem dM_init_4 : decode cM_init 4 = .ok (.aload_n 0, 1) := by decide +kernel
theorem dM_init_5 : decode cM_init 5 = .ok (.bipush 10, 2) := by decide +kernel
theorem dM_init_7 : decode cM_init 7 = .ok (.putfield 7, 3) := by decide +kernel
theorem dM_init_10 : decode cM_init 10 = .ok (.aload_n 0, 1) := by decide +kernel
theorem dM_init_11 : decode cM_init 11 = .ok (.iconst 1, 1) := by decide +kernel
theorem dM_init_12 : decode cM_init 12 = .ok (.putfield 13, 3) := by decide +kernel
theorem dM_init_15 : decode cM_init 15 = .ok (.aload_n 0, 1) := by decide +kernel
theorem dM_init_16 : decode cM_init 16 = .ok (.iload_n 1, 1) := by decide +kernel
theorem dM_init_17 : decode cM_init 17 = .ok (.ldc 17, 2) := by decide +kernel
theorem dM_init_19 : decode cM_init 19 = .ok (.iand, 1) := by decide +kernel
theorem dM_init_20 : decode cM_init 20 = .ok (.putfield 18, 3) := by decide +kernel
theorem dM_init_23 : decode cM_init 23 = .ok (.aload_n 0, 1) := by decide +kernel
theorem dM_init_24 : decode cM_init 24 = .ok (.iload_n 2, 1) := by decide +kernel
theorem dM_init_25 : decode cM_init 25 = .ok (.putfield 21, 3) := by decide +kernel
theorem dM_init_28 : decode cM_init 28 = .ok (.aload_n 0, 1) := by decide +kernel
theorem dM_init_29 : decode cM_init 29 = .ok (.iload_n 3, 1) := by decide +kernel
theorem dM_init_30 : decode cM_init 30 = .ok (.iconst 1, 1) := by decide +kernel
theorem dM_init_31 : decode cM_init 31 = .ok (.if_icmp .lt 9, 3) := by decide +kernel
theorem dM_init_34 : decode cM_init 34 = .ok (.iload_n 3, 1) := by decide +kernel
theorem dM_init_35 : decode cM_init 35 = .ok (.bipush 7, 2) := by decide +kernel
theorem dM_init_37 : decode cM_init 37 = .ok (.if_icmp .le 7, 3) := by decide +kernel
theorem dM_init_40 : decode cM_init 40 = .ok (.iconst 3, 1) := by decide +kernel
theorem dM_init_41 : decode cM_init 41 = .ok (.goto 4, 3) := by decide +kernel
theorem dM_init_44 : decode cM_init 44 = .ok (.iload_n 3, 1) := by decide +kernel
theorem dM_init_45 : decode cM_init 45 = .ok (.putfield 24, 3) := by decide +kernel
theorem dM_init_48 : decode cM_init 48 = .ok (.aload_n 0, 1) := by decide +kernel
theorem dM_init_49 : decode cM_init 49 = .ok (.iload 4, 2) := by decide +kernel
theorem dM_init_51 : decode cM_init 51 = .ok (.iconst 1, 1) := by decide +kernel
theorem dM_init_52 : decode cM_init 52 = .ok (.if_icmp .lt 10, 3) := by decide +kernel
theorem dM_init_55 : decode cM_init 55 = .ok (.iload 4, 2) := by decide +kernel
theorem dM_init_57 : decode cM_init 57 = .ok (.bipush 7, 2) := by decide +kernel
theorem dM_init_59 : decode cM_init 59 = .ok (.if_icmp .le 7, 3) := by decide +kernel
theorem dM_init_62 : decode cM_init 62 = .ok (.iconst 5, 1) := by decide +kernel
theorem dM_init_63 : decode cM_init 63 = .ok (.goto 5, 3) := by decide +kernel
theorem dM_init_66 : decode cM_init 66 = .ok (.iload 4, 2) := by decide +kernel
theorem dM_init_68 : decode cM_init 68 = .ok (.putfield 27, 3) := by decide +kernel
theorem dM_init_71 : decode cM_init 71 = .ok (.return_, 1) := by decide +kernel
theorem dM_verify_0 : decode cM_verify 0 = .ok (.aload_n 0, 1) := by decide +kernel
theorem dM_verify_1 : decode cM_verify 1 = .ok (.iload_n 1, 1) := by decide +kernel
theorem dM_verify_2 : decode cM_verify 2 = .ok (.invokevirtual 79, 3) := by decide +kernel
theorem dM_verify_5 : decode cM_verify 5 = .ok (.istore_n 2, 1) := by decide +kernel
theorem dM_verify_6 : decode cM_verify 6 = .ok (.aload_n 0, 1) := by decide +kernel
theorem dM_verify_7 : decode cM_verify 7 = .ok (.aload_n 0, 1) := by decide +kernel
theorem dM_verify_8 : decode cM_verify 8 = .ok (.getfield 36, 3) := by decide +kernel
theorem dM_verify_11 : decode cM_verify 11 = .ok (.ifCond .ne 8, 3) := by decide +kernel
theorem dM_verify_14 : decode cM_verify 14 = .ok (.iload_n 2, 1) := by decide +kernel
theorem dM_verify_15 : decode cM_verify 15 = .ok (.iconst 1, 1) := by decide +kernel
theorem dM_verify_16 : decode cM_verify 16 = .ok (.if_icmp .ne 7, 3) := by decide +kernel
theorem dM_verify_19 : decode cM_verify 19 = .ok (.iconst 1, 1) := by decide +kernel
theorem dM_verify_20 : decode cM_verify 20 = .ok (.goto 4, 3) := by decide +kernel
theorem dM_verify_23 : decode cM_verify 23 = .ok (.iconst 0, 1) := by decide +kernel
theorem dM_verify_24 : decode cM_verify 24 = .ok (.putfield 36, 3) := by decide +kernel
theorem dM_verify_27 : decode cM_verify 27 = .ok (.iload_n 2, 1) := by decide +kernel
theorem dM_verify_28 : decode cM_verify 28 = .ok (.ireturn, 1) := by decide +kernel
theorem dM_attempt_0 : decode cM_attempt 0 = .ok (.aload_n 0, 1) := by decide +kernel
theorem dM_attempt_1 : decode cM_attempt 1 = .ok (.getfield 13, 3) := by decide +kernel
theorem dM_attempt_4 : decode cM_attempt 4 = .ok (.ifCond .ne 5, 3) := by decide +kernel
theorem dM_attempt_7 : decode cM_attempt 7 = .ok (.iconst (-1), 1) := by decide +kernel
theorem dM_attempt_8 : decode cM_attempt 8 = .ok (.ireturn, 1) := by decide +kernel
theorem dM_attempt_9 : decode cM_attempt 9 = .ok (.aload_n 0, 1) := by decide +kernel
theorem dM_attempt_10 : decode cM_attempt 10 = .ok (.getfield 65, 3) := by decide +kernel
theorem dM_attempt_13 : decode cM_attempt 13 = .ok (.aload_n 0, 1) := by decide +kernel
theorem dM_attempt_14 : decode cM_attempt 14 = .ok (.getfield 24, 3) := by decide +kernel
theorem dM_attempt_17 : decode cM_attempt 17 = .ok (.if_icmp .lt 6, 3) := by decide +kernel
theorem dM_attempt_20 : decode cM_attempt 20 = .ok (.bipush (-2), 2) := by decide +kernel
theorem dM_attempt_22 : decode cM_attempt 22 = .ok (.ireturn, 1) := by decide +kernel
theorem dM_attempt_23 : decode cM_attempt 23 = .ok (.aload_n 0, 1) := by decide +kernel
theorem dM_attempt_24 : decode cM_attempt 24 = .ok (.iconst 0, 1) := by decide +kernel
theorem dM_attempt_25 : decode cM_attempt 25 = .ok (.putfield 36, 3) := by decide +kernel
theorem dM_attempt_28 : decode cM_attempt 28 = .ok (.aload_n 0, 1) := by decide +kernel
theorem dM_attempt_29 : decode cM_attempt 29 = .ok (.iconst 0, 1) := by decide +kernel
theorem dM_attempt_30 : decode cM_attempt 30 = .ok (.invokevirtual 75, 3) := by decide +kernel
theorem dM_attempt_33 : decode cM_attempt 33 = .ok (.ifCond .ne 6, 3) := by decide +kernel
theorem dM_attempt_36 : decode cM_attempt 36 = .ok (.bipush (-3), 2) := by decide +kernel
theorem dM_attempt_38 : decode cM_attempt 38 = .ok (.ireturn, 1) := by decide +kernel
theorem dM_attempt_39 : decode cM_attempt 39 = .ok (.iload_n 1, 1) := by decide +kernel
theorem dM_attempt_40 : decode cM_attempt 40 = .ok (.ldc 17, 2) := by decide +kernel
theorem dM_attempt_42 : decode cM_attempt 42 = .ok (.iand, 1) := by decide +kernel
theorem dM_attempt_43 : decode cM_attempt 43 = .ok (.aload_n 0, 1) := by decide +kernel
theorem dM_attempt_44 : decode cM_attempt 44 = .ok (.getfield 18, 3) := by decide +kernel
theorem dM_attempt_47 : decode cM_attempt 47 = .ok (.if_icmp .eq 5, 3) := by decide +kernel
theorem dM_attempt_50 : decode cM_attempt 50 = .ok (.iconst 0, 1) := by decide +kernel
theorem dM_attempt_51 : decode cM_attempt 51 = .ok (.ireturn, 1) := by decide +kernel
theorem dM_attempt_52 : decode cM_attempt 52 = .ok (.aload_n 0, 1) := by decide +kernel
theorem dM_attempt_53 : decode cM_attempt 53 = .ok (.invokevirtual 45, 3) := by decide +kernel
theorem dM_attempt_56 : decode cM_attempt 56 = .ok (.istore_n 2, 1) := by decide +kernel
theorem dM_attempt_57 : decode cM_attempt 57 = .ok (.aload_n 0, 1) := by decide +kernel
theorem dM_attempt_58 : decode cM_attempt 58 = .ok (.iload_n 2, 1) := by decide +kernel
theorem dM_attempt_59 : decode cM_attempt 59 = .ok (.iconst 2, 1) := by decide +kernel
theorem dM_attempt_60 : decode cM_attempt 60 = .ok (.invokestatic 58, 3) := by decide +kernel
theorem dM_attempt_63 : decode cM_attempt 63 = .ok (.ifCond .eq 7, 3) := by decide +kernel
theorem dM_attempt_66 : decode cM_attempt 66 = .ok (.iconst 0, 1) := by decide +kernel
theorem dM_attempt_67 : decode cM_attempt 67 = .ok (.goto 7, 3) := by decide +kernel
theorem dM_attempt_70 : decode cM_attempt 70 = .ok (.aload_n 0, 1) := by decide +kernel
theorem dM_attempt_71 : decode cM_attempt 71 = .ok (.getfield 65, 3) := by decide +kernel
theorem dM_attempt_74 : decode cM_attempt 74 = .ok (.putfield 65, 3) := by decide +kernel
theorem dM_attempt_77 : decode cM_attempt 77 = .ok (.iload_n 2, 1) := by decide +kernel
theorem dM_attempt_78 : decode cM_attempt 78 = .ok (.ifCond .ge 7, 3) := by decide +kernel
theorem dM_attempt_81 : decode cM_attempt 81 = .ok (.iconst 1, 1) := by decide +kernel
theorem dM_attempt_82 : decode cM_attempt 82 = .ok (.goto 5, 3) := by decide +kernel
theorem dM_attempt_85 : decode cM_attempt 85 = .ok (.bipush (-3), 2) := by decide +kernel
theorem dM_attempt_87 : decode cM_attempt 87 = .ok (.ireturn, 1) := by decide +kernel
theorem dM_mark_0 : decode cM_mark 0 = .ok (.aload_n 0, 1) := by decide +kernel
theorem dM_mark_1 : decode cM_mark 1 = .ok (.getfield 7, 3) := by decide +kernel
theorem dM_mark_4 : decode cM_mark 4 = .ok (.ifCond .ne 24, 3) := by decide +kernel
theorem dM_mark_7 : decode cM_mark 7 = .ok (.aload_n 0, 1) := by decide +kernel
theorem dM_mark_8 : decode cM_mark 8 = .ok (.aload_n 0, 1) := by decide +kernel
theorem dM_mark_9 : decode cM_mark 9 = .ok (.getfield 18, 3) := by decide +kernel
theorem dM_mark_12 : decode cM_mark 12 = .ok (.aload_n 0, 1) := by decide +kernel
theorem dM_mark_13 : decode cM_mark 13 = .ok (.getfield 65, 3) := by decide +kernel
theorem dM_mark_16 : decode cM_mark 16 = .ok (.aload_n 0, 1) := by decide +kernel
theorem dM_mark_17 : decode cM_mark 17 = .ok (.getfield 68, 3) := by decide +kernel
theorem dM_mark_20 : decode cM_mark 20 = .ok (.invokevirtual 71, 3) := by decide +kernel
theorem dM_mark_23 : decode cM_mark 23 = .ok (.ifCond .ne 5, 3) := by decide +kernel
theorem dM_mark_26 : decode cM_mark 26 = .ok (.iconst 0, 1) := by decide +kernel
theorem dM_mark_27 : decode cM_mark 27 = .ok (.ireturn, 1) := by decide +kernel
theorem dM_mark_28 : decode cM_mark 28 = .ok (.aload_n 0, 1) := by decide +kernel
theorem dM_mark_29 : decode cM_mark 29 = .ok (.invokevirtual 45, 3) := by decide +kernel
theorem dM_mark_32 : decode cM_mark 32 = .ok (.istore_n 2, 1) := by decide +kernel
theorem dM_mark_33 : decode cM_mark 33 = .ok (.iload_n 2, 1) := by decide +kernel
theorem dM_mark_34 : decode cM_mark 34 = .ok (.iload_n 1, 1) := by decide +kernel
theorem dM_mark_35 : decode cM_mark 35 = .ok (.ifCond .eq 8, 3) := by decide +kernel
theorem dM_mark_38 : decode cM_mark 38 = .ok (.bipush 16, 2) := by decide +kernel
theorem dM_mark_40 : decode cM_mark 40 = .ok (.goto 4, 3) := by decide +kernel
theorem dM_mark_43 : decode cM_mark 43 = .ok (.iconst 1, 1) := by decide +kernel
theorem dM_mark_44 : decode cM_mark 44 = .ok (.invokestatic 58, 3) := by decide +kernel
theorem dM_mark_47 : decode cM_mark 47 = .ok (.ifCond .eq 55, 3) := by decide +kernel
theorem dM_mark_50 : decode cM_mark 50 = .ok (.aload_n 0, 1) := by decide +kernel
theorem dM_mark_51 : decode cM_mark 51 = .ok (.dup, 1) := by decide +kernel
theorem dM_mark_52 : decode cM_mark 52 = .ok (.getfield 7, 3) := by decide +kernel
theorem dM_mark_55 : decode cM_mark 55 = .ok (.iconst 1, 1) := by decide +kernel
theorem dM_mark_56 : decode cM_mark 56 = .ok (.isub, 1) := by decide +kernel
theorem dM_mark_57 : decode cM_mark 57 = .ok (.putfield 7, 3) := by decide +kernel
theorem dM_mark_60 : decode cM_mark 60 = .ok (.aload_n 0, 1) := by decide +kernel
theorem dM_mark_61 : decode cM_mark 61 = .ok (.iload_n 1, 1) := by decide +kernel
theorem dM_mark_62 : decode cM_mark 62 = .ok (.ifCond .eq 10, 3) := by decide +kernel
theorem dM_mark_65 : decode cM_mark 65 = .ok (.aload_n 0, 1) := by decide +kernel
theorem dM_mark_66 : decode cM_mark 66 = .ok (.getfield 65, 3) := by decide +kernel
theorem dM_mark_69 : decode cM_mark 69 = .ok (.goto 9, 3) := by decide +kernel
theorem dM_mark_72 : decode cM_mark 72 = .ok (.aload_n 0, 1) := by decide +kernel
theorem dM_mark_73 : decode cM_mark 73 = .ok (.getfield 65, 3) := by decide +kernel
theorem dM_mark_76 : decode cM_mark 76 = .ok (.iconst 1, 1) := by decide +kernel
theorem dM_mark_77 : decode cM_mark 77 = .ok (.iadd, 1) := by decide +kernel
theorem dM_mark_78 : decode cM_mark 78 = .ok (.putfield 65, 3) := by decide +kernel
theorem dM_mark_81 : decode cM_mark 81 = .ok (.aload_n 0, 1) := by decide +kernel
theorem dM_mark_82 : decode cM_mark 82 = .ok (.iload_n 1, 1) := by decide +kernel
theorem dM_mark_83 : decode cM_mark 83 = .ok (.ifCond .eq 12, 3) := by decide +kernel
theorem dM_mark_86 : decode cM_mark 86 = .ok (.aload_n 0, 1) := by decide +kernel
theorem dM_mark_87 : decode cM_mark 87 = .ok (.getfield 68, 3) := by decide +kernel
theorem dM_mark_90 : decode cM_mark 90 = .ok (.iconst 1, 1) := by decide +kernel
theorem dM_mark_91 : decode cM_mark 91 = .ok (.iadd, 1) := by decide +kernel
theorem dM_mark_92 : decode cM_mark 92 = .ok (.goto 7, 3) := by decide +kernel
theorem dM_mark_95 : decode cM_mark 95 = .ok (.aload_n 0, 1) := by decide +kernel
theorem dM_mark_96 : decode cM_mark 96 = .ok (.getfield 68, 3) := by decide +kernel
theorem dM_mark_99 : decode cM_mark 99 = .ok (.putfield 68, 3) := by decide +kernel
theorem dM_mark_102 : decode cM_mark 102 = .ok (.iload_n 2, 1) := by decide +kernel
theorem dM_mark_103 : decode cM_mark 103 = .ok (.ifCond .ge 7, 3) := by decide +kernel
theorem dM_mark_106 : decode cM_mark 106 = .ok (.iconst 1, 1) := by decide +kernel
theorem dM_mark_107 : decode cM_mark 107 = .ok (.goto 4, 3) := by decide +kernel
theorem dM_mark_110 : decode cM_mark 110 = .ok (.iconst 0, 1) := by decide +kernel
theorem dM_mark_111 : decode cM_mark 111 = .ok (.ireturn, 1) := by decide +kernel
theorem dM_turn_0 : decode cM_turn 0 = .ok (.aload_n 0, 1) := by decide +kernel
theorem dM_turn_1 : decode cM_turn 1 = .ok (.getfield 42, 3) := by decide +kernel
theorem dM_turn_4 : decode cM_turn 4 = .ok (.ifCond .eq 38, 3) := by decide +kernel
theorem dM_turn_7 : decode cM_turn 7 = .ok (.aload_n 0, 1) := by decide +kernel
theorem dM_turn_8 : decode cM_turn 8 = .ok (.invokevirtual 45, 3) := by decide +kernel
theorem dM_turn_11 : decode cM_turn 11 = .ok (.istore 4, 2) := by decide +kernel
theorem dM_turn_13 : decode cM_turn 13 = .ok (.aload_n 0, 1) := by decide +kernel
theorem dM_turn_14 : decode cM_turn 14 = .ok (.iload 4, 2) := by decide +kernel
theorem dM_turn_16 : decode cM_turn 16 = .ok (.ifCond .lt 15, 3) := by decide +kernel
theorem dM_turn_19 : decode cM_turn 19 = .ok (.iload 4, 2) := by decide +kernel
theorem dM_turn_21 : decode cM_turn 21 = .ok (.bipush 90, 2) := by decide +kernel
theorem dM_turn_23 : decode cM_turn 23 = .ok (.iand, 1) := by decide +kernel
theorem dM_turn_24 : decode cM_turn 24 = .ok (.ifCond .ne 7, 3) := by decide +kernel
theorem dM_turn_27 : decode cM_turn 27 = .ok (.iconst 1, 1) := by decide +kernel
theorem dM_turn_28 : decode cM_turn 28 = .ok (.goto 4, 3) := by decide +kernel
theorem dM_turn_31 : decode cM_turn 31 = .ok (.iconst 0, 1) := by decide +kernel
theorem dM_turn_32 : decode cM_turn 32 = .ok (.putfield 42, 3) := by decide +kernel
theorem dM_turn_35 : decode cM_turn 35 = .ok (.iload 4, 2) := by decide +kernel
theorem dM_turn_37 : decode cM_turn 37 = .ok (.ifCond .lt 5, 3) := by decide +kernel
theorem dM_turn_40 : decode cM_turn 40 = .ok (.iconst 0, 1) := by decide +kernel
theorem dM_turn_41 : decode cM_turn 41 = .ok (.ireturn, 1) := by decide +kernel
theorem dM_turn_42 : decode cM_turn 42 = .ok (.aload_n 0, 1) := by decide +kernel
theorem dM_turn_43 : decode cM_turn 43 = .ok (.getfield 49, 3) := by decide +kernel
theorem dM_turn_46 : decode cM_turn 46 = .ok (.ifCond .ne 16, 3) := by decide +kernel
theorem dM_turn_49 : decode cM_turn 49 = .ok (.aload_n 0, 1) := by decide +kernel
theorem dM_turn_50 : decode cM_turn 50 = .ok (.dup, 1) := by decide +kernel
theorem dM_turn_51 : decode cM_turn 51 = .ok (.getfield 52, 3) := by decide +kernel
theorem dM_turn_54 : decode cM_turn 54 = .ok (.iconst 1, 1) := by decide +kernel
theorem dM_turn_55 : decode cM_turn 55 = .ok (.iadd, 1) := by decide +kernel
theorem dM_turn_56 : decode cM_turn 56 = .ok (.putfield 52, 3) := by decide +kernel
theorem dM_turn_59 : decode cM_turn 59 = .ok (.goto 13, 3) := by decide +kernel
theorem dM_turn_62 : decode cM_turn 62 = .ok (.aload_n 0, 1) := by decide +kernel
theorem dM_turn_63 : decode cM_turn 63 = .ok (.dup, 1) := by decide +kernel
theorem dM_turn_64 : decode cM_turn 64 = .ok (.getfield 55, 3) := by decide +kernel
theorem dM_turn_67 : decode cM_turn 67 = .ok (.iconst 1, 1) := by decide +kernel
theorem dM_turn_68 : decode cM_turn 68 = .ok (.iadd, 1) := by decide +kernel
theorem dM_turn_69 : decode cM_turn 69 = .ok (.putfield 55, 3) := by decide +kernel
theorem dM_turn_72 : decode cM_turn 72 = .ok (.iconst 0, 1) := by decide +kernel
theorem dM_turn_73 : decode cM_turn 73 = .ok (.istore 4, 2) := by decide +kernel
theorem dM_turn_75 : decode cM_turn 75 = .ok (.iload 4, 2) := by decide +kernel
theorem dM_turn_77 : decode cM_turn 77 = .ok (.bipush 6, 2) := by decide +kernel
theorem dM_turn_79 : decode cM_turn 79 = .ok (.if_icmp .ge 18, 3) := by decide +kernel
theorem dM_turn_82 : decode cM_turn 82 = .ok (.aload_n 0, 1) := by decide +kernel
theorem dM_turn_83 : decode cM_turn 83 = .ok (.invokevirtual 45, 3) := by decide +kernel
theorem dM_turn_86 : decode cM_turn 86 = .ok (.ifCond .lt 5, 3) := by decide +kernel
theorem dM_turn_89 : decode cM_turn 89 = .ok (.iconst 0, 1) := by decide +kernel
theorem dM_turn_90 : decode cM_turn 90 = .ok (.ireturn, 1) := by decide +kernel
theorem dM_turn_91 : decode cM_turn 91 = .ok (.iinc 4 1, 3) := by decide +kernel
theorem dM_turn_94 : decode cM_turn 94 = .ok (.goto (-19), 3) := by decide +kernel
theorem dM_turn_97 : decode cM_turn 97 = .ok (.aload_n 0, 1) := by decide +kernel
theorem dM_turn_98 : decode cM_turn 98 = .ok (.invokevirtual 45, 3) := by decide +kernel
theorem dM_turn_101 : decode cM_turn 101 = .ok (.istore 4, 2) := by decide +kernel
theorem dM_turn_103 : decode cM_turn 103 = .ok (.iload 4, 2) := by decide +kernel
theorem dM_turn_105 : decode cM_turn 105 = .ok (.sipush 165, 3) := by decide +kernel
theorem dM_turn_108 : decode cM_turn 108 = .ok (.invokestatic 58, 3) := by decide +kernel
theorem dM_turn_111 : decode cM_turn 111 = .ok (.ifCond .eq 53, 3) := by decide +kernel
theorem dM_turn_114 : decode cM_turn 114 = .ok (.aload_n 0, 1) := by decide +kernel
theorem dM_turn_115 : decode cM_turn 115 = .ok (.iconst 1, 1) := by decide +kernel
theorem dM_turn_116 : decode cM_turn 116 = .ok (.aload_n 0, 1) := by decide +kernel
theorem dM_turn_117 : decode cM_turn 117 = .ok (.getfield 49, 3) := by decide +kernel
theorem dM_turn_120 : decode cM_turn 120 = .ok (.isub, 1) := by decide +kernel
theorem dM_turn_121 : decode cM_turn 121 = .ok (.putfield 49, 3) := by decide +kernel
theorem dM_turn_124 : decode cM_turn 124 = .ok (.aload_n 0, 1) := by decide +kernel
theorem dM_turn_125 : decode cM_turn 125 = .ok (.aload_n 0, 1) := by decide +kernel
theorem dM_turn_126 : decode cM_turn 126 = .ok (.getfield 62, 3) := by decide +kernel
theorem dM_turn_129 : decode cM_turn 129 = .ok (.iconst 1, 1) := by decide +kernel
theorem dM_turn_130 : decode cM_turn 130 = .ok (.iadd, 1) := by decide +kernel
theorem dM_turn_131 : decode cM_turn 131 = .ok (.sipush 256, 3) := by decide +kernel
theorem dM_turn_134 : decode cM_turn 134 = .ok (.irem, 1) := by decide +kernel
theorem dM_turn_135 : decode cM_turn 135 = .ok (.putfield 62, 3) := by decide +kernel
theorem dM_turn_138 : decode cM_turn 138 = .ok (.aload_n 0, 1) := by decide +kernel
theorem dM_turn_139 : decode cM_turn 139 = .ok (.iload_n 1, 1) := by decide +kernel
theorem dM_turn_140 : decode cM_turn 140 = .ok (.putfield 18, 3) := by decide +kernel
theorem dM_turn_143 : decode cM_turn 143 = .ok (.aload_n 0, 1) := by decide +kernel
theorem dM_turn_144 : decode cM_turn 144 = .ok (.iload_n 2, 1) := by decide +kernel
theorem dM_turn_145 : decode cM_turn 145 = .ok (.putfield 65, 3) := by decide +kernel
theorem dM_turn_148 : decode cM_turn 148 = .ok (.aload_n 0, 1) := by decide +kernel
theorem dM_turn_149 : decode cM_turn 149 = .ok (.iload_n 3, 1) := by decide +kernel
theorem dM_turn_150 : decode cM_turn 150 = .ok (.putfield 68, 3) := by decide +kernel
theorem dM_turn_153 : decode cM_turn 153 = .ok (.aload_n 0, 1) := by decide +kernel
theorem dM_turn_154 : decode cM_turn 154 = .ok (.bipush 10, 2) := by decide +kernel
theorem dM_turn_156 : decode cM_turn 156 = .ok (.putfield 7, 3) := by decide +kernel
theorem dM_turn_159 : decode cM_turn 159 = .ok (.aload_n 0, 1) := by decide +kernel
end
section
theorem dM_turn_160 : decode cM_turn 160 = .ok (.iconst 1, 1) := by decide +kernel
theorem dM_turn_161 : decode cM_turn 161 = .ok (.putfield 42, 3) := by decide +kernel
theorem dM_turn_164 : decode cM_turn 164 = .ok (.iload 4, 2) := by decide +kernel
theorem dM_turn_166 : decode cM_turn 166 = .ok (.ifCond .ge 7, 3) := by decide +kernel
theorem dM_turn_169 : decode cM_turn 169 = .ok (.iconst 1, 1) := by decide +kernel
theorem dM_turn_170 : decode cM_turn 170 = .ok (.goto 4, 3) := by decide +kernel
theorem dM_turn_173 : decode cM_turn 173 = .ok (.iconst 0, 1) := by decide +kernel
theorem dM_turn_174 : decode cM_turn 174 = .ok (.ireturn, 1) := by decide +kernel
theorem dM_operate_0 : decode cM_operate 0 = .ok (.aload_n 0, 1) := by decide +kernel
theorem dM_operate_1 : decode cM_operate 1 = .ok (.dup, 1) := by decide +kernel
theorem dM_operate_2 : decode cM_operate 2 = .ok (.getfield 30, 3) := by decide +kernel
theorem dM_operate_5 : decode cM_operate 5 = .ok (.iconst 1, 1) := by decide +kernel
theorem dM_operate_6 : decode cM_operate 6 = .ok (.iadd, 1) := by decide +kernel
theorem dM_operate_7 : decode cM_operate 7 = .ok (.putfield 30, 3) := by decide +kernel
theorem dM_operate_10 : decode cM_operate 10 = .ok (.aload_n 0, 1) := by decide +kernel
theorem dM_operate_11 : decode cM_operate 11 = .ok (.getfield 33, 3) := by decide +kernel
theorem dM_operate_14 : decode cM_operate 14 = .ok (.iconst 1, 1) := by decide +kernel
theorem dM_operate_15 : decode cM_operate 15 = .ok (.if_icmp .ne 7, 3) := by decide +kernel
theorem dM_operate_18 : decode cM_operate 18 = .ok (.iconst 1, 1) := by decide +kernel
theorem dM_operate_19 : decode cM_operate 19 = .ok (.goto 4, 3) := by decide +kernel
theorem dM_operate_22 : decode cM_operate 22 = .ok (.iconst 0, 1) := by decide +kernel
theorem dM_operate_23 : decode cM_operate 23 = .ok (.istore_n 1, 1) := by decide +kernel
theorem dM_operate_24 : decode cM_operate 24 = .ok (.aload_n 0, 1) := by decide +kernel
theorem dM_operate_25 : decode cM_operate 25 = .ok (.aload_n 0, 1) := by decide +kernel
theorem dM_operate_26 : decode cM_operate 26 = .ok (.getfield 33, 3) := by decide +kernel
theorem dM_operate_29 : decode cM_operate 29 = .ok (.ifCond .le 12, 3) := by decide +kernel
theorem dM_operate_32 : decode cM_operate 32 = .ok (.aload_n 0, 1) := by decide +kernel
theorem dM_operate_33 : decode cM_operate 33 = .ok (.getfield 33, 3) := by decide +kernel
theorem dM_operate_36 : decode cM_operate 36 = .ok (.iconst 1, 1) := by decide +kernel
theorem dM_operate_37 : decode cM_operate 37 = .ok (.isub, 1) := by decide +kernel
theorem dM_operate_38 : decode cM_operate 38 = .ok (.goto 4, 3) := by decide +kernel
theorem dM_operate_41 : decode cM_operate 41 = .ok (.iconst 0, 1) := by decide +kernel
theorem dM_operate_42 : decode cM_operate 42 = .ok (.putfield 33, 3) := by decide +kernel
theorem dM_operate_45 : decode cM_operate 45 = .ok (.iload_n 1, 1) := by decide +kernel
theorem dM_operate_46 : decode cM_operate 46 = .ok (.ifCond .ne 5, 3) := by decide +kernel
theorem dM_operate_49 : decode cM_operate 49 = .ok (.iconst (-1), 1) := by decide +kernel
theorem dM_operate_50 : decode cM_operate 50 = .ok (.ireturn, 1) := by decide +kernel
theorem dM_operate_51 : decode cM_operate 51 = .ok (.aload_n 0, 1) := by decide +kernel
theorem dM_operate_52 : decode cM_operate 52 = .ok (.iconst 0, 1) := by decide +kernel
theorem dM_operate_53 : decode cM_operate 53 = .ok (.putfield 13, 3) := by decide +kernel
theorem dM_operate_56 : decode cM_operate 56 = .ok (.aload_n 0, 1) := by decide +kernel
theorem dM_operate_57 : decode cM_operate 57 = .ok (.iconst 0, 1) := by decide +kernel
theorem dM_operate_58 : decode cM_operate 58 = .ok (.putfield 36, 3) := by decide +kernel
theorem dM_operate_61 : decode cM_operate 61 = .ok (.aload_n 0, 1) := by decide +kernel
theorem dM_operate_62 : decode cM_operate 62 = .ok (.getfield 39, 3) := by decide +kernel
theorem dM_operate_65 : decode cM_operate 65 = .ok (.ireturn, 1) := by decide +kernel
theorem dM_all_0 : decode cM_all 0 = .ok (.iload_n 0, 1) := by decide +kernel
theorem dM_all_1 : decode cM_all 1 = .ok (.ifCond .lt 10, 3) := by decide +kernel
theorem dM_all_4 : decode cM_all 4 = .ok (.iload_n 0, 1) := by decide +kernel
theorem dM_all_5 : decode cM_all 5 = .ok (.iload_n 1, 1) := by decide +kernel
theorem dM_all_6 : decode cM_all 6 = .ok (.iand, 1) := by decide +kernel
theorem dM_all_7 : decode cM_all 7 = .ok (.iload_n 1, 1) := by decide +kernel
theorem dM_all_8 : decode cM_all 8 = .ok (.if_icmp .ne 7, 3) := by decide +kernel
theorem dM_all_11 : decode cM_all 11 = .ok (.iconst 1, 1) := by decide +kernel
theorem dM_all_12 : decode cM_all 12 = .ok (.goto 4, 3) := by decide +kernel
theorem dM_all_15 : decode cM_all 15 = .ok (.iconst 0, 1) := by decide +kernel
theorem dM_all_16 : decode cM_all 16 = .ok (.ireturn, 1) := by decide +kernel
theorem dM_change_0 : decode cM_change 0 = .ok (.aload_n 0, 1) := by decide +kernel
theorem dM_change_1 : decode cM_change 1 = .ok (.iload_n 1, 1) := by decide +kernel
theorem dM_change_2 : decode cM_change 2 = .ok (.invokevirtual 79, 3) := by decide +kernel
theorem dM_change_5 : decode cM_change 5 = .ok (.istore_n 3, 1) := by decide +kernel
theorem dM_change_6 : decode cM_change 6 = .ok (.iload_n 3, 1) := by decide +kernel
theorem dM_change_7 : decode cM_change 7 = .ok (.iconst 1, 1) := by decide +kernel
theorem dM_change_8 : decode cM_change 8 = .ok (.if_icmp .ne 22, 3) := by decide +kernel
theorem dM_change_11 : decode cM_change 11 = .ok (.aload_n 0, 1) := by decide +kernel
theorem dM_change_12 : decode cM_change 12 = .ok (.iload_n 2, 1) := by decide +kernel
theorem dM_change_13 : decode cM_change 13 = .ok (.ldc 17, 2) := by decide +kernel
theorem dM_change_15 : decode cM_change 15 = .ok (.iand, 1) := by decide +kernel
theorem dM_change_16 : decode cM_change 16 = .ok (.iconst 0, 1) := by decide +kernel
theorem dM_change_17 : decode cM_change 17 = .ok (.aload_n 0, 1) := by decide +kernel
theorem dM_change_18 : decode cM_change 18 = .ok (.getfield 68, 3) := by decide +kernel
theorem dM_change_21 : decode cM_change 21 = .ok (.invokevirtual 71, 3) := by decide +kernel
theorem dM_change_24 : decode cM_change 24 = .ok (.ifCond .ne 6, 3) := by decide +kernel
theorem dM_change_27 : decode cM_change 27 = .ok (.bipush (-3), 2) := by decide +kernel
theorem dM_change_29 : decode cM_change 29 = .ok (.istore_n 3, 1) := by decide +kernel
theorem dM_change_30 : decode cM_change 30 = .ok (.aload_n 0, 1) := by decide +kernel
theorem dM_change_31 : decode cM_change 31 = .ok (.aload_n 0, 1) := by decide +kernel
theorem dM_change_32 : decode cM_change 32 = .ok (.getfield 36, 3) := by decide +kernel
theorem dM_change_35 : decode cM_change 35 = .ok (.ifCond .ne 8, 3) := by decide +kernel
theorem dM_change_38 : decode cM_change 38 = .ok (.iload_n 3, 1) := by decide +kernel
theorem dM_change_39 : decode cM_change 39 = .ok (.iconst 1, 1) := by decide +kernel
theorem dM_change_40 : decode cM_change 40 = .ok (.if_icmp .ne 7, 3) := by decide +kernel
theorem dM_change_43 : decode cM_change 43 = .ok (.iconst 1, 1) := by decide +kernel
theorem dM_change_44 : decode cM_change 44 = .ok (.goto 4, 3) := by decide +kernel
theorem dM_change_47 : decode cM_change 47 = .ok (.iconst 0, 1) := by decide +kernel
theorem dM_change_48 : decode cM_change 48 = .ok (.putfield 36, 3) := by decide +kernel
theorem dM_change_51 : decode cM_change 51 = .ok (.iload_n 3, 1) := by decide +kernel
theorem dM_change_52 : decode cM_change 52 = .ok (.ireturn, 1) := by decide +kernel
theorem dM_unblock_0 : decode cM_unblock 0 = .ok (.aload_n 0, 1) := by decide +kernel
theorem dM_unblock_1 : decode cM_unblock 1 = .ok (.getfield 13, 3) := by decide +kernel
theorem dM_unblock_4 : decode cM_unblock 4 = .ok (.ifCond .ne 5, 3) := by decide +kernel
theorem dM_unblock_7 : decode cM_unblock 7 = .ok (.iconst (-1), 1) := by decide +kernel
theorem dM_unblock_8 : decode cM_unblock 8 = .ok (.ireturn, 1) := by decide +kernel
theorem dM_unblock_9 : decode cM_unblock 9 = .ok (.aload_n 0, 1) := by decide +kernel
theorem dM_unblock_10 : decode cM_unblock 10 = .ok (.getfield 68, 3) := by decide +kernel
theorem dM_unblock_13 : decode cM_unblock 13 = .ok (.aload_n 0, 1) := by decide +kernel
theorem dM_unblock_14 : decode cM_unblock 14 = .ok (.getfield 27, 3) := by decide +kernel
theorem dM_unblock_17 : decode cM_unblock 17 = .ok (.if_icmp .lt 6, 3) := by decide +kernel
theorem dM_unblock_20 : decode cM_unblock 20 = .ok (.bipush (-2), 2) := by decide +kernel
theorem dM_unblock_22 : decode cM_unblock 22 = .ok (.ireturn, 1) := by decide +kernel
theorem dM_unblock_23 : decode cM_unblock 23 = .ok (.aload_n 0, 1) := by decide +kernel
theorem dM_unblock_24 : decode cM_unblock 24 = .ok (.iconst 0, 1) := by decide +kernel
theorem dM_unblock_25 : decode cM_unblock 25 = .ok (.putfield 36, 3) := by decide +kernel
theorem dM_unblock_28 : decode cM_unblock 28 = .ok (.aload_n 0, 1) := by decide +kernel
theorem dM_unblock_29 : decode cM_unblock 29 = .ok (.iconst 1, 1) := by decide +kernel
theorem dM_unblock_30 : decode cM_unblock 30 = .ok (.invokevirtual 75, 3) := by decide +kernel
theorem dM_unblock_33 : decode cM_unblock 33 = .ok (.ifCond .ne 6, 3) := by decide +kernel
theorem dM_unblock_36 : decode cM_unblock 36 = .ok (.bipush (-3), 2) := by decide +kernel
theorem dM_unblock_38 : decode cM_unblock 38 = .ok (.ireturn, 1) := by decide +kernel
theorem dM_unblock_39 : decode cM_unblock 39 = .ok (.iload_n 1, 1) := by decide +kernel
theorem dM_unblock_40 : decode cM_unblock 40 = .ok (.aload_n 0, 1) := by decide +kernel
theorem dM_unblock_41 : decode cM_unblock 41 = .ok (.getfield 21, 3) := by decide +kernel
theorem dM_unblock_44 : decode cM_unblock 44 = .ok (.if_icmp .eq 5, 3) := by decide +kernel
theorem dM_unblock_47 : decode cM_unblock 47 = .ok (.iconst 0, 1) := by decide +kernel
theorem dM_unblock_48 : decode cM_unblock 48 = .ok (.ireturn, 1) := by decide +kernel
theorem dM_unblock_49 : decode cM_unblock 49 = .ok (.aload_n 0, 1) := by decide +kernel
theorem dM_unblock_50 : decode cM_unblock 50 = .ok (.iload_n 2, 1) := by decide +kernel
theorem dM_unblock_51 : decode cM_unblock 51 = .ok (.ldc 17, 2) := by decide +kernel
theorem dM_unblock_53 : decode cM_unblock 53 = .ok (.iand, 1) := by decide +kernel
theorem dM_unblock_54 : decode cM_unblock 54 = .ok (.iconst 0, 1) := by decide +kernel
theorem dM_unblock_55 : decode cM_unblock 55 = .ok (.iconst 0, 1) := by decide +kernel
theorem dM_unblock_56 : decode cM_unblock 56 = .ok (.invokevirtual 71, 3) := by decide +kernel
theorem dM_unblock_59 : decode cM_unblock 59 = .ok (.ifCond .eq 7, 3) := by decide +kernel
theorem dM_unblock_62 : decode cM_unblock 62 = .ok (.iconst 1, 1) := by decide +kernel
theorem dM_unblock_63 : decode cM_unblock 63 = .ok (.goto 5, 3) := by decide +kernel
theorem dM_unblock_66 : decode cM_unblock 66 = .ok (.bipush (-3), 2) := by decide +kernel
theorem dM_unblock_68 : decode cM_unblock 68 = .ok (.ireturn, 1) := by decide +kernel
theorem dM_arm_0 : decode cM_arm 0 = .ok (.iload_n 1, 1) := by decide +kernel
theorem dM_arm_1 : decode cM_arm 1 = .ok (.ifCond .lt 33, 3) := by decide +kernel
theorem dM_arm_4 : decode cM_arm 4 = .ok (.iload_n 1, 1) := by decide +kernel
theorem dM_arm_5 : decode cM_arm 5 = .ok (.bipush 30, 2) := by decide +kernel
theorem dM_arm_7 : decode cM_arm 7 = .ok (.if_icmp .gt 27, 3) := by decide +kernel
theorem dM_arm_10 : decode cM_arm 10 = .ok (.iload_n 2, 1) := by decide +kernel
theorem dM_arm_11 : decode cM_arm 11 = .ok (.ifCond .lt 23, 3) := by decide +kernel
theorem dM_arm_14 : decode cM_arm 14 = .ok (.iload_n 2, 1) := by decide +kernel
theorem dM_arm_15 : decode cM_arm 15 = .ok (.sipush 255, 3) := by decide +kernel
theorem dM_arm_18 : decode cM_arm 18 = .ok (.if_icmp .gt 16, 3) := by decide +kernel
theorem dM_arm_21 : decode cM_arm 21 = .ok (.iload_n 1, 1) := by decide +kernel
theorem dM_arm_22 : decode cM_arm 22 = .ok (.ifCond .eq 14, 3) := by decide +kernel
theorem dM_arm_25 : decode cM_arm 25 = .ok (.aload_n 0, 1) := by decide +kernel
theorem dM_arm_26 : decode cM_arm 26 = .ok (.getfield 83, 3) := by decide +kernel
theorem dM_arm_29 : decode cM_arm 29 = .ok (.bipush 40, 2) := by decide +kernel
theorem dM_arm_31 : decode cM_arm 31 = .ok (.if_icmp .ne 5, 3) := by decide +kernel
theorem dM_arm_34 : decode cM_arm 34 = .ok (.iconst 0, 1) := by decide +kernel
theorem dM_arm_35 : decode cM_arm 35 = .ok (.ireturn, 1) := by decide +kernel
theorem dM_arm_36 : decode cM_arm 36 = .ok (.aload_n 0, 1) := by decide +kernel
theorem dM_arm_37 : decode cM_arm 37 = .ok (.iload_n 1, 1) := by decide +kernel
theorem dM_arm_38 : decode cM_arm 38 = .ok (.ifCond .ne 10, 3) := by decide +kernel
theorem dM_arm_41 : decode cM_arm 41 = .ok (.aload_n 0, 1) := by decide +kernel
theorem dM_arm_42 : decode cM_arm 42 = .ok (.getfield 83, 3) := by decide +kernel
theorem dM_arm_45 : decode cM_arm 45 = .ok (.goto 9, 3) := by decide +kernel
theorem dM_arm_48 : decode cM_arm 48 = .ok (.aload_n 0, 1) := by decide +kernel
theorem dM_arm_49 : decode cM_arm 49 = .ok (.getfield 83, 3) := by decide +kernel
theorem dM_arm_52 : decode cM_arm 52 = .ok (.iconst 1, 1) := by decide +kernel
theorem dM_arm_53 : decode cM_arm 53 = .ok (.iadd, 1) := by decide +kernel
theorem dM_arm_54 : decode cM_arm 54 = .ok (.putfield 83, 3) := by decide +kernel
theorem dM_arm_57 : decode cM_arm 57 = .ok (.aload_n 0, 1) := by decide +kernel
theorem dM_arm_58 : decode cM_arm 58 = .ok (.iload_n 1, 1) := by decide +kernel
theorem dM_arm_59 : decode cM_arm 59 = .ok (.putfield 33, 3) := by decide +kernel
theorem dM_arm_62 : decode cM_arm 62 = .ok (.aload_n 0, 1) := by decide +kernel
theorem dM_arm_63 : decode cM_arm 63 = .ok (.iload_n 2, 1) := by decide +kernel
theorem dM_arm_64 : decode cM_arm 64 = .ok (.putfield 39, 3) := by decide +kernel
theorem dM_arm_67 : decode cM_arm 67 = .ok (.iconst 1, 1) := by decide +kernel
theorem dM_arm_68 : decode cM_arm 68 = .ok (.ireturn, 1) := by decide +kernel
theorem dM_cut_0 : decode cM_cut 0 = .ok (.aload_n 0, 1) := by decide +kernel
theorem dM_cut_1 : decode cM_cut 1 = .ok (.getfield 13, 3) := by decide +kernel
theorem dM_cut_4 : decode cM_cut 4 = .ok (.istore_n 1, 1) := by decide +kernel
theorem dM_cut_5 : decode cM_cut 5 = .ok (.aload_n 0, 1) := by decide +kernel
theorem dM_cut_6 : decode cM_cut 6 = .ok (.iconst 0, 1) := by decide +kernel
theorem dM_cut_7 : decode cM_cut 7 = .ok (.putfield 13, 3) := by decide +kernel
theorem dM_cut_10 : decode cM_cut 10 = .ok (.aload_n 0, 1) := by decide +kernel
theorem dM_cut_11 : decode cM_cut 11 = .ok (.iconst 0, 1) := by decide +kernel
theorem dM_cut_12 : decode cM_cut 12 = .ok (.putfield 36, 3) := by decide +kernel
theorem dM_cut_15 : decode cM_cut 15 = .ok (.iload_n 1, 1) := by decide +kernel
theorem dM_cut_16 : decode cM_cut 16 = .ok (.ireturn, 1) := by decide +kernel
theorem dM_start_0 : decode cM_start 0 = .ok (.aload_n 0, 1) := by decide +kernel
theorem dM_start_1 : decode cM_start 1 = .ok (.getfield 13, 3) := by decide +kernel
theorem dM_start_4 : decode cM_start 4 = .ok (.istore_n 1, 1) := by decide +kernel
theorem dM_start_5 : decode cM_start 5 = .ok (.aload_n 0, 1) := by decide +kernel
theorem dM_start_6 : decode cM_start 6 = .ok (.iconst 1, 1) := by decide +kernel
theorem dM_start_7 : decode cM_start 7 = .ok (.putfield 13, 3) := by decide +kernel
theorem dM_start_10 : decode cM_start 10 = .ok (.iload_n 1, 1) := by decide +kernel
theorem dM_start_11 : decode cM_start 11 = .ok (.ifCond .ne 7, 3) := by decide +kernel
theorem dM_start_14 : decode cM_start 14 = .ok (.iconst 1, 1) := by decide +kernel
theorem dM_start_15 : decode cM_start 15 = .ok (.goto 4, 3) := by decide +kernel
theorem dM_start_18 : decode cM_start 18 = .ok (.iconst 0, 1) := by decide +kernel
theorem dM_start_19 : decode cM_start 19 = .ok (.ireturn, 1) := by decide +kernel
theorem dM_in_0 : decode cM_in 0 = .ok (.aload_n 0, 1) := by decide +kernel
theorem dM_in_1 : decode cM_in 1 = .ok (.getfield 36, 3) := by decide +kernel
theorem dM_in_4 : decode cM_in 4 = .ok (.ireturn, 1) := by decide +kernel
theorem dM_up_0 : decode cM_up 0 = .ok (.aload_n 0, 1) := by decide +kernel
theorem dM_up_1 : decode cM_up 1 = .ok (.getfield 13, 3) := by decide +kernel
theorem dM_up_4 : decode cM_up 4 = .ok (.ireturn, 1) := by decide +kernel
theorem dM_tries_0 : decode cM_tries 0 = .ok (.aload_n 0, 1) := by decide +kernel
theorem dM_tries_1 : decode cM_tries 1 = .ok (.getfield 65, 3) := by decide +kernel
theorem dM_tries_4 : decode cM_tries 4 = .ok (.aload_n 0, 1) := by decide +kernel
theorem dM_tries_5 : decode cM_tries 5 = .ok (.getfield 24, 3) := by decide +kernel
theorem dM_tries_8 : decode cM_tries 8 = .ok (.if_icmp .ge 15, 3) := by decide +kernel
theorem dM_tries_11 : decode cM_tries 11 = .ok (.aload_n 0, 1) := by decide +kernel
theorem dM_tries_12 : decode cM_tries 12 = .ok (.getfield 24, 3) := by decide +kernel
theorem dM_tries_15 : decode cM_tries 15 = .ok (.aload_n 0, 1) := by decide +kernel
theorem dM_tries_16 : decode cM_tries 16 = .ok (.getfield 65, 3) := by decide +kernel
theorem dM_tries_19 : decode cM_tries 19 = .ok (.isub, 1) := by decide +kernel
theorem dM_tries_20 : decode cM_tries 20 = .ok (.goto 4, 3) := by decide +kernel
theorem dM_tries_23 : decode cM_tries 23 = .ok (.iconst 0, 1) := by decide +kernel
theorem dM_tries_24 : decode cM_tries 24 = .ok (.ireturn, 1) := by decide +kernel
theorem dM_puks_0 : decode cM_puks 0 = .ok (.aload_n 0, 1) := by decide +kernel
theorem dM_puks_1 : decode cM_puks 1 = .ok (.getfield 68, 3) := by decide +kernel
theorem dM_puks_4 : decode cM_puks 4 = .ok (.aload_n 0, 1) := by decide +kernel
theorem dM_puks_5 : decode cM_puks 5 = .ok (.getfield 27, 3) := by decide +kernel
theorem dM_puks_8 : decode cM_puks 8 = .ok (.if_icmp .ge 15, 3) := by decide +kernel
theorem dM_puks_11 : decode cM_puks 11 = .ok (.aload_n 0, 1) := by decide +kernel
theorem dM_puks_12 : decode cM_puks 12 = .ok (.getfield 27, 3) := by decide +kernel
theorem dM_puks_15 : decode cM_puks 15 = .ok (.aload_n 0, 1) := by decide +kernel
theorem dM_puks_16 : decode cM_puks 16 = .ok (.getfield 68, 3) := by decide +kernel
theorem dM_puks_19 : decode cM_puks 19 = .ok (.isub, 1) := by decide +kernel
theorem dM_puks_20 : decode cM_puks 20 = .ok (.goto 4, 3) := by decide +kernel
theorem dM_puks_23 : decode cM_puks 23 = .ok (.iconst 0, 1) := by decide +kernel
theorem dM_puks_24 : decode cM_puks 24 = .ok (.ireturn, 1) := by decide +kernel
theorem dM_page_0 : decode cM_page 0 = .ok (.aload_n 0, 1) := by decide +kernel
theorem dM_page_1 : decode cM_page 1 = .ok (.getfield 49, 3) := by decide +kernel
theorem dM_page_4 : decode cM_page 4 = .ok (.ireturn, 1) := by decide +kernel
theorem dM_generation_0 : decode cM_generation 0 = .ok (.aload_n 0, 1) := by decide +kernel
theorem dM_generation_1 : decode cM_generation 1 = .ok (.getfield 62, 3) := by decide +kernel
theorem dM_generation_4 : decode cM_generation 4 = .ok (.ireturn, 1) := by decide +kernel
theorem dM_free_0 : decode cM_free 0 = .ok (.aload_n 0, 1) := by decide +kernel
theorem dM_free_1 : decode cM_free 1 = .ok (.getfield 7, 3) := by decide +kernel
theorem dM_free_4 : decode cM_free 4 = .ok (.ireturn, 1) := by decide +kernel
theorem dM_operations_0 : decode cM_operations 0 = .ok (.aload_n 0, 1) := by decide +kernel
theorem dM_operations_1 : decode cM_operations 1 = .ok (.getfield 30, 3) := by decide +kernel
theorem dM_operations_4 : decode cM_operations 4 = .ok (.ireturn, 1) := by decide +kernel
theorem dM_erased_0 : decode cM_erased 0 = .ok (.iload_n 1, 1) := by decide +kernel
theorem dM_erased_1 : decode cM_erased 1 = .ok (.ifCond .ne 10, 3) := by decide +kernel
theorem dM_erased_4 : decode cM_erased 4 = .ok (.aload_n 0, 1) := by decide +kernel
theorem dM_erased_5 : decode cM_erased 5 = .ok (.getfield 55, 3) := by decide +kernel
theorem dM_erased_8 : decode cM_erased 8 = .ok (.goto 16, 3) := by decide +kernel
theorem dM_erased_11 : decode cM_erased 11 = .ok (.iload_n 1, 1) := by decide +kernel
theorem dM_erased_12 : decode cM_erased 12 = .ok (.iconst 1, 1) := by decide +kernel
theorem dM_erased_13 : decode cM_erased 13 = .ok (.if_icmp .ne 10, 3) := by decide +kernel
theorem dM_erased_16 : decode cM_erased 16 = .ok (.aload_n 0, 1) := by decide +kernel
theorem dM_erased_17 : decode cM_erased 17 = .ok (.getfield 52, 3) := by decide +kernel
theorem dM_erased_20 : decode cM_erased 20 = .ok (.goto 4, 3) := by decide +kernel
theorem dM_erased_23 : decode cM_erased 23 = .ok (.iconst 0, 1) := by decide +kernel
theorem dM_erased_24 : decode cM_erased 24 = .ok (.ireturn, 1) := by decide +kernel
end
section
set_option maxRecDepth 20000 in
theorem gM_verify_M_attempt : GoodIn wsM_verify (wsV RM 79 RM yM_attempt wsM_attempt) := goodIn_r _ [1, 2, 3, 4, 5, 6, 7, 8, 9, 10, 11, 12, 4, 13, 14, 15, 16, 17, 18, 19, 20, 21, 22, 23, 24, 25, 26, 27, 28, 29, 30, 31, 32, 33, 34, 35, 36, 37, 38, 39, 40, 41, 42, 43, 44, 45, 46, 47, 48, 49, 50, 51, 52, 53, 54] (by decide +kernel) (by decide +kernel)
set_option maxRecDepth 20000 in
theorem gM_attempt_M_mark : GoodIn wsM_attempt (wsV RM 75 RM yM_mark wsM_mark) := goodIn_r _ [5, 6, 7, 8, 9, 10, 11, 2, 12, 13, 14, 15, 8, 16, 17, 18, 19, 20, 21, 22, 23, 1, 4, 24, 25, 26, 27, 28, 29, 30, 31, 33, 34, 35, 36, 37, 38, 39, 40, 41, 42, 43, 44, 45, 46, 47, 48, 49, 50] (by decide +kernel) (by decide +kernel)
set_option maxRecDepth 20000 in
theorem gM_attempt_M_operate : GoodIn wsM_attempt (wsV RM 45 RM yM_operate wsM_operate) := goodIn_r _ [18, 19, 20, 8, 21, 22, 23, 1, 4, 24, 33, 34, 35, 36, 37, 38, 39, 40, 41, 42, 43, 44, 45, 46, 47, 48, 49, 50] (by decide +kernel) (by decide +kernel)
set_option maxRecDepth 20000 in
theorem gM_attempt_M_all : GoodIn wsM_attempt (va_wsS RM 58 yM_all wsM_all) := goodIn_r _ [28, 29, 8, 30, 33, 34, 35, 36, 37, 38, 39, 40, 41, 42, 43, 44, 45, 46, 47, 48, 49, 50] (by decide +kernel) (by decide +kernel)
set_option maxRecDepth 20000 in
theorem gM_mark_M_turn : GoodIn wsM_mark (wsV RM 71 RM yM_turn wsM_turn) := goodIn_r _ [5, 6, 7, 8, 9, 10, 11, 12, 13, 8, 14, 15, 16, 17, 18, 19, 20, 21, 22, 23, 24, 25, 26, 2, 3, 4, 1, 27, 28, 29, 30, 31, 32, 33, 34, 35, 36, 37, 38, 39, 40, 41, 42, 43, 44] (by decide +kernel) (by decide +kernel)
set_option maxRecDepth 20000 in
theorem gM_mark_M_operate : GoodIn wsM_mark (wsV RM 45 RM yM_operate wsM_operate) := goodIn_r _ [11, 12, 13, 8, 14, 15, 16, 17, 18, 19, 27, 28, 29, 30, 31, 32, 33, 34, 35, 36, 37, 38, 39, 40, 41, 42, 43, 44] (by decide +kernel) (by decide +kernel)
set_option maxRecDepth 20000 in
theorem gM_mark_M_all : GoodIn wsM_mark (va_wsS RM 58 yM_all wsM_all) := goodIn_r _ [23, 24, 8, 25, 27, 28, 29, 30, 31, 32, 33, 34, 35, 36, 37, 38, 39, 40, 41, 42, 43, 44] (by decide +kernel) (by decide +kernel)
set_option maxRecDepth 20000 in
theorem gM_turn_M_operate : GoodIn wsM_turn (wsV RM 45 RM yM_operate wsM_operate) := goodIn_r _ [2, 3, 4, 5, 6, 7, 8, 9, 10, 11, 23, 24, 25, 26, 27, 28, 29, 30, 31, 32, 33, 34, 35, 36, 37, 38, 39, 40] (by decide +kernel) (by decide +kernel)
set_option maxRecDepth 20000 in
theorem gM_turn_M_all : GoodIn wsM_turn (va_wsS RM 58 yM_all wsM_all) := goodIn_r _ [15, 16, 5, 17, 23, 24, 25, 26, 27, 28, 29, 30, 31, 32, 33, 34, 35, 36, 37, 38, 39, 40] (by decide +kernel) (by decide +kernel)
set_option maxRecDepth 20000 in
theorem gM_change_M_attempt : GoodIn wsM_change (wsV RM 79 RM yM_attempt wsM_attempt) := goodIn_r _ [1, 2, 3, 4, 5, 6, 7, 8, 9, 10, 11, 12, 4, 13, 14, 15, 16, 17, 18, 19, 20, 21, 22, 23, 24, 25, 26, 27, 28, 29, 30, 31, 32, 33, 34, 35, 36, 37, 38, 39, 40, 41, 42, 43, 44, 45, 46, 47, 48, 49, 50, 51, 52, 53, 54] (by decide +kernel) (by decide +kernel)
set_option maxRecDepth 20000 in
theorem gM_change_M_turn : GoodIn wsM_change (wsV RM 71 RM yM_turn wsM_turn) := goodIn_r _ [17, 18, 19, 4, 20, 21, 22, 23, 24, 4, 25, 26, 27, 6, 9, 28, 29, 30, 31, 32, 33, 34, 35, 15, 7, 16, 14, 37, 38, 39, 40, 41, 42, 43, 44, 45, 46, 47, 48, 49, 50, 51, 52, 53, 54] (by decide +kernel) (by decide +kernel)
set_option maxRecDepth 20000 in
theorem gM_unblock_M_mark : GoodIn wsM_unblock (wsV RM 75 RM yM_mark wsM_mark) := goodIn_r _ [5, 6, 7, 8, 9, 10, 11, 12, 2, 13, 14, 15, 8, 16, 17, 18, 19, 20, 21, 22, 23, 1, 4, 24, 25, 26, 27, 28, 29, 30, 31, 34, 35, 36, 37, 38, 39, 40, 41, 42, 43, 44, 45, 46, 47, 48, 49, 50, 51] (by decide +kernel) (by decide +kernel)
set_option maxRecDepth 20000 in
theorem gM_unblock_M_turn : GoodIn wsM_unblock (wsV RM 71 RM yM_turn wsM_turn) := goodIn_r _ [13, 14, 15, 8, 16, 17, 18, 19, 20, 8, 21, 22, 23, 1, 4, 24, 25, 26, 27, 28, 29, 30, 31, 11, 12, 2, 10, 34, 35, 36, 37, 38, 39, 40, 41, 42, 43, 44, 45, 46, 47, 48, 49, 50, 51] (by decide +kernel) (by decide +kernel)
set_option maxRecDepth 20000 in
theorem gL_law_L_cell : GoodIn lw_tbl (va_wsS RL 9 yL_cell wsL_cell) := goodIn_r _ [245, 246, 10, 247] (by decide +kernel) (by decide +kernel)
set_option maxRecDepth 20000 in
theorem gL_law_X2_init : GoodIn lw_tbl (wsX2_init) := goodIn_r _ [20, 21, 22, 23, 24, 25, 12, 65, 47, 48, 13, 49, 66, 67, 68, 69, 70, 71, 72, 26, 27, 28, 29, 46, 30, 31, 32, 33, 34, 50, 51, 52, 53, 58, 54, 55, 56, 57, 62, 63, 11, 64, 35, 37, 39, 41, 43, 73, 75, 77, 79, 81, 83, 85, 87, 59] (by decide +kernel) (by decide +kernel)
set_option maxRecDepth 20000 in
theorem gL_law_M_init : GoodIn lw_tbl (wsM_init) := goodIn_r _ [252, 253, 22, 23, 263, 265, 254, 260, 257, 255, 256, 273, 275, 277, 279, 281, 283, 285, 287, 289, 291, 293, 295, 297, 299, 301, 303, 305, 307] (by decide +kernel) (by decide +kernel)
set_option maxRecDepth 20000 in
theorem gL_law_X2_verify : GoodIn lw_tbl (wsV RL 21 RX2 yX2_verify wsX2_verify) := goodIn_r _ [90, 91, 92, 11, 93, 49, 71, 94, 96, 0, 11, 97, 70, 66, 68, 98, 99, 100, 13, 101, 58, 102, 103, 104, 105, 106, 108, 1, 109, 110, 111, 112, 12, 113, 30, 114, 116, 2, 117, 118, 119, 120, 121, 122, 124, 3, 125, 126, 127, 128, 129, 130, 131, 132, 133, 134, 135, 136, 137, 138, 139, 140, 141, 142, 34, 143, 145, 4, 146, 32, 33, 147, 148, 149, 150, 31, 151, 152, 153, 154, 156, 5, 157, 158, 159, 160, 161, 162, 73, 75, 77, 79, 81, 83, 85, 87, 59, 35, 37, 39, 41, 43] (by decide +kernel) (by decide +kernel)
set_option maxRecDepth 20000 in
theorem gL_law_M_verify : GoodIn lw_tbl (wsV RL 25 RM yM_verify wsM_verify) := goodIn_r _ [310, 311, 312, 14, 313, 314, 316, 6, 14, 317, 265, 261, 255, 266, 318, 320, 7, 321, 263, 260, 262, 322, 324, 8, 325, 264, 326, 328, 9, 329, 270, 267, 268, 258, 272, 271, 330, 331, 332, 259, 254, 273, 275, 277, 279, 281, 283, 285, 287, 289, 291, 293, 295, 297, 299, 301, 303, 305, 307] (by decide +kernel) (by decide +kernel)
set_option maxRecDepth 20000 in
theorem gL_law_X2_change : GoodIn lw_tbl (wsV RL 26 RX2 yX2_change wsX2_change) := goodIn_r _ [163, 164, 165, 11, 166, 49, 66, 71, 94, 96, 0, 11, 97, 70, 68, 98, 99, 100, 13, 101, 58, 102, 103, 104, 105, 106, 108, 1, 109, 110, 111, 112, 12, 113, 30, 114, 116, 2, 117, 118, 119, 120, 121, 122, 124, 3, 125, 126, 127, 128, 129, 130, 131, 132, 133, 134, 135, 136, 137, 138, 139, 140, 141, 142, 34, 143, 145, 4, 146, 32, 33, 147, 148, 149, 150, 31, 151, 152, 153, 154, 156, 5, 157, 158, 159, 160, 161, 162, 167, 168, 73, 75, 77, 79, 81, 83, 85, 87, 59, 35, 37, 39, 41, 43] (by decide +kernel) (by decide +kernel)
set_option maxRecDepth 20000 in
theorem gL_law_M_change : GoodIn lw_tbl (wsV RL 30 RM yM_change wsM_change) := goodIn_r _ [333, 334, 335, 14, 336, 314, 316, 6, 14, 317, 265, 261, 255, 266, 318, 320, 7, 321, 263, 260, 262, 322, 324, 8, 325, 264, 326, 328, 9, 329, 270, 267, 268, 258, 272, 271, 330, 331, 332, 259, 254, 273, 275, 277, 279, 281, 283, 285, 287, 289, 291, 293, 295, 297, 299, 301, 303, 305, 307] (by decide +kernel) (by decide +kernel)
set_option maxRecDepth 20000 in
theorem gL_law_X2_unblock : GoodIn lw_tbl (wsV RL 31 RX2 yX2_unblock wsX2_unblock) := goodIn_r _ [169, 170, 171, 11, 172, 70, 66, 69, 71, 67, 49, 167, 132, 133, 13, 134, 58, 102, 103, 104, 105, 106, 108, 1, 109, 110, 111, 112, 12, 113, 30, 114, 116, 2, 117, 118, 119, 120, 121, 122, 124, 3, 125, 126, 127, 128, 129, 130, 99, 100, 101, 131, 135, 136, 137, 138, 139, 140, 141, 142, 34, 143, 145, 4, 146, 32, 33, 147, 148, 149, 150, 31, 151, 152, 153, 154, 156, 5, 11, 157, 168, 73, 75, 77, 79, 81, 83, 85, 87, 59, 35, 37, 39, 41, 43] (by decide +kernel) (by decide +kernel)
set_option maxRecDepth 20000 in
theorem gL_law_M_unblock : GoodIn lw_tbl (wsV RL 34 RM yM_unblock wsM_unblock) := goodIn_r _ [337, 338, 339, 14, 340, 265, 262, 256, 266, 318, 320, 7, 14, 321, 263, 260, 261, 322, 324, 8, 325, 264, 326, 328, 9, 329, 270, 267, 268, 258, 272, 271, 330, 331, 332, 259, 257, 254, 273, 275, 277, 279, 281, 283, 285, 287, 289, 291, 293, 295, 297, 299, 301, 303, 305, 307] (by decide +kernel) (by decide +kernel)
set_option maxRecDepth 20000 in
theorem gL_law_X2_arm : GoodIn lw_tbl (wsV RL 35 RX2 yX2_arm wsX2_arm) := goodIn_r _ [173, 174, 175, 11, 176, 72, 65, 177, 178, 179, 12, 180, 33, 34, 73, 75, 77, 79, 81, 83, 85, 87, 35, 37, 39, 41, 43] (by decide +kernel) (by decide +kernel)
set_option maxRecDepth 20000 in
theorem gL_law_M_arm : GoodIn lw_tbl (wsV RL 39 RM yM_arm wsM_arm) := goodIn_r _ [341, 342, 343, 14, 344, 269, 267, 268, 273, 275, 277, 279, 281, 283, 285, 287, 289, 291, 293, 295, 297, 299, 301, 303, 305, 307] (by decide +kernel) (by decide +kernel)
set_option maxRecDepth 20000 in
theorem gL_law_X2_cut : GoodIn lw_tbl (wsV RL 40 RX2 yX2_cut wsX2_cut) := goodIn_r _ [181, 182, 183, 11, 184, 70, 154, 156, 5, 11, 157, 71, 73, 75, 77, 79, 81, 83, 85, 87] (by decide +kernel) (by decide +kernel)
set_option maxRecDepth 20000 in
theorem gL_law_M_cut : GoodIn lw_tbl (wsV RL 44 RM yM_cut wsM_cut) := goodIn_r _ [345, 346, 347, 14, 348, 265, 266, 273, 275, 277, 279, 281, 283, 285, 287, 289, 291, 293, 295, 297, 299, 301, 303, 305, 307] (by decide +kernel) (by decide +kernel)
set_option maxRecDepth 20000 in
theorem gL_law_X2_start : GoodIn lw_tbl (wsV RL 45 RX2 yX2_start wsX2_start) := goodIn_r _ [185, 186, 187, 11, 188, 70, 73, 75, 77, 79, 81, 83, 85, 87] (by decide +kernel) (by decide +kernel)
set_option maxRecDepth 20000 in
theorem gL_law_M_start : GoodIn lw_tbl (wsV RL 48 RM yM_start wsM_start) := goodIn_r _ [349, 350, 351, 14, 352, 265, 273, 275, 277, 279, 281, 283, 285, 287, 289, 291, 293, 295, 297, 299, 301, 303, 305, 307] (by decide +kernel) (by decide +kernel)
set_option maxRecDepth 20000 in
theorem gL_law_X2_in : GoodIn lw_tbl (wsV RL 49 RX2 yX2_in wsX2_in) := goodIn_r _ [189, 190, 191, 11, 192, 71, 73, 75, 77, 79, 81, 83, 85, 87] (by decide +kernel) (by decide +kernel)
set_option maxRecDepth 20000 in
theorem gL_law_M_in : GoodIn lw_tbl (wsV RL 52 RM yM_in wsM_in) := goodIn_r _ [353, 354, 355, 14, 356, 266, 273, 275, 277, 279, 281, 283, 285, 287, 289, 291, 293, 295, 297, 299, 301, 303, 305, 307] (by decide +kernel) (by decide +kernel)
set_option maxRecDepth 20000 in
theorem gL_law_X2_up : GoodIn lw_tbl (wsV RL 53 RX2 yX2_up wsX2_up) := goodIn_r _ [193, 194, 195, 11, 196, 70, 73, 75, 77, 79, 81, 83, 85, 87] (by decide +kernel) (by decide +kernel)
set_option maxRecDepth 20000 in
theorem gL_law_M_up : GoodIn lw_tbl (wsV RL 56 RM yM_up wsM_up) := goodIn_r _ [357, 358, 359, 14, 360, 265, 273, 275, 277, 279, 281, 283, 285, 287, 289, 291, 293, 295, 297, 299, 301, 303, 305, 307] (by decide +kernel) (by decide +kernel)
set_option maxRecDepth 20000 in
theorem gL_law_X2_tries : GoodIn lw_tbl (wsV RL 57 RX2 yX2_tries wsX2_tries) := goodIn_r _ [197, 198, 199, 11, 200, 68, 66, 201, 202, 15, 203, 98, 99, 100, 13, 101, 58, 102, 103, 104, 105, 106, 108, 1, 109, 110, 111, 112, 12, 113, 30, 114, 116, 2, 117, 73, 75, 77, 79, 81, 83, 85, 87, 59, 35, 37, 39, 41, 43] (by decide +kernel) (by decide +kernel)
set_option maxRecDepth 20000 in
theorem gL_law_M_tries : GoodIn lw_tbl (wsV RL 61 RM yM_tries wsM_tries) := goodIn_r _ [361, 362, 363, 14, 364, 261, 255, 273, 275, 277, 279, 281, 283, 285, 287, 289, 291, 293, 295, 297, 299, 301, 303, 305, 307] (by decide +kernel) (by decide +kernel)
set_option maxRecDepth 20000 in
theorem gL_law_X2_puks : GoodIn lw_tbl (wsV RL 62 RX2 yX2_puks wsX2_puks) := goodIn_r _ [204, 205, 206, 11, 207, 69, 66, 201, 202, 15, 203, 167, 132, 133, 13, 134, 58, 102, 103, 104, 105, 106, 108, 1, 109, 110, 111, 112, 12, 113, 30, 114, 116, 2, 117, 73, 75, 77, 79, 81, 83, 85, 87, 59, 35, 37, 39, 41, 43] (by decide +kernel) (by decide +kernel)
set_option maxRecDepth 20000 in
theorem gL_law_M_puks : GoodIn lw_tbl (wsV RL 65 RM yM_puks wsM_puks) := goodIn_r _ [365, 366, 367, 14, 368, 262, 256, 273, 275, 277, 279, 281, 283, 285, 287, 289, 291, 293, 295, 297, 299, 301, 303, 305, 307] (by decide +kernel) (by decide +kernel)
set_option maxRecDepth 20000 in
theorem gL_law_X2_page : GoodIn lw_tbl (wsV RL 66 RX2 yX2_page wsX2_page) := goodIn_r _ [208, 209, 210, 11, 211, 66, 212, 103, 104, 13, 105, 58, 106, 108, 1, 109, 110, 111, 112, 12, 113, 30, 114, 116, 2, 117, 73, 75, 77, 79, 81, 83, 85, 87, 59, 35, 37, 39, 41, 43] (by decide +kernel) (by decide +kernel)
set_option maxRecDepth 20000 in
theorem gL_law_M_page : GoodIn lw_tbl (wsV RL 69 RM yM_page wsM_page) := goodIn_r _ [369, 370, 371, 14, 372, 258, 273, 275, 277, 279, 281, 283, 285, 287, 289, 291, 293, 295, 297, 299, 301, 303, 305, 307] (by decide +kernel) (by decide +kernel)
set_option maxRecDepth 20000 in
theorem gL_law_X2_generation : GoodIn lw_tbl (wsV RL 70 RX2 yX2_generation wsX2_generation) := goodIn_r _ [213, 214, 215, 11, 216, 66, 217, 218, 219, 13, 220, 58, 102, 103, 104, 105, 106, 108, 1, 109, 110, 111, 112, 12, 113, 30, 114, 116, 2, 117, 73, 75, 77, 79, 81, 83, 85, 87, 59, 35, 37, 39, 41, 43] (by decide +kernel) (by decide +kernel)
set_option maxRecDepth 20000 in
theorem gL_law_M_generation : GoodIn lw_tbl (wsV RL 73 RM yM_generation wsM_generation) := goodIn_r _ [373, 374, 375, 14, 376, 259, 273, 275, 277, 279, 281, 283, 285, 287, 289, 291, 293, 295, 297, 299, 301, 303, 305, 307] (by decide +kernel) (by decide +kernel)
set_option maxRecDepth 20000 in
theorem gL_law_X2_free : GoodIn lw_tbl (wsV RL 74 RX2 yX2_free wsX2_free) := goodIn_r _ [221, 222, 223, 11, 224, 66, 225, 226, 227, 13, 228, 58, 102, 103, 104, 105, 106, 108, 1, 109, 110, 111, 112, 12, 113, 30, 114, 116, 2, 117, 73, 75, 77, 79, 81, 83, 85, 87, 59, 35, 37, 39, 41, 43] (by decide +kernel) (by decide +kernel)
set_option maxRecDepth 20000 in
theorem gL_law_M_free : GoodIn lw_tbl (wsV RL 77 RM yM_free wsM_free) := goodIn_r _ [377, 378, 379, 14, 380, 263, 273, 275, 277, 279, 281, 283, 285, 287, 289, 291, 293, 295, 297, 299, 301, 303, 305, 307] (by decide +kernel) (by decide +kernel)
set_option maxRecDepth 20000 in
theorem gL_law_X2_operations : GoodIn lw_tbl (wsV RL 78 RX2 yX2_operations wsX2_operations) := goodIn_r _ [229, 230, 231, 11, 232, 65, 233, 234, 235, 12, 236, 32, 73, 75, 77, 79, 81, 83, 85, 87, 35, 37, 39, 41, 43] (by decide +kernel) (by decide +kernel)
set_option maxRecDepth 20000 in
theorem gL_law_M_operations : GoodIn lw_tbl (wsV RL 81 RM yM_operations wsM_operations) := goodIn_r _ [381, 382, 383, 14, 384, 270, 273, 275, 277, 279, 281, 283, 285, 287, 289, 291, 293, 295, 297, 299, 301, 303, 305, 307] (by decide +kernel) (by decide +kernel)
set_option maxRecDepth 20000 in
theorem gL_law_X2_erased : GoodIn lw_tbl (wsV RL 82 RX2 yX2_erased wsX2_erased) := goodIn_r _ [237, 238, 239, 11, 240, 65, 241, 242, 243, 12, 244, 31, 151, 152, 153, 73, 75, 77, 79, 81, 83, 85, 87, 35, 37, 39, 41, 43] (by decide +kernel) (by decide +kernel)
set_option maxRecDepth 20000 in
theorem gL_law_M_erased : GoodIn lw_tbl (wsV RL 85 RM yM_erased wsM_erased) := goodIn_r _ [385, 386, 387, 14, 388, 271, 272, 273, 275, 277, 279, 281, 283, 285, 287, 289, 291, 293, 295, 297, 299, 301, 303, 305, 307] (by decide +kernel) (by decide +kernel)
set_option maxRecDepth 20000 in
theorem inX0 : ∀ w ∈ wsX00, w ∈ lw_tbl := fun w h => (goodIn_r wsX00 [35, 37, 39, 41, 43] (by decide +kernel) (by decide +kernel) w h).1
set_option maxRecDepth 20000 in
theorem inX1 : ∀ w ∈ wsX10, w ∈ lw_tbl := fun w h => (goodIn_r wsX10 [59] (by decide +kernel) (by decide +kernel) w h).1
set_option maxRecDepth 20000 in
theorem inX2 : ∀ w ∈ wsX20, w ∈ lw_tbl := fun w h => (goodIn_r wsX20 [73, 75, 77, 79, 81, 83, 85, 87] (by decide +kernel) (by decide +kernel) w h).1
set_option maxRecDepth 20000 in
theorem inM : ∀ w ∈ wsM0, w ∈ lw_tbl := fun w h => (goodIn_r wsM0 [273, 275, 277, 279, 281, 283, 285, 287, 289, 291, 293, 295, 297, 299, 301, 303, 305, 307] (by decide +kernel) (by decide +kernel) w h).1
end
section
/-! The pure picture. tt_F: a flash as its cells have it: bytes, erases, operations done, operations to the tear, tear's mask. Every function here is the body of one method, over values. -/
abbrev tt_F : Type := (Nat → Int32) × (Nat → Int32) × Int32 × Int32 × Int32
def tt_rd (b : Nat → Int32) (pg a : Int32) : Int32 := if pg * 16 + a < 0 then 255 else if 32 ≤ pg * 16 + a then 255 else b (pg * 16 + a).toNatClampNeg
def tt_wr (b : Nat → Int32) (pg a v : Int32) : Nat → Int32 := if pg * 16 + a < 0 then b else if 32 ≤ pg * 16 + a then b else upd b (pg * 16 + a).toNatClampNeg v
def tt_pr (b : Nat → Int32) (pg a v m : Int32) : Nat → Int32 := if pg * 16 + a < 0 then b else if 32 ≤ pg * 16 + a then b else upd b (pg * 16 + a).toNatClampNeg (b (pg * 16 + a).toNatClampNeg &&& (v ||| (m ^^^ (-1))))
def tt_no (x : Int32) : Int32 := if x = 0 then 1 else 0
def tt_cnt (s : tt_F) : Int32 × tt_F := match s with
  | (b, g, od, ot, tm) => if ot = 0 then (0, (b, g, od + 1, ot, tm)) else if ot - 1 = 0 then (1, (b, g, od + 1, ot - 1, tm)) else (0, (b, g, od + 1, ot - 1, tm))
def tt_prog (s : tt_F) (pg a v : Int32) : Int32 × tt_F := match tt_cnt s with
  | (r, (b, g, od, ot, tm)) => (if r = 0 then 1 else 0, (tt_pr b pg a v (if r = 0 then 255 else tm), g, od, ot, tm))
def tt_ip (pg : Int32) : Int32 := if pg < 0 then 0 else if 2 ≤ pg then 0 else 1
def tt_er1 (b : Nat → Int32) (pg m : Int32) (i : Nat) : Nat → Int32 := if (m >>> ((nI i &&& 7) &&& 31)) &&& 1 = 1 then upd b (pg * 16 + nI i).toNatClampNeg 255 else b
def tt_er (b : Nat → Int32) (pg m : Int32) : Nat → (Nat → Int32)
  | 0 => b
  | k + 1 => tt_er1 (tt_er b pg m k) pg m k
def tt_erase (s : tt_F) (pg : Int32) : Int32 × tt_F := match tt_cnt s with
  | (r, (b, g, od, ot, tm)) => if tt_ip pg = 0 then (if r = 0 then 1 else 0, (b, g, od, ot, tm)) else (if r = 0 then 1 else 0, (tt_er b pg (if r = 0 then 255 else tm) 16, upd g pg.toNatClampNeg (g pg.toNatClampNeg + 1), od, ot, tm))
def tt_ec (g : Nat → Int32) (pg : Int32) : Int32 := if tt_ip pg = 0 then 0 else g pg.toNatClampNeg
def tt_gd (b : Nat → Int32) (pg : Int32) : Int32 := if tt_rd b pg 0 = 90 then 1 else 0
def tt_ga (b : Nat → Int32) (pg : Int32) : Int32 := (tt_rd b pg 1 + 1) &&& 255
def tt_ac (b : Nat → Int32) : Int32 := if tt_gd b 1 = 0 then 0 else if tt_gd b 0 = 0 then 1 else if tt_rd b 1 1 = tt_ga b 0 then 1 else 0
def tt_pin (b : Nat → Int32) : Int32 := (tt_rd b (tt_ac b) 2 <<< ((8 : Int32) &&& 31)) ||| tt_rd b (tt_ac b) 3
def tt_en (b : Nat → Int32) (pg : Int32) : Nat → Int32 := fun j => tt_rd b pg (nI (6 + j))
def tt_ps (u x : Int32) : Int32 := if x &&& 1 = 0 then (if x &&& 2 = 0 then 0 else u + 1) else u
def tt_pf (u : Int32) (e : Nat → Int32) : Nat → Int32
  | 0 => u
  | k + 1 => tt_ps (tt_pf u e k) (e k)
def tt_us (u x : Int32) : Int32 := if x &&& 16 = 0 then u + 1 else u
def tt_uf (u : Int32) (e : Nat → Int32) : Nat → Int32
  | 0 => u
  | k + 1 => tt_us (tt_uf u e k) (e k)
def tt_fs (u x : Int32) : Int32 := if x = 255 then u + 1 else u
def tt_ff (u : Int32) (e : Nat → Int32) : Nat → Int32
  | 0 => u
  | k + 1 => tt_fs (tt_ff u e k) (e k)
def tt_1f (e : Nat → Int32) : Nat → Nat → Int32
  | 0, _ => -1
  | n + 1, i => if e i = 255 then nI (6 + i) else tt_1f e n (i + 1)
def tt_pu (b : Nat → Int32) : Int32 := tt_pf (tt_rd b (tt_ac b) 4) (tt_en b (tt_ac b)) 10
def tt_uu (b : Nat → Int32) : Int32 := tt_uf (tt_rd b (tt_ac b) 5) (tt_en b (tt_ac b)) 10
def tt_fe (b : Nat → Int32) : Int32 := tt_ff 0 (tt_en b (tt_ac b)) 10
def tt_fst (b : Nat → Int32) : Int32 := tt_1f (tt_en b (tt_ac b)) 10 0
/-- one step behind another: 0 ends it -/
def tt_seq {S : Type} (r : Int32 × S) (k : S → Int32 × S) : Int32 × S := if r.1 = 0 then (0, r.2) else k r.2
def tt_t0 (s : tt_F) (f : Int32) : Int32 × tt_F := if tt_gd s.1 f = 0 then (1, s) else tt_prog s f 0 0
def tt_turn (s : tt_F) (p a c : Int32) : Int32 × tt_F :=
  tt_seq (tt_t0 s (1 - tt_ac s.1)) fun s1 => tt_seq (tt_erase s1 (1 - tt_ac s.1)) fun s2 => tt_seq (tt_prog s2 (1 - tt_ac s.1) 1 (tt_ga s2.1 (tt_ac s.1))) fun s3 =>
  tt_seq (tt_prog s3 (1 - tt_ac s.1) 2 (p >>> ((8 : Int32) &&& 31))) fun s4 => tt_seq (tt_prog s4 (1 - tt_ac s.1) 3 (p &&& 255)) fun s5 => tt_seq (tt_prog s5 (1 - tt_ac s.1) 4 a) fun s6 =>
  tt_seq (tt_prog s6 (1 - tt_ac s.1) 5 c) fun s7 => tt_seq (tt_prog s7 (1 - tt_ac s.1) 0 90) fun s8 => (1, s8)
def tt_m1 (s : tt_F) (v : Int32) : Int32 × tt_F := if tt_fst s.1 = -1 then (-1, s) else match tt_prog s (tt_ac s.1) (tt_fst s.1) v with
  | (r, s2) => if r = 0 then (-1, s2) else (tt_fst s.1, s2)
def tt_mark (s : tt_F) (v : Int32) : Int32 × tt_F := if tt_fst s.1 = -1 then (match tt_turn s (tt_pin s.1) (tt_pu s.1) (tt_uu s.1) with
  | (r, s2) => if r = 0 then (-1, s2) else tt_m1 s2 v) else tt_m1 s v
/-- the card: powered, holder in, tears armed, its flash -/
abbrev tt_X : Type := Int32 × Int32 × Int32 × tt_F
def tt_lim (x d : Int32) : Int32 := if x < 1 then d else if 7 < x then d else x
def tt_try (pl : Int32) (s : tt_X) (n : Int32) : Int32 × tt_X := match s with
  | (pw, hi, ta, f) => if pw = 0 then (-1, s) else if tt_pu f.1 < pl then (match tt_mark f 254 with
    | (r, f2) => if r = -1 then (-3, (0, 0, ta, f2)) else if n = tt_pin f2.1 then (match tt_prog f2 (tt_ac f2.1) r 253 with
      | (q, f3) => if q = 0 then (-3, (0, 0, ta, f3)) else (1, (pw, 0, ta, f3))) else (0, (pw, 0, ta, f2))) else (-2, s)
def tt_verify (pl : Int32) (s : tt_X) (n : Int32) : Int32 × tt_X := match tt_try pl s (n &&& 65535) with
  | (r, (pw, hi, ta, f)) => if r = 1 then (r, (pw, 1, ta, f)) else (r, (pw, hi, ta, f))
def tt_change (pl : Int32) (s : tt_X) (n x : Int32) : Int32 × tt_X := match tt_try pl s (n &&& 65535) with
  | (r, (pw, hi, ta, f)) => if r = 1 then (match tt_turn f (x &&& 65535) 0 (tt_uu f.1) with
    | (q, f2) => if q = 0 then (-3, (0, 0, ta, f2)) else (1, (pw, 1, ta, f2))) else (r, (pw, hi, ta, f))
def tt_unblock (pk ul : Int32) (s : tt_X) (n x : Int32) : Int32 × tt_X := match s with
  | (pw, hi, ta, f) => if pw = 0 then (-1, s) else if tt_uu f.1 < ul then (match tt_mark f 239 with
    | (r, f2) => if r = -1 then (-3, (0, 0, ta, f2)) else if n = pk then (match tt_turn f2 (x &&& 65535) 0 0 with
      | (q, f3) => if q = 0 then (-3, (0, 0, ta, f3)) else (1, (pw, 0, ta, f3))) else (0, (pw, 0, ta, f2))) else (-2, s)
def tt_setT (f : tt_F) (n m : Int32) : tt_F := match f with
  | (b, g, od, _, _) => (b, g, od, n, m)
def tt_arm (s : tt_X) (n m : Int32) : Int32 × tt_X := match s with
  | (pw, hi, ta, f) => if n < 0 then (0, s) else if 30 < n then (0, s) else if m < 0 then (0, s) else if m ≤ 255 then (if n ≤ 0 then (1, (pw, hi, ta, tt_setT f n m)) else if ta < 40 then (1, (pw, hi, ta + 1, tt_setT f n m)) else (0, s)) else (0, s)
def tt_cut (s : tt_X) : Int32 × tt_X := match s with
  | (pw, hi, ta, f) => if pw = 0 then (0, s) else (1, (0, 0, ta, f))
def tt_start (s : tt_X) : Int32 × tt_X := match s with
  | (pw, hi, ta, f) => if pw = 0 then (1, (1, hi, ta, f)) else (0, s)
/-! The reference: active, age, pin, pin tries, puk tries, entries, other good, power, holder, torn, mask, arms, done, erased 0, erased 1 -/
abbrev tt_M : Type := Int32 × Int32 × Int32 × Int32 × Int32 × Int32 × Int32 × Int32 × Int32 × Int32 × Int32 × Int32 × Int32 × Int32 × Int32
def mm_op (s : tt_M) : Int32 × tt_M := match s with
  | (ac, ag, pn, pt, ut, en, og, pw, hd, tn, tk, ar, dn, e0, e1) => if tn = 1 then (tk, (ac, ag, pn, pt, ut, en, og, 0, 0, (if tn ≤ 0 then 0 else tn - 1), tk, ar, dn + 1, e0, e1)) else (-1, (ac, ag, pn, pt, ut, en, og, pw, hd, (if tn ≤ 0 then 0 else tn - 1), tk, ar, dn + 1, e0, e1))
def mm_all (m k : Int32) : Int32 := if m < 0 then 1 else if m &&& k = k then 1 else 0
def mm_setog (s : tt_M) (x : Int32) : tt_M := match s with
  | (ac, ag, pn, pt, ut, en, _, r) => (ac, ag, pn, pt, ut, en, x, r)
def mm_t0 (s : tt_M) : Int32 × tt_M := if s.2.2.2.2.2.2.1 = 0 then (1, s) else match mm_op s with
  | (r, s2) => if r < 0 then (1, mm_setog s2 0) else (0, mm_setog s2 (if r &&& 90 = 0 then 1 else 0))
def mm_er (s : tt_M) : tt_M := match s with
  | (ac, ag, pn, pt, ut, en, og, pw, hd, tn, tk, ar, dn, e0, e1) => if ac = 0 then (ac, ag, pn, pt, ut, en, og, pw, hd, tn, tk, ar, dn, e0, e1 + 1) else (ac, ag, pn, pt, ut, en, og, pw, hd, tn, tk, ar, dn, e0 + 1, e1)
def mm_lp : Nat → tt_M → Int32 × tt_M
  | 0, s => (1, s)
  | n + 1, s => match mm_op s with
    | (r, s2) => if r < 0 then mm_lp n s2 else (0, s2)
def mm_t9 (s : tt_M) (p a b : Int32) : Int32 × tt_M := match mm_op s with
  | (r, (ac, ag, pn, pt, ut, en, og, z)) => (if 0 ≤ r then 0 else 1, if mm_all r 165 = 0 then (ac, ag, pn, pt, ut, en, og, z) else (1 - ac, (ag + 1) - (ag + 1) / 256 * 256, p, a, b, 10, 1, z))
def mm_turn (s : tt_M) (p a b : Int32) : Int32 × tt_M := tt_seq (mm_t0 s) fun s1 => tt_seq (mm_lp 6 (mm_er s1)) fun s2 => mm_t9 s2 p a b
def mm_m1 (s : tt_M) (k : Int32) : Int32 × tt_M := match mm_op s with
  | (r, (ac, ag, pn, pt, ut, en, z)) => (if 0 ≤ r then 0 else 1, if mm_all r (if k = 0 then 1 else 16) = 0 then (ac, ag, pn, pt, ut, en, z) else if k = 0 then (ac, ag, pn, pt + 1, ut, en - 1, z) else (ac, ag, pn, pt, ut + 1, en - 1, z))
def mm_mark (s : tt_M) (k : Int32) : Int32 × tt_M := match s with
  | (ac, ag, pn, pt, ut, en, z) => if en = 0 then tt_seq (mm_turn s pn pt ut) fun s2 => mm_m1 s2 k else mm_m1 s k
def mm_sethd (s : tt_M) (x : Int32) : tt_M := match s with
  | (ac, ag, pn, pt, ut, en, og, pw, _, z) => (ac, ag, pn, pt, ut, en, og, pw, x, z)
def mm_a9 (s : tt_M) : Int32 × tt_M := match mm_op s with
  | (r, (ac, ag, pn, pt, z)) => (if 0 ≤ r then -3 else 1, if mm_all r 2 = 0 then (ac, ag, pn, pt, z) else (ac, ag, pn, 0, z))
def mm_att (pl : Int32) (s : tt_M) (n : Int32) : Int32 × tt_M := match s with
  | (ac, ag, pn, pt, ut, en, og, pw, hd, z) => if pw = 0 then (-1, s) else if pt < pl then (match mm_mark (ac, ag, pn, pt, ut, en, og, pw, 0, z) 0 with
    | (r, s2) => if r = 0 then (-3, s2) else if n &&& 65535 = s2.2.2.1 then mm_a9 s2 else (0, s2)) else (-2, s)
def mm_or (s : tt_M) (r : Int32) : tt_M := match s with
  | (ac, ag, pn, pt, ut, en, og, pw, hd, z) => if hd = 0 then (if r = 1 then (ac, ag, pn, pt, ut, en, og, pw, 1, z) else (ac, ag, pn, pt, ut, en, og, pw, 0, z)) else (ac, ag, pn, pt, ut, en, og, pw, 1, z)
def mm_verify (pl : Int32) (s : tt_M) (n : Int32) : Int32 × tt_M := match mm_att pl s n with
  | (r, s2) => (r, mm_or s2 r)
def mm_change (pl : Int32) (s : tt_M) (n x : Int32) : Int32 × tt_M := match mm_att pl s n with
  | (r, s2) => if r = 1 then (match mm_turn s2 (x &&& 65535) 0 s2.2.2.2.2.1 with
    | (q, s3) => if q = 0 then (-3, mm_or s3 (-3)) else (r, mm_or s3 r)) else (r, mm_or s2 r)
def mm_unblock (pk ul : Int32) (s : tt_M) (n x : Int32) : Int32 × tt_M := match s with
  | (ac, ag, pn, pt, ut, en, og, pw, hd, z) => if pw = 0 then (-1, s) else if ut < ul then (match mm_mark (ac, ag, pn, pt, ut, en, og, pw, 0, z) 1 with
    | (r, s2) => if r = 0 then (-3, s2) else if n = pk then (match mm_turn s2 (x &&& 65535) 0 0 with
      | (q, s3) => (if q = 0 then -3 else 1, s3)) else (0, s2)) else (-2, s)
def mm_arm (s : tt_M) (n m : Int32) : Int32 × tt_M := match s with
  | (ac, ag, pn, pt, ut, en, og, pw, hd, tn, tk, ar, z) => if n < 0 then (0, s) else if 30 < n then (0, s) else if m < 0 then (0, s) else if 255 < m then (0, s) else if n = 0 then (1, (ac, ag, pn, pt, ut, en, og, pw, hd, n, m, ar, z)) else if ar = 40 then (0, s) else (1, (ac, ag, pn, pt, ut, en, og, pw, hd, n, m, ar + 1, z))
def mm_cut (s : tt_M) : Int32 × tt_M := match s with
  | (ac, ag, pn, pt, ut, en, og, pw, hd, z) => (pw, (ac, ag, pn, pt, ut, en, og, 0, 0, z))
def mm_start (s : tt_M) : Int32 × tt_M := match s with
  | (ac, ag, pn, pt, ut, en, og, pw, hd, z) => (if pw = 0 then 1 else 0, (ac, ag, pn, pt, ut, en, og, 1, hd, z))
end
section
/-! small rows for the walks: a loop by a number that falls, places in range, counters -/
section TTR
variable {p : Program} {l : Launch} {e : Env} {R : Room} {s : State} {m : MethodId} {args : Array Value} {below : List Frame} {meth : Method} {c : Code} {cells slots : Nat} {Q : State → Prop}
theorem tt_rec {pc : Nat} (I : Nat → Heap → List Loc → Array Slot → Prop)
    (h : ∀ (n : Nat) (H : Heap) (locs : List Loc) (ls : Array Slot), (∀ k, k < n → ∀ (H1 : Heap) (locs1 : List Loc) (ls1 : Array Slot), I k H1 locs1 ls1 → W p l e R s m args below meth c H1 locs1 cells slots Q (F0 m pc ls1 [])) → I n H locs ls → W p l e R s m args below meth c H locs cells slots Q (F0 m pc ls []))
    (n : Nat) {H : Heap} {locs : List Loc} {ls : Array Slot} (hI : I n H locs ls) : W p l e R s m args below meth c H locs cells slots Q (F0 m pc ls []) := by
  have key : ∀ (n k : Nat), k < n → ∀ (H1 : Heap) (locs1 : List Loc) (ls1 : Array Slot), I k H1 locs1 ls1 → W p l e R s m args below meth c H1 locs1 cells slots Q (F0 m pc ls1 []) := by
    intro n
    induction n with
    | zero => intro k hk; exact absurd hk (Nat.not_lt_zero _)
    | succ n ih =>
      intro k hk H1 locs1 ls1 hI1
      exact h k H1 locs1 ls1 (fun j hj => ih j (by omega)) hI1
  exact key (n + 1) n (by omega) H locs ls hI
end TTR
theorem tt_in32 {x : Int32} (h0 : ¬ x < 0) (h1 : ¬ 32 ≤ x) : vp_in x 32 := by
  rcases pk_ix x (n := 32) (by decide) with h | h | ⟨j, hj, rfl⟩
  · exact absurd h h0
  · exact absurd h h1
  · exact vp_in_nI hj (by decide)
theorem tt_ip_of {pg : Int32} (h : ¬ tt_ip pg = 0) : ∃ j : Nat, j < 2 ∧ pg = nI j := by
  rcases pk_ix pg (n := 2) (by decide) with h1 | h1 | h1
  · exact absurd (by unfold tt_ip; rw [if_pos h1]) h
  · exact absurd (by unfold tt_ip; by_cases h2 : pg < 0; rw [if_pos h2]; rw [if_neg h2, if_pos (show 2 ≤ pg from h1)]) h
  · exact h1
theorem tt_inP {pg : Int32} (h : ¬ tt_ip pg = 0) : vp_in pg 2 := by
  obtain ⟨j, hj, rfl⟩ := tt_ip_of h
  exact vp_in_nI hj (by decide)
theorem tt_pl_nI (j i : Nat) : nI j * 16 + nI i = nI (16 * j + i) := by
  rw [show (16 : Int32) = nI 16 from rfl, pk_mul, nI_add, Nat.mul_comm]
theorem tt_inE {pg : Int32} {i : Nat} (h : ¬ tt_ip pg = 0) (hi : i < 16) : vp_in (pg * 16 + nI i) 32 := by
  obtain ⟨j, hj, rfl⟩ := tt_ip_of h
  rw [tt_pl_nI]
  exact vp_in_nI (by omega) (by decide)
theorem tt_c10 : ∀ i, i < 11 → (16 ≤ nI (6 + i) → i = 10) ∧ (¬ 16 ≤ nI (6 + i) → i < 10) := by decide +kernel
theorem tt_c16 : ∀ i, i < 17 → (16 ≤ nI i → i = 16) ∧ (¬ 16 ≤ nI i → i < 16) := by decide +kernel
theorem tt_c32 : ∀ i, i < 33 → (32 ≤ nI i → i = 32) ∧ (¬ 32 ≤ nI i → i < 32) := by decide +kernel
theorem tt_c6 : ∀ i, i < 7 → (6 ≤ nI i → i = 6) ∧ (¬ 6 ≤ nI i → i < 6) := by decide +kernel
theorem tt_z01 {x : Int32} (h : x = 0 ∨ x = 1) : narrow .boolean (.int x) = .int x := by
  rcases h with rfl | rfl <;> rfl
theorem tt_cnt_z {s s2 : tt_F} {r : Int32} (h : tt_cnt s = (r, s2)) : r = 0 ∨ r = 1 := by
  obtain ⟨b, g, od, ot, tm⟩ := s
  simp only [tt_cnt] at h
  split at h
  · exact Or.inl (congrArg Prod.fst h).symm
  · split at h
    · exact Or.inr (congrArg Prod.fst h).symm
    · exact Or.inl (congrArg Prod.fst h).symm
theorem tt_prog_z {s s2 : tt_F} {pg a v r : Int32} (h : tt_prog s pg a v = (r, s2)) : narrow .boolean (.int r) = .int r := by
  unfold tt_prog at h
  have h1 := congrArg Prod.fst h
  simp only at h1
  refine tt_z01 ?_
  rw [← h1]
  split
  · exact Or.inr rfl
  · exact Or.inl rfl
def tt_fl : Nat → (Nat → Int32)
  | 0 => fun _ => 0
  | k + 1 => upd (tt_fl k) (nI k).toNatClampNeg 255
def tt_pres (b : Nat → Int32) (pin : Int32) : Nat → Int32 := tt_wr (tt_wr (tt_wr (tt_wr (tt_wr (tt_wr b 0 0 90) 0 1 0) 0 2 (pin >>> ((8 : Int32) &&& 31))) 0 3 (pin &&& 255)) 0 4 0) 0 5 0
def mm_lim (x d : Int32) : Int32 := if x < 1 then d else if x ≤ 7 then x else d
theorem tt_lim_eq (x d : Int32) : tt_lim x d = mm_lim x d := by
  unfold tt_lim mm_lim
  by_cases h : x < 1
  · rw [if_pos h, if_pos h]
  · rw [if_neg h, if_neg h]
    by_cases h2 : 7 < x
    · rw [if_pos h2, if_neg (Int32.not_le.mpr h2)]
    · rw [if_neg h2, if_pos (Int32.not_lt.mp h2)]
theorem tt_seq_p {S : Type} (x : Int32) (s : S) (k : S → Int32 × S) : tt_seq (x, s) k = if x = 0 then (0, s) else k s := rfl
end
section
/-! bytes: reads and writes at known places, one operation counted, the erase -/
theorem tt_rd_nI (b : Nat → Int32) {A j : Nat} (hA : A < 2) (hj : j < 16) : tt_rd b (nI A) (nI j) = b (16 * A + j) := by
  unfold tt_rd
  rw [tt_pl_nI, if_neg (nI_pos (by omega)), if_neg (show ¬ (32 : Int32) ≤ nI (16 * A + j) from nI_ge (a := 16 * A + j) (b := 32) (by omega) (by decide)), nI_clamp (by omega)]
theorem tt_pr_nI (b : Nat → Int32) {A j : Nat} (hA : A < 2) (hj : j < 16) (v m : Int32) : tt_pr b (nI A) (nI j) v m = upd b (16 * A + j) (b (16 * A + j) &&& (v ||| (m ^^^ (-1)))) := by
  unfold tt_pr
  rw [tt_pl_nI, if_neg (nI_pos (by omega)), if_neg (show ¬ (32 : Int32) ≤ nI (16 * A + j) from nI_ge (a := 16 * A + j) (b := 32) (by omega) (by decide)), nI_clamp (by omega)]
theorem tt_wr_nI (b : Nat → Int32) {A j : Nat} (hA : A < 2) (hj : j < 16) (v : Int32) : tt_wr b (nI A) (nI j) v = upd b (16 * A + j) v := by
  unfold tt_wr
  rw [tt_pl_nI, if_neg (nI_pos (by omega)), if_neg (show ¬ (32 : Int32) ≤ nI (16 * A + j) from nI_ge (a := 16 * A + j) (b := 32) (by omega) (by decide)), nI_clamp (by omega)]
theorem tt_cnt_1 (b g : Nat → Int32) (od tm : Int32) : tt_cnt (b, g, od, nI 1, tm) = (1, (b, g, od + 1, nI 0, tm)) := by
  show (if nI 1 = 0 then ((0 : Int32), (b, g, od + 1, nI 1, tm)) else if nI 1 - 1 = 0 then (1, (b, g, od + 1, nI 1 - 1, tm)) else (0, (b, g, od + 1, nI 1 - 1, tm))) = _
  rw [if_neg (by decide), if_pos (by decide)]
  rfl
theorem tt_cnt_0 (b g : Nat → Int32) (od tm : Int32) {T : Nat} (hT : T ≤ 30) (h1 : ¬ T = 1) : tt_cnt (b, g, od, nI T, tm) = (0, (b, g, od + 1, nI (T - 1), tm)) := by
  show (if nI T = 0 then ((0 : Int32), (b, g, od + 1, nI T, tm)) else if nI T - 1 = 0 then (1, (b, g, od + 1, nI T - 1, tm)) else (0, (b, g, od + 1, nI T - 1, tm))) = _
  rcases Nat.eq_zero_or_pos T with rfl | h
  · rw [if_pos (by decide)]
  · rw [if_neg (nI_ne0 h (by omega)), show nI T - 1 = nI (T - 1) from pk_sub (a := T) (b := 1) h, if_neg (nI_ne0 (n := T - 1) (by omega) (by omega))]
theorem mm_op_1 (ac ag pn pt ut en og pw hd tk ar dn e0 e1 : Int32) : mm_op (ac, ag, pn, pt, ut, en, og, pw, hd, nI 1, tk, ar, dn, e0, e1) = (tk, (ac, ag, pn, pt, ut, en, og, 0, 0, nI 0, tk, ar, dn + 1, e0, e1)) := by
  have e : (if nI 1 ≤ 0 then (0 : Int32) else nI 1 - 1) = nI 0 := by decide
  simp only [mm_op]
  rw [if_pos (show nI 1 = 1 from rfl), e]
theorem mm_op_0 (ac ag pn pt ut en og pw hd tk ar dn e0 e1 : Int32) {T : Nat} (hT : T ≤ 30) (h1 : ¬ T = 1) : mm_op (ac, ag, pn, pt, ut, en, og, pw, hd, nI T, tk, ar, dn, e0, e1) = (-1, (ac, ag, pn, pt, ut, en, og, pw, hd, nI (T - 1), tk, ar, dn + 1, e0, e1)) := by
  have e : (if nI T ≤ 0 then (0 : Int32) else nI T - 1) = nI (T - 1) := by
    rcases Nat.eq_zero_or_pos T with rfl | h
    · decide
    · rw [if_neg (nI_nle h (by omega))]; exact pk_sub (a := T) (b := 1) h
  simp only [mm_op]
  rw [if_neg (show ¬ nI T = 1 from fun q => h1 ((nI_eq (a := T) (b := 1) (by omega) (by omega)).mp q)), e]
theorem tt_prog_1 (b g : Nat → Int32) (od tm : Int32) {A j : Nat} (hA : A < 2) (hj : j < 16) (v : Int32) : tt_prog (b, g, od, nI 1, tm) (nI A) (nI j) v = (0, (upd b (16 * A + j) (b (16 * A + j) &&& (v ||| (tm ^^^ (-1)))), g, od + 1, nI 0, tm)) := by
  unfold tt_prog
  rw [tt_cnt_1]
  show ((if (1 : Int32) = 0 then (1 : Int32) else 0), (tt_pr b (nI A) (nI j) v (if (1 : Int32) = 0 then 255 else tm), g, od + 1, nI 0, tm)) = _
  rw [if_neg (by decide), if_neg (by decide), tt_pr_nI b hA hj]
theorem tt_prog_0 (b g : Nat → Int32) (od tm : Int32) {T A j : Nat} (hT : T ≤ 30) (h1 : ¬ T = 1) (hA : A < 2) (hj : j < 16) (v : Int32) : tt_prog (b, g, od, nI T, tm) (nI A) (nI j) v = (1, (upd b (16 * A + j) (b (16 * A + j) &&& (v ||| (255 ^^^ (-1)))), g, od + 1, nI (T - 1), tm)) := by
  unfold tt_prog
  rw [tt_cnt_0 b g od tm hT h1]
  show ((if (0 : Int32) = 0 then (1 : Int32) else 0), (tt_pr b (nI A) (nI j) v (if (0 : Int32) = 0 then 255 else tm), g, od + 1, nI (T - 1), tm)) = _
  rw [if_pos rfl, if_pos rfl, tt_pr_nI b hA hj]
theorem tt_er_s (b : Nat → Int32) {A n : Nat} (hA : A < 2) (hn : n < 16) (m : Int32) (q : Nat) : tt_er b (nI A) m (n + 1) q = if ((m >>> ((nI n &&& 7) &&& 31)) &&& 1 = 1) ∧ q = 16 * A + n then 255 else tt_er b (nI A) m n q := by
  show tt_er1 (tt_er b (nI A) m n) (nI A) m n q = _
  unfold tt_er1
  by_cases hc : (m >>> ((nI n &&& 7) &&& 31)) &&& 1 = 1
  · rw [if_pos hc, tt_pl_nI, nI_clamp (by omega)]
    by_cases hq : q = 16 * A + n
    · rw [if_pos ⟨hc, hq⟩, hq]; exact pk_us
    · rw [if_neg (fun h => hq h.2)]; exact pk_un hq
  · rw [if_neg hc, if_neg (fun h => hc h.1)]
theorem tt_er_any (b : Nat → Int32) {A : Nat} (hA : A < 2) (m : Int32) : ∀ (n : Nat), n ≤ 16 → ∀ q : Nat, tt_er b (nI A) m n q = b q ∨ (tt_er b (nI A) m n q = 255 ∧ 16 * A ≤ q ∧ q < 16 * A + n) := by
  intro n
  induction n with
  | zero => intro _ q; exact Or.inl rfl
  | succ n ih =>
    intro hn q
    rw [tt_er_s b hA (by omega) m q]
    by_cases h : ((m >>> ((nI n &&& 7) &&& 31)) &&& 1 = 1) ∧ q = 16 * A + n
    · rw [if_pos h]
      exact Or.inr ⟨rfl, by omega, by omega⟩
    · rw [if_neg h]
      rcases ih (by omega) q with h | ⟨h1, h2, h3⟩
      · exact Or.inl h
      · exact Or.inr ⟨h1, h2, by omega⟩
theorem tt_er_bits : ∀ n, n < 16 → ((255 : Int32) >>> ((nI n &&& 7) &&& 31)) &&& 1 = 1 := by decide +kernel
theorem tt_er_in (b : Nat → Int32) {A : Nat} (hA : A < 2) : ∀ (n : Nat), n ≤ 16 → ∀ q : Nat, 16 * A ≤ q → q < 16 * A + n → tt_er b (nI A) 255 n q = 255 := by
  intro n
  induction n with
  | zero => intro _ q h1 h2; omega
  | succ n ih =>
    intro hn q h1 h2
    rw [tt_er_s b hA (by omega) 255 q]
    by_cases hq : q = 16 * A + n
    · rw [if_pos ⟨tt_er_bits n (by omega), hq⟩]
    · rw [if_neg (fun h => hq h.2)]; exact ih (by omega) q h1 (by omega)
theorem tt_er_out (b : Nat → Int32) {A : Nat} (hA : A < 2) (m : Int32) {q : Nat} (hq : q < 16 * A ∨ 16 * A + 16 ≤ q) : tt_er b (nI A) m 16 q = b q := by
  rcases tt_er_any b hA m 16 (Nat.le_refl _) q with h | ⟨_, h2, h3⟩
  · exact h
  · omega
theorem tt_ip_nI {A : Nat} (hA : A < 2) : tt_ip (nI A) = 1 := by
  unfold tt_ip
  rw [if_neg (nI_pos (by omega)), if_neg (show ¬ (2 : Int32) ≤ nI A from nI_ge (a := A) (b := 2) hA (by decide))]
theorem tt_erase_1 (b g : Nat → Int32) (od tm : Int32) {A : Nat} (hA : A < 2) : tt_erase (b, g, od, nI 1, tm) (nI A) = (0, (tt_er b (nI A) tm 16, upd g A (g A + 1), od + 1, nI 0, tm)) := by
  unfold tt_erase
  rw [tt_cnt_1]
  show (if tt_ip (nI A) = 0 then _ else ((if (1 : Int32) = 0 then (1 : Int32) else 0), (tt_er b (nI A) (if (1 : Int32) = 0 then 255 else tm) 16, upd g (nI A).toNatClampNeg (g (nI A).toNatClampNeg + 1), od + 1, nI 0, tm))) = _
  rw [tt_ip_nI hA, if_neg (by decide), if_neg (by decide), if_neg (by decide), nI_clamp (by omega)]
theorem tt_erase_0 (b g : Nat → Int32) (od tm : Int32) {T A : Nat} (hT : T ≤ 30) (h1 : ¬ T = 1) (hA : A < 2) : tt_erase (b, g, od, nI T, tm) (nI A) = (1, (tt_er b (nI A) 255 16, upd g A (g A + 1), od + 1, nI (T - 1), tm)) := by
  unfold tt_erase
  rw [tt_cnt_0 b g od tm hT h1]
  show (if tt_ip (nI A) = 0 then _ else ((if (0 : Int32) = 0 then (1 : Int32) else 0), (tt_er b (nI A) (if (0 : Int32) = 0 then 255 else tm) 16, upd g (nI A).toNatClampNeg (g (nI A).toNatClampNeg + 1), od + 1, nI (T - 1), tm))) = _
  rw [tt_ip_nI hA, if_neg (by decide), if_pos rfl, if_pos rfl, nI_clamp (by omega)]
end
section
/-! the invariant of the two pages: A the active page, G its generation, p its pin, k entries used, pt and ut the tries, og whether the other page is good -/
def tt_I (b : Nat → Int32) (A G p k : Nat) (pt ut og : Int32) : Prop :=
  A < 2 ∧ G < 256 ∧ p < 65536 ∧ k ≤ 10 ∧ b (16 * A) = 90 ∧ b (16 * A + 1) = nI G ∧ b (16 * A + 2) = nI (p / 256) ∧ b (16 * A + 3) = nI (p % 256) ∧
  (∀ j, j < k → ¬ b (16 * A + (6 + j)) = 255) ∧ (∀ j, k ≤ j → j < 10 → b (16 * A + (6 + j)) = 255) ∧
  tt_pf (b (16 * A + 4)) (fun j => b (16 * A + (6 + j))) k = pt ∧ tt_uf (b (16 * A + 5)) (fun j => b (16 * A + (6 + j))) k = ut ∧
  ((og = 1 ∧ b (16 * (1 - A)) = 90 ∧ b (16 * (1 - A) + 1) = nI ((G + 255) % 256)) ∨ (og = 0 ∧ ¬ b (16 * (1 - A)) = 90))
theorem tt_g1 : ∀ G, G < 256 → ¬ nI ((G + 255) % 256) = (nI G + 1) &&& 255 := by decide +kernel
theorem tt_g2 : ∀ G, G < 256 → nI G = (nI ((G + 255) % 256) + 1) &&& 255 := by decide +kernel
theorem tt_g3 : ∀ G, G < 256 → (nI G + 1) &&& 255 = nI ((G + 1) % 256) := by decide +kernel
theorem tt_g4 : ∀ G, G < 256 → ((G + 1) % 256 + 255) % 256 = G := by decide +kernel
theorem tt_gd_t {b : Nat → Int32} {A : Nat} (hA : A < 2) (h : b (16 * A) = 90) : tt_gd b (nI A) = 1 := by
  unfold tt_gd
  rw [if_pos]
  exact (tt_rd_nI b hA (j := 0) (by decide)).trans h
theorem tt_gd_f {b : Nat → Int32} {A : Nat} (hA : A < 2) (h : ¬ b (16 * A) = 90) : tt_gd b (nI A) = 0 := by
  unfold tt_gd
  rw [if_neg]
  exact fun q => h ((tt_rd_nI b hA (j := 0) (by decide)).symm.trans q)
theorem tt_ga_nI {b : Nat → Int32} {A G : Nat} (hA : A < 2) (h : b (16 * A + 1) = nI G) : tt_ga b (nI A) = (nI G + 1) &&& 255 := by
  unfold tt_ga
  rw [show tt_rd b (nI A) 1 = nI G from (tt_rd_nI b hA (j := 1) (by decide)).trans h]
theorem tt_I_ac {b : Nat → Int32} {A G p k : Nat} {pt ut og : Int32} (h : tt_I b A G p k pt ut og) : tt_ac b = nI A := by
  obtain ⟨hA, hG, hp, hk, b0, b1, b2, b3, hn, hb, hpt, hut, ho⟩ := h
  have r11 : tt_rd b 1 1 = b 17 := tt_rd_nI b (A := 1) (j := 1) (by decide) (by decide)
  unfold tt_ac
  rcases (show A = 0 ∨ A = 1 by omega) with rfl | rfl
  · rcases ho with ⟨rfl, o0, o1⟩ | ⟨rfl, o0⟩
    · have g1 : tt_gd b 1 = 1 := tt_gd_t (A := 1) (by decide) o0
      have g0 : tt_gd b 0 = 1 := tt_gd_t (A := 0) (by decide) b0
      have ga : tt_ga b 0 = (nI G + 1) &&& 255 := tt_ga_nI (A := 0) (by decide) b1
      have e1 : b 17 = nI ((G + 255) % 256) := o1
      rw [g1, g0, if_neg (by decide), if_neg (by decide), r11, ga, e1, if_neg (tt_g1 G hG)]
      rfl
    · have g1 : tt_gd b 1 = 0 := tt_gd_f (A := 1) (by decide) o0
      rw [g1, if_pos rfl]
      rfl
  · have g1 : tt_gd b 1 = 1 := tt_gd_t (A := 1) (by decide) b0
    rcases ho with ⟨rfl, o0, o1⟩ | ⟨rfl, o0⟩
    · have g0 : tt_gd b 0 = 1 := tt_gd_t (A := 0) (by decide) o0
      have ga : tt_ga b 0 = (nI ((G + 255) % 256) + 1) &&& 255 := tt_ga_nI (A := 0) (by decide) o1
      have e1 : b 17 = nI G := b1
      rw [g1, g0, if_neg (by decide), if_neg (by decide), r11, ga, e1, if_pos (tt_g2 G hG)]
      rfl
    · have g0 : tt_gd b 0 = 0 := tt_gd_f (A := 0) (by decide) o0
      rw [g1, g0, if_neg (by decide), if_pos rfl]
      rfl
theorem tt_or_nI (a c : Nat) : nI a ||| nI c = nI (a ||| c) := by
  apply Int32.toBitVec_inj.1
  show BitVec.ofNat 32 a ||| BitVec.ofNat 32 c = BitVec.ofNat 32 (a ||| c)
  apply BitVec.eq_of_getLsbD_eq
  intro i hi
  simp [hi]
theorem tt_hl {p : Nat} (hp : p < 65536) : (nI (p / 256) <<< ((8 : Int32) &&& 31)) ||| nI (p % 256) = nI p := by
  rw [pk_shlN (n := p / 256) ((8 : Int32) &&& 31) 8 (by decide) (by omega), tt_or_nI]
  congr 1
  have h := Nat.two_pow_add_eq_or_of_lt (i := 8) (b := p % 256) (by omega) (p / 256)
  rw [Nat.mul_comm, ← h]
  omega
theorem tt_I_pin {b : Nat → Int32} {A G p k : Nat} {pt ut og : Int32} (h : tt_I b A G p k pt ut og) : tt_pin b = nI p := by
  unfold tt_pin
  rw [tt_I_ac h]
  obtain ⟨hA, hG, hp, hk, b0, b1, b2, b3, hn, hb, hpt, hut, ho⟩ := h
  rw [show tt_rd b (nI A) 2 = nI (p / 256) from (tt_rd_nI b hA (j := 2) (by decide)).trans b2, show tt_rd b (nI A) 3 = nI (p % 256) from (tt_rd_nI b hA (j := 3) (by decide)).trans b3]
  exact tt_hl hp
theorem tt_I_gen {b : Nat → Int32} {A G p k : Nat} {pt ut og : Int32} (h : tt_I b A G p k pt ut og) : tt_rd b (tt_ac b) 1 = nI G := by
  rw [tt_I_ac h]
  obtain ⟨hA, hG, hp, hk, b0, b1, b2, b3, hn, hb, hpt, hut, ho⟩ := h
  exact (tt_rd_nI b hA (j := 1) (by decide)).trans b1
theorem tt_pf_c {u : Int32} {e e' : Nat → Int32} : ∀ k, (∀ j, j < k → e j = e' j) → tt_pf u e k = tt_pf u e' k := by
  intro k
  induction k with
  | zero => intro _; rfl
  | succ k ih =>
    intro h
    show tt_ps (tt_pf u e k) (e k) = tt_ps (tt_pf u e' k) (e' k)
    rw [ih (fun j hj => h j (by omega)), h k (by omega)]
theorem tt_uf_c {u : Int32} {e e' : Nat → Int32} : ∀ k, (∀ j, j < k → e j = e' j) → tt_uf u e k = tt_uf u e' k := by
  intro k
  induction k with
  | zero => intro _; rfl
  | succ k ih =>
    intro h
    show tt_us (tt_uf u e k) (e k) = tt_us (tt_uf u e' k) (e' k)
    rw [ih (fun j hj => h j (by omega)), h k (by omega)]
theorem tt_ff_c {u : Int32} {e e' : Nat → Int32} : ∀ k, (∀ j, j < k → e j = e' j) → tt_ff u e k = tt_ff u e' k := by
  intro k
  induction k with
  | zero => intro _; rfl
  | succ k ih =>
    intro h
    show tt_fs (tt_ff u e k) (e k) = tt_fs (tt_ff u e' k) (e' k)
    rw [ih (fun j hj => h j (by omega)), h k (by omega)]
theorem tt_ps_255 (u : Int32) : tt_ps u 255 = u := by unfold tt_ps; rw [if_neg (by decide)]
theorem tt_us_255 (u : Int32) : tt_us u 255 = u := by unfold tt_us; rw [if_neg (by decide)]
theorem tt_pf_b {u : Int32} {e : Nat → Int32} (k : Nat) : ∀ n, (∀ j, k ≤ j → j < k + n → e j = 255) → tt_pf u e (k + n) = tt_pf u e k := by
  intro n
  induction n with
  | zero => intro _; rfl
  | succ n ih =>
    intro h
    show tt_ps (tt_pf u e (k + n)) (e (k + n)) = _
    rw [h (k + n) (by omega) (by omega), tt_ps_255]
    exact ih (fun j h1 h2 => h j h1 (by omega))
theorem tt_uf_b {u : Int32} {e : Nat → Int32} (k : Nat) : ∀ n, (∀ j, k ≤ j → j < k + n → e j = 255) → tt_uf u e (k + n) = tt_uf u e k := by
  intro n
  induction n with
  | zero => intro _; rfl
  | succ n ih =>
    intro h
    show tt_us (tt_uf u e (k + n)) (e (k + n)) = _
    rw [h (k + n) (by omega) (by omega), tt_us_255]
    exact ih (fun j h1 h2 => h j h1 (by omega))
theorem tt_ff_n {u : Int32} {e : Nat → Int32} : ∀ k, (∀ j, j < k → ¬ e j = 255) → tt_ff u e k = u := by
  intro k
  induction k with
  | zero => intro _; rfl
  | succ k ih =>
    intro h
    show tt_fs (tt_ff u e k) (e k) = u
    unfold tt_fs
    rw [if_neg (h k (by omega))]
    exact ih (fun j hj => h j (by omega))
theorem tt_ff_b {u : Int32} {e : Nat → Int32} (k : Nat) : ∀ n, (∀ j, k ≤ j → j < k + n → e j = 255) → tt_ff u e (k + n) = tt_ff u e k + nI n := by
  intro n
  induction n with
  | zero => intro _; show tt_ff u e k = tt_ff u e k + 0; rw [Int32.add_zero]
  | succ n ih =>
    intro h
    show tt_fs (tt_ff u e (k + n)) (e (k + n)) = _
    unfold tt_fs
    rw [if_pos (h (k + n) (by omega) (by omega)), ih (fun j h1 h2 => h j h1 (by omega)), nI_succ, Int32.add_assoc]
theorem tt_1f_n {e : Nat → Int32} : ∀ n i, (∀ j, i ≤ j → j < i + n → ¬ e j = 255) → tt_1f e n i = -1 := by
  intro n
  induction n with
  | zero => intro i _; rfl
  | succ n ih =>
    intro i h
    show (if e i = 255 then nI (6 + i) else tt_1f e n (i + 1)) = -1
    rw [if_neg (h i (by omega) (by omega))]
    exact ih (i + 1) (fun j h1 h2 => h j (by omega) (by omega))
theorem tt_1f_b {e : Nat → Int32} {k : Nat} (hk : e k = 255) : ∀ d n i, i + d = k → d < n → (∀ j, i ≤ j → j < k → ¬ e j = 255) → tt_1f e n i = nI (6 + k) := by
  intro d
  induction d with
  | zero =>
    intro n i h1 h2 h
    obtain ⟨n, rfl⟩ : ∃ m, n = m + 1 := ⟨n - 1, by omega⟩
    obtain rfl : i = k := by omega
    show (if e i = 255 then nI (6 + i) else tt_1f e n (i + 1)) = _
    rw [if_pos hk]
  | succ d ih =>
    intro n i h1 h2 h
    obtain ⟨n, rfl⟩ : ∃ m, n = m + 1 := ⟨n - 1, by omega⟩
    show (if e i = 255 then nI (6 + i) else tt_1f e n (i + 1)) = _
    rw [if_neg (h i (by omega) (by omega))]
    exact ih n (i + 1) (by omega) (by omega) (fun j q1 q2 => h j (by omega) q2)
theorem tt_en_nI (b : Nat → Int32) {A j : Nat} (hA : A < 2) (hj : j < 10) : tt_en b (nI A) j = b (16 * A + (6 + j)) := tt_rd_nI b hA (by omega)
theorem tt_I_pu {b : Nat → Int32} {A G p k : Nat} {pt ut og : Int32} (h : tt_I b A G p k pt ut og) : tt_pu b = pt := by
  unfold tt_pu
  rw [tt_I_ac h]
  obtain ⟨hA, hG, hp, hk, b0, b1, b2, b3, hn, hb, hpt, hut, ho⟩ := h
  rw [show tt_rd b (nI A) 4 = b (16 * A + 4) from tt_rd_nI b hA (j := 4) (by decide), tt_pf_c 10 (fun j hj => tt_en_nI b hA hj), show 10 = k + (10 - k) by omega, tt_pf_b k (10 - k) (fun j h1 h2 => hb j h1 (by omega))]
  exact hpt
theorem tt_I_uu {b : Nat → Int32} {A G p k : Nat} {pt ut og : Int32} (h : tt_I b A G p k pt ut og) : tt_uu b = ut := by
  unfold tt_uu
  rw [tt_I_ac h]
  obtain ⟨hA, hG, hp, hk, b0, b1, b2, b3, hn, hb, hpt, hut, ho⟩ := h
  rw [show tt_rd b (nI A) 5 = b (16 * A + 5) from tt_rd_nI b hA (j := 5) (by decide), tt_uf_c 10 (fun j hj => tt_en_nI b hA hj), show 10 = k + (10 - k) by omega, tt_uf_b k (10 - k) (fun j h1 h2 => hb j h1 (by omega))]
  exact hut
theorem tt_I_fe {b : Nat → Int32} {A G p k : Nat} {pt ut og : Int32} (h : tt_I b A G p k pt ut og) : tt_fe b = nI (10 - k) := by
  unfold tt_fe
  rw [tt_I_ac h]
  obtain ⟨hA, hG, hp, hk, b0, b1, b2, b3, hn, hb, hpt, hut, ho⟩ := h
  rw [tt_ff_c 10 (fun j hj => tt_en_nI b hA hj), show 10 = k + (10 - k) by omega, tt_ff_b k (10 - k) (fun j h1 h2 => hb j h1 (by omega)), tt_ff_n k hn, Int32.zero_add, show k + (10 - k) - k = 10 - k by omega]
theorem tt_I_fst {b : Nat → Int32} {A G p k : Nat} {pt ut og : Int32} (h : tt_I b A G p k pt ut og) : (k = 10 → tt_fst b = -1) ∧ (k < 10 → tt_fst b = nI (6 + k)) := by
  unfold tt_fst
  rw [tt_I_ac h]
  obtain ⟨hA, hG, hp, hk, b0, b1, b2, b3, hn, hb, hpt, hut, ho⟩ := h
  refine ⟨fun q => ?_, fun q => ?_⟩
  · exact tt_1f_n 10 0 (fun j h1 h2 => by rw [tt_en_nI b hA (by omega)]; exact hn j (by omega))
  · exact tt_1f_b (k := k) (by rw [tt_en_nI b hA q]; exact hb k (Nat.le_refl _) q) k 10 0 (by omega) q (fun j h1 h2 => by rw [tt_en_nI b hA (by omega)]; exact hn j h2)
/-- what only touches the other page, and leaves it not good -/
theorem tt_I_oth {b b' : Nat → Int32} {A G p k : Nat} {pt ut og : Int32} (h : tt_I b A G p k pt ut og) (he : ∀ q, 16 * A ≤ q → q < 16 * A + 16 → b' q = b q) (ho : ¬ b' (16 * (1 - A)) = 90) : tt_I b' A G p k pt ut 0 := by
  obtain ⟨hA, hG, hp, hk, b0, b1, b2, b3, hn, hb, hpt, hut, -⟩ := h
  refine ⟨hA, hG, hp, hk, ?_, ?_, ?_, ?_, fun j hj => ?_, fun j h1 h2 => ?_, ?_, ?_, Or.inr ⟨rfl, ho⟩⟩
  · rw [he _ (by omega) (by omega)]; exact b0
  · rw [he _ (by omega) (by omega)]; exact b1
  · rw [he _ (by omega) (by omega)]; exact b2
  · rw [he _ (by omega) (by omega)]; exact b3
  · rw [he _ (by omega) (by omega)]; exact hn j hj
  · rw [he _ (by omega) (by omega)]; exact hb j h1 h2
  · rw [he _ (by omega) (by omega), ← hpt]; exact tt_pf_c k (fun j hj => he _ (by omega) (by omega))
  · rw [he _ (by omega) (by omega), ← hut]; exact tt_uf_c k (fun j hj => he _ (by omega) (by omega))
theorem tt_I_og {b : Nat → Int32} {A G p k : Nat} {pt ut og : Int32} (h : tt_I b A G p k pt ut og) : (og = 1 ∧ b (16 * (1 - A)) = 90 ∧ b (16 * (1 - A) + 1) = nI ((G + 255) % 256)) ∨ (og = 0 ∧ ¬ b (16 * (1 - A)) = 90) := h.2.2.2.2.2.2.2.2.2.2.2.2
end
section
/-! the turn of a page, beside the reference's -/
theorem tt_k90 : ∀ K, K < 256 → (((90 : Int32) &&& (0 ||| (nI K ^^^ (-1))) = 90) ↔ (nI K &&& 90 = 0)) := by decide +kernel
theorem tt_k165 : ∀ K, K < 256 → (((255 : Int32) &&& (90 ||| (nI K ^^^ (-1))) = 90) ↔ (nI K &&& 165 = 165)) := by decide +kernel
theorem tt_w8 : ∀ v, v < 256 → (255 : Int32) &&& (nI v ||| (255 ^^^ (-1))) = nI v := by decide +kernel
theorem tt_seq_0 {S : Type} (s : S) (k : S → Int32 × S) : tt_seq (0, s) k = (0, s) := if_pos rfl
theorem tt_seq_1 {S : Type} (s : S) (k : S → Int32 × S) : tt_seq (1, s) k = k s := if_neg (show ¬ (1 : Int32) = 0 by decide)
theorem mm_lp_1 (n : Nat) (ac ag pn pt ut en og pw hd ar dn e0 e1 : Int32) {K : Nat} (hK : K < 256) : mm_lp (n + 1) (ac, ag, pn, pt, ut, en, og, pw, hd, nI 1, nI K, ar, dn, e0, e1) = (0, (ac, ag, pn, pt, ut, en, og, 0, 0, nI 0, nI K, ar, dn + 1, e0, e1)) := by
  simp only [mm_lp, mm_op_1]
  rw [if_neg (nI_pos (by omega))]
theorem mm_lp_0 (n : Nat) (ac ag pn pt ut en og pw hd tk ar dn e0 e1 : Int32) {T : Nat} (hT : T ≤ 30) (h1 : ¬ T = 1) : mm_lp (n + 1) (ac, ag, pn, pt, ut, en, og, pw, hd, nI T, tk, ar, dn, e0, e1) = mm_lp n (ac, ag, pn, pt, ut, en, og, pw, hd, nI (T - 1), tk, ar, dn + 1, e0, e1) := by
  have e := mm_op_0 ac ag pn pt ut en og pw hd tk ar dn e0 e1 hT h1
  simp only [mm_lp, e]
  rw [if_pos (by decide)]
/-- how a turn may end: the old page stays and the power is lost, or the new page is active (with or without power) -/
def tt_Rel (A G p k a c p' a' c' K : Nat) (pw hd ar : Int32) (x : Int32 × tt_F) (y : Int32 × tt_M) : Prop :=
  ∃ (b' g' : Nat → Int32) (dn' : Int32) (T' : Nat), T' ≤ 30 ∧
   ((∃ og' : Int32, tt_I b' A G p k (nI a) (nI c) og' ∧ x = (0, (b', g', dn', nI T', nI K)) ∧ y = (0, (nI A, nI G, nI p, nI a, nI c, nI (10 - k), og', 0, 0, nI T', nI K, ar, dn', g' 0, g' 1))) ∨
    (∃ r pw' hd' : Int32, tt_I b' (1 - A) ((G + 1) % 256) p' 0 (nI a') (nI c') 1 ∧ ((r = 1 ∧ pw' = pw ∧ hd' = hd) ∨ (r = 0 ∧ pw' = 0 ∧ hd' = 0)) ∧ x = (r, (b', g', dn', nI T', nI K)) ∧ y = (r, (nI (1 - A), nI ((G + 1) % 256), nI p', nI a', nI c', nI 10, 1, pw', hd', nI T', nI K, ar, dn', g' 0, g' 1))))
theorem tt_stop {A G p k a c p' a' c' K T : Nat} {pw hd ar dn og : Int32} {b g : Nat → Int32} (h : tt_I b A G p k (nI a) (nI c) og) (hT : T ≤ 30) : tt_Rel A G p k a c p' a' c' K pw hd ar (0, (b, g, dn, nI T, nI K)) (0, (nI A, nI G, nI p, nI a, nI c, nI (10 - k), og, 0, 0, nI T, nI K, ar, dn, g 0, g 1)) :=
  ⟨b, g, dn, T, hT, Or.inl ⟨og, h, rfl, rfl⟩⟩
theorem tt_I_lt {b : Nat → Int32} {A G p k : Nat} {pt ut og : Int32} (h : tt_I b A G p k pt ut og) : A < 2 := h.1
theorem tt_I_upd {b : Nat → Int32} {A G p k j : Nat} {pt ut : Int32} (h : tt_I b A G p k pt ut 0) (hj0 : 0 < j) (hj : j < 16) (w : Int32) : tt_I (upd b (16 * (1 - A) + j) w) A G p k pt ut 0 := by
  have hA := h.1
  refine tt_I_oth h (fun q h1 h2 => pk_un (by omega)) ?_
  rw [pk_un (by omega)]
  rcases tt_I_og h with ⟨q, -⟩ | ⟨-, q⟩
  · exact absurd q (by decide)
  · exact q
theorem tt_step {A G p k a c p' a' c' K T n j : Nat} {pw hd ar dn : Int32} {b g : Nat → Int32} {kF : tt_F → Int32 × tt_F} {kM : tt_M → Int32 × tt_M} (h : tt_I b A G p k (nI a) (nI c) 0) (hT : T ≤ 30) (hK : K < 256) (hj0 : 0 < j) (hj : j < 16) (v : Int32)
    (go : ∀ b2, b2 = upd b (16 * (1 - A) + j) (b (16 * (1 - A) + j) &&& (v ||| (255 ^^^ (-1)))) → tt_I b2 A G p k (nI a) (nI c) 0 → tt_Rel A G p k a c p' a' c' K pw hd ar (kF (b2, g, dn + 1, nI (T - 1), nI K)) (tt_seq (mm_lp n (nI A, nI G, nI p, nI a, nI c, nI (10 - k), 0, pw, hd, nI (T - 1), nI K, ar, dn + 1, g 0, g 1)) kM)) :
    tt_Rel A G p k a c p' a' c' K pw hd ar (tt_seq (tt_prog (b, g, dn, nI T, nI K) (nI (1 - A)) (nI j) v) kF) (tt_seq (mm_lp (n + 1) (nI A, nI G, nI p, nI a, nI c, nI (10 - k), 0, pw, hd, nI T, nI K, ar, dn, g 0, g 1)) kM) := by
  by_cases h1 : T = 1
  · subst h1
    rw [tt_prog_1 b g dn (nI K) (by omega) hj v, mm_lp_1 n _ _ _ _ _ _ _ _ _ _ _ _ _ hK, tt_seq_0, tt_seq_0]
    exact tt_stop (tt_I_upd h hj0 hj _) (by omega)
  · rw [tt_prog_0 b g dn (nI K) hT h1 (by omega) hj v, mm_lp_0 n _ _ _ _ _ _ _ _ _ _ _ _ _ _ hT h1, tt_seq_1]
    exact go _ rfl (tt_I_upd h hj0 hj _)
def tt_C (b : Nat → Int32) (O n : Nat) (w : Nat → Nat) : Prop := ∀ q, q < 16 → b (16 * O + q) = if 1 ≤ q ∧ q ≤ n then nI (w q) else 255
theorem tt_C_s {b : Nat → Int32} {O n : Nat} {w : Nat → Nat} (h : tt_C b O n w) (hn : n + 1 < 16) (hw : w (n + 1) < 256) : tt_C (upd b (16 * O + (n + 1)) (b (16 * O + (n + 1)) &&& (nI (w (n + 1)) ||| (255 ^^^ (-1))))) O (n + 1) w := by
  intro q hq
  by_cases h1 : q = n + 1
  · subst h1
    rw [pk_us, h (n + 1) hq, if_neg (by omega), if_pos (by omega)]
    exact tt_w8 _ hw
  · rw [pk_un (by omega), h q hq]
    by_cases h2 : 1 ≤ q ∧ q ≤ n
    · rw [if_pos h2, if_pos (by omega)]
    · rw [if_neg h2, if_neg (by omega)]
/-- the new page, once its first byte is written -/
theorem tt_I_new {b : Nat → Int32} {A G p k : Nat} {pt ut og : Int32} {p' a' c' : Nat} (h : tt_I b A G p k pt ut og) (hp : p' < 65536) {w : Nat → Nat} (hw1 : w 1 = (G + 1) % 256) (hw2 : w 2 = p' / 256) (hw3 : w 3 = p' % 256) (hw4 : w 4 = a') (hw5 : w 5 = c') (hC : tt_C b (1 - A) 5 w) :
    tt_I (upd b (16 * (1 - A)) 90) (1 - A) ((G + 1) % 256) p' 0 (nI a') (nI c') 1 := by
  obtain ⟨hA, hG, hp0, hk, b0, b1, b2, b3, hn, hb, hpt, hut, ho⟩ := h
  have at' : ∀ q, 0 < q → q < 16 → upd b (16 * (1 - A)) 90 (16 * (1 - A) + q) = if 1 ≤ q ∧ q ≤ 5 then nI (w q) else 255 := fun q h0 hq => by
    rw [pk_un (by omega)]; exact hC q hq
  refine ⟨by omega, by omega, hp, by omega, pk_us, ?_, ?_, ?_, fun j hj => absurd hj (Nat.not_lt_zero _), fun j _ hj => ?_, ?_, ?_, Or.inl ⟨rfl, ?_, ?_⟩⟩
  · rw [at' 1 (by omega) (by omega), if_pos (by omega), hw1]
  · rw [at' 2 (by omega) (by omega), if_pos (by omega), hw2]
  · rw [at' 3 (by omega) (by omega), if_pos (by omega), hw3]
  · rw [at' (6 + j) (by omega) (by omega), if_neg (by omega)]
  · show upd b (16 * (1 - A)) 90 (16 * (1 - A) + 4) = nI a'
    rw [at' 4 (by omega) (by omega), if_pos (by omega), hw4]
  · show upd b (16 * (1 - A)) 90 (16 * (1 - A) + 5) = nI c'
    rw [at' 5 (by omega) (by omega), if_pos (by omega), hw5]
  · rw [show 1 - (1 - A) = A by omega, pk_un (by omega)]; exact b0
  · rw [show 1 - (1 - A) = A by omega, pk_un (by omega), tt_g4 G hG]; exact b1
theorem tt_upd_I (b : Nat → Int32) (k : Nat) (x y : Int32) (h : x = y) : upd b k x = upd b k y := by rw [h]
theorem tt_all_t {m k : Int32} (h : m &&& k = k) : mm_all m k = 1 := by
  unfold mm_all
  by_cases q : m < 0
  · rw [if_pos q]
  · rw [if_neg q, if_pos h]
theorem tt_all_f {K : Nat} {k : Int32} (hK : K < 256) (h : ¬ nI K &&& k = k) : mm_all (nI K) k = 0 := by
  unfold mm_all
  rw [if_neg (nI_pos (by omega)), if_neg h]
theorem tt_age {G : Nat} (hG : G < 256) : (nI G + 1) - (nI G + 1) / 256 * 256 = nI ((G + 1) % 256) := by
  rw [nI_1]
  exact pk_rem (a := G + 1) (d := 256) (by omega) (by omega) (by omega)
/-- the last step: byte 0 of the fresh page -/
theorem tt_last {A G p k a c p' a' c' K T : Nat} {pw hd ar dn : Int32} {b g : Nat → Int32} (h : tt_I b A G p k (nI a) (nI c) 0) (hT : T ≤ 30) (hK : K < 256) (hp : p' < 65536) {w : Nat → Nat} (hw1 : w 1 = (G + 1) % 256) (hw2 : w 2 = p' / 256) (hw3 : w 3 = p' % 256) (hw4 : w 4 = a') (hw5 : w 5 = c') (hC : tt_C b (1 - A) 5 w) :
    tt_Rel A G p k a c p' a' c' K pw hd ar (tt_seq (tt_prog (b, g, dn, nI T, nI K) (nI (1 - A)) 0 90) fun s => (1, s)) (mm_t9 (nI A, nI G, nI p, nI a, nI c, nI (10 - k), 0, pw, hd, nI T, nI K, ar, dn, g 0, g 1) (nI p') (nI a') (nI c')) := by
  have hA := h.1
  have hG := h.2.1
  have e1 : (1 : Int32) - nI A = nI (1 - A) := pk_sub (a := 1) (b := A) (by omega)
  have hb0 : b (16 * (1 - A)) = 255 := by have q := hC 0 (by omega); rw [if_neg (by omega)] at q; exact q
  by_cases h1 : T = 1
  · subst h1
    have ep := tt_prog_1 b g dn (nI K) (A := 1 - A) (j := 0) (by omega) (by decide) 90
    rw [show tt_prog (b, g, dn, nI 1, nI K) (nI (1 - A)) 0 90 = _ from ep, tt_seq_0]
    simp only [mm_t9, mm_op_1]
    rw [if_pos (nI_pos' (by omega)), Nat.add_zero, hb0]
    by_cases hm : nI K &&& 165 = 165
    · rw [tt_all_t hm, if_neg (by decide), e1, tt_age hG, (tt_k165 K hK).mpr hm]
      exact ⟨_, g, dn + 1, 0, by omega, Or.inr ⟨0, 0, 0, tt_I_new h hp hw1 hw2 hw3 hw4 hw5 hC, Or.inr ⟨rfl, rfl, rfl⟩, rfl, rfl⟩⟩
    · rw [tt_all_f hK hm, if_pos rfl]
      refine tt_stop (tt_I_oth h (fun q h1 h2 => pk_un (by omega)) ?_) (by omega)
      rw [pk_us]
      exact fun q => hm ((tt_k165 K hK).mp q)
  · have ep := tt_prog_0 b g dn (nI K) (A := 1 - A) (j := 0) hT h1 (by omega) (by decide) 90
    have eo := mm_op_0 (nI A) (nI G) (nI p) (nI a) (nI c) (nI (10 - k)) 0 pw hd (nI K) ar dn (g 0) (g 1) hT h1
    rw [show tt_prog (b, g, dn, nI T, nI K) (nI (1 - A)) 0 90 = _ from ep, tt_seq_1]
    simp only [mm_t9, eo]
    rw [if_neg (by decide), Nat.add_zero, hb0, show mm_all (-1) 165 = 1 by decide, if_neg (by decide), e1, tt_age hG, show (255 : Int32) &&& (90 ||| (255 ^^^ (-1))) = 90 by decide]
    exact ⟨_, g, dn + 1, T - 1, by omega, Or.inr ⟨1, pw, hd, tt_I_new h hp hw1 hw2 hw3 hw4 hw5 hC, Or.inl ⟨rfl, rfl, rfl⟩, rfl, rfl⟩⟩
theorem tt_er_page {A A2 : Nat} {x1 x2 x3 x4 x5 x6 x7 x8 x9 x10 x11 x12 : Int32} (hA : A < 2) (hA2 : A2 = 1 - A) (g : Nat → Int32) : mm_er (nI A, x1, x2, x3, x4, x5, x6, x7, x8, x9, x10, x11, x12, g 0, g 1) = (nI A, x1, x2, x3, x4, x5, x6, x7, x8, x9, x10, x11, x12, (upd g A2 (g A2 + 1)) 0, (upd g A2 (g A2 + 1)) 1) := by
  subst hA2
  simp only [mm_er]
  rcases (show A = 0 ∨ A = 1 by omega) with rfl | rfl
  · rw [if_pos (by decide)]
    rfl
  · rw [if_neg (by decide)]
    rfl
/-- from the erase on, the other page not good -/
theorem tt_mid {A G p k a c p' a' c' K T : Nat} {pw hd ar dn : Int32} {b g : Nat → Int32} (h : tt_I b A G p k (nI a) (nI c) 0) (hT : T ≤ 30) (hK : K < 256) (hp : p' < 65536) (ha : a' < 256) (hc : c' < 256) :
    tt_Rel A G p k a c p' a' c' K pw hd ar (tt_seq (tt_erase (b, g, dn, nI T, nI K) (nI (1 - A))) fun s2 => tt_seq (tt_prog s2 (nI (1 - A)) 1 (tt_ga s2.1 (nI A))) fun s3 =>
      tt_seq (tt_prog s3 (nI (1 - A)) 2 (nI p' >>> ((8 : Int32) &&& 31))) fun s4 => tt_seq (tt_prog s4 (nI (1 - A)) 3 (nI p' &&& 255)) fun s5 => tt_seq (tt_prog s5 (nI (1 - A)) 4 (nI a')) fun s6 =>
      tt_seq (tt_prog s6 (nI (1 - A)) 5 (nI c')) fun s7 => tt_seq (tt_prog s7 (nI (1 - A)) 0 90) fun s8 => (1, s8))
      (tt_seq (mm_lp (5 + 1) (mm_er (nI A, nI G, nI p, nI a, nI c, nI (10 - k), 0, pw, hd, nI T, nI K, ar, dn, g 0, g 1))) fun s2 => mm_t9 s2 (nI p') (nI a') (nI c')) := by
  have hA := h.1
  have hG := h.2.1
  rw [tt_er_page hA rfl g]
  by_cases h1 : T = 1
  · subst h1
    rw [tt_erase_1 b g dn (nI K) (by omega), mm_lp_1 5 _ _ _ _ _ _ _ _ _ _ _ _ _ hK, tt_seq_0, tt_seq_0]
    refine tt_stop (tt_I_oth h (fun q q1 q2 => tt_er_out b (by omega) _ (by omega)) ?_) (by omega)
    rcases tt_er_any b (A := 1 - A) (by omega) (nI K) 16 (Nat.le_refl _) (16 * (1 - A)) with q | ⟨q, -⟩
    · rw [q]
      rcases tt_I_og h with ⟨z, -⟩ | ⟨-, z⟩
      · exact absurd z (by decide)
      · exact z
    · rw [q]; decide
  · rw [tt_erase_0 b g dn (nI K) hT h1 (by omega), mm_lp_0 5 _ _ _ _ _ _ _ _ _ _ _ _ _ _ hT h1, tt_seq_1]
    have hC0 : tt_C (tt_er b (nI (1 - A)) 255 16) (1 - A) 0 (fun q => if q = 1 then (G + 1) % 256 else if q = 2 then p' / 256 else if q = 3 then p' % 256 else if q = 4 then a' else c') := fun q hq => by
      rw [if_neg (by omega)]; exact tt_er_in b (by omega) 16 (Nat.le_refl _) _ (by omega) (by omega)
    have hI0 : tt_I (tt_er b (nI (1 - A)) 255 16) A G p k (nI a) (nI c) 0 := tt_I_oth h (fun q q1 q2 => tt_er_out b (by omega) _ (by omega)) (by rw [tt_er_in b (by omega) 16 (Nat.le_refl _) _ (by omega) (by omega)]; decide)
    generalize hw : (fun q => if q = 1 then (G + 1) % 256 else if q = 2 then p' / 256 else if q = 3 then p' % 256 else if q = 4 then a' else c') = w at hC0
    have w1 : w 1 = (G + 1) % 256 := by rw [← hw]; rfl
    have w2 : w 2 = p' / 256 := by rw [← hw]; rfl
    have w3 : w 3 = p' % 256 := by rw [← hw]; rfl
    have w4 : w 4 = a' := by rw [← hw]; rfl
    have w5 : w 5 = c' := by rw [← hw]; rfl
    generalize tt_er b (nI (1 - A)) 255 16 = b1 at hC0 hI0 ⊢
    generalize upd g (1 - A) (g (1 - A) + 1) = g1
    have eg : tt_ga b1 (nI A) = nI (w 1) := by rw [tt_ga_nI hA hI0.2.2.2.2.2.1, tt_g3 G hG, w1]
    have es : nI p' >>> ((8 : Int32) &&& 31) = nI (w 2) := by rw [w2]; exact pk_shrN (n := p') (by omega) ((8 : Int32) &&& 31) 8 (by decide)
    have ea : nI p' &&& 255 = nI (w 3) := by rw [w3]; exact pk_andN (n := p') (by omega) 8 (by decide)
    show tt_Rel _ _ _ _ _ _ _ _ _ _ _ _ _ (tt_seq (tt_prog (b1, g1, dn + 1, nI (T - 1), nI K) (nI (1 - A)) (nI 1) (tt_ga b1 (nI A))) _) _
    rw [eg]
    refine tt_step (j := 1) hI0 (by omega) hK (by omega) (by omega) _ (fun b2 hb2 hI2 => ?_)
    have hC2 : tt_C b2 (1 - A) 1 w := by rw [hb2]; exact tt_C_s hC0 (by omega) (by rw [w1]; omega)
    rw [es]
    refine tt_step (j := 2) hI2 (by omega) hK (by omega) (by omega) _ (fun b3 hb3 hI3 => ?_)
    have hC3 : tt_C b3 (1 - A) 2 w := by rw [hb3]; exact tt_C_s hC2 (by omega) (by rw [w2]; omega)
    rw [ea]
    refine tt_step (j := 3) hI3 (by omega) hK (by omega) (by omega) _ (fun b4 hb4 hI4 => ?_)
    have hC4 : tt_C b4 (1 - A) 3 w := by rw [hb4]; exact tt_C_s hC3 (by omega) (by rw [w3]; omega)
    refine tt_step (j := 4) hI4 (by omega) hK (by omega) (by omega) _ (fun b5 hb5 hI5 => ?_)
    have hC5 : tt_C b5 (1 - A) 4 w := by rw [hb5, ← w4]; exact tt_C_s hC4 (by omega) (by rw [w4]; omega)
    refine tt_step (j := 5) hI5 (by omega) hK (by omega) (by omega) _ (fun b6 hb6 hI6 => ?_)
    have hC6 : tt_C b6 (1 - A) 5 w := by rw [hb6, ← w5]; exact tt_C_s hC5 (by omega) (by rw [w5]; omega)
    show tt_Rel _ _ _ _ _ _ _ _ _ _ _ _ _ _ (tt_seq (1, _) _)
    rw [tt_seq_1]
    exact tt_last hI6 (by omega) hK hp w1 w2 w3 w4 w5 hC6
theorem tt_turn_sim {A G p k a c p' a' c' K T : Nat} {pw hd ar dn og : Int32} {b g : Nat → Int32} (h : tt_I b A G p k (nI a) (nI c) og) (hT : T ≤ 30) (hK : K < 256) (hp : p' < 65536) (ha : a' < 256) (hc : c' < 256) :
    tt_Rel A G p k a c p' a' c' K pw hd ar (tt_turn (b, g, dn, nI T, nI K) (nI p') (nI a') (nI c')) (mm_turn (nI A, nI G, nI p, nI a, nI c, nI (10 - k), og, pw, hd, nI T, nI K, ar, dn, g 0, g 1) (nI p') (nI a') (nI c')) := by
  have hA := h.1
  have e1 : (1 : Int32) - nI A = nI (1 - A) := pk_sub (a := 1) (b := A) (by omega)
  unfold tt_turn mm_turn
  simp only
  rw [tt_I_ac h, e1]
  unfold tt_t0 mm_t0
  simp only
  rcases tt_I_og h with ⟨rfl, o0, o1⟩ | ⟨rfl, o0⟩
  · rw [tt_gd_t (A := 1 - A) (by omega) o0, if_neg (by decide), if_neg (by decide)]
    by_cases h1 : T = 1
    · subst h1
      have ep := tt_prog_1 b g dn (nI K) (A := 1 - A) (j := 0) (by omega) (by decide) 0
      rw [show tt_prog (b, g, dn, nI 1, nI K) (nI (1 - A)) 0 0 = _ from ep, mm_op_1]
      simp only [mm_setog]
      rw [if_neg (nI_pos (by omega)), tt_seq_0, tt_seq_0, Nat.add_zero, o0]
      by_cases hm : nI K &&& 90 = 0
      · rw [if_pos hm, (tt_k90 K hK).mpr hm]
        refine tt_stop ?_ (by omega)
        have eu : upd b (16 * (1 - A)) 90 = b := by
          funext q
          by_cases hq : q = 16 * (1 - A)
          · rw [hq, pk_us, o0]
          · exact pk_un hq
        rw [eu]
        exact h
      · rw [if_neg hm]
        refine tt_stop (tt_I_oth h (fun q h1 h2 => pk_un (by omega)) ?_) (by omega)
        rw [pk_us]
        exact fun q => hm ((tt_k90 K hK).mp q)
    · have ep := tt_prog_0 b g dn (nI K) (A := 1 - A) (j := 0) hT h1 (by omega) (by decide) 0
      rw [show tt_prog (b, g, dn, nI T, nI K) (nI (1 - A)) 0 0 = _ from ep, mm_op_0 _ _ _ _ _ _ _ _ _ _ _ _ _ _ hT h1]
      simp only [mm_setog]
      rw [if_pos (by decide), tt_seq_1, tt_seq_1, Nat.add_zero, o0]
      refine tt_mid (tt_I_oth h (fun q h1 h2 => pk_un (by omega)) ?_) (by omega) hK hp ha hc
      rw [pk_us]
      decide
  · rw [tt_gd_f (A := 1 - A) (by omega) o0, if_pos rfl, if_pos rfl, tt_seq_1, tt_seq_1]
    exact tt_mid h hT hK hp ha hc
end
section
/-! a mark, beside the reference's -/
theorem tt_kv_0 : ∀ K, K < 256 → ((nI K &&& 1 = 1 → (255 : Int32) &&& (254 ||| (nI K ^^^ (-1))) = 254) ∧ (¬ nI K &&& 1 = 1 → (255 : Int32) &&& (254 ||| (nI K ^^^ (-1))) = 255)) := by decide +kernel
theorem tt_kv_1 : ∀ K, K < 256 → ((nI K &&& 16 = 16 → (255 : Int32) &&& (239 ||| (nI K ^^^ (-1))) = 239) ∧ (¬ nI K &&& 16 = 16 → (255 : Int32) &&& (239 ||| (nI K ^^^ (-1))) = 255)) := by decide +kernel
theorem tt_kv_2 : ∀ K, K < 256 → ((nI K &&& 2 = 2 → (254 : Int32) &&& (253 ||| (nI K ^^^ (-1))) = 252) ∧ (¬ nI K &&& 2 = 2 → (254 : Int32) &&& (253 ||| (nI K ^^^ (-1))) = 254)) := by decide +kernel
theorem tt_upd_same {b : Nat → Int32} {k : Nat} {x : Int32} (h : b k = x) : upd b k x = b := by
  funext q
  by_cases hq : q = k
  · rw [hq, pk_us, h]
  · exact pk_un hq
theorem tt_I_add {b : Nat → Int32} {A G p k : Nat} {pt ut og : Int32} (h : tt_I b A G p k pt ut og) (hk : k < 10) {w pt' ut' : Int32} (hw : ¬ w = 255) (hps : tt_ps pt w = pt') (hus : tt_us ut w = ut') : tt_I (upd b (16 * A + (6 + k)) w) A G p (k + 1) pt' ut' og := by
  obtain ⟨hA, hG, hp, hk10, b0, b1, b2, b3, hn, hb, hpt, hut, ho⟩ := h
  refine ⟨hA, hG, hp, hk, ?_, ?_, ?_, ?_, fun j hj => ?_, fun j h1 h2 => ?_, ?_, ?_, ?_⟩
  · rw [pk_un (by omega)]; exact b0
  · rw [pk_un (by omega)]; exact b1
  · rw [pk_un (by omega)]; exact b2
  · rw [pk_un (by omega)]; exact b3
  · by_cases q : j = k
    · subst q; rw [pk_us]; exact hw
    · rw [pk_un (by omega)]; exact hn j (by omega)
  · rw [pk_un (by omega)]; exact hb j (by omega) h2
  · show tt_ps (tt_pf _ _ k) (upd b (16 * A + (6 + k)) w (16 * A + (6 + k))) = pt'
    rw [pk_us, pk_un (by omega), tt_pf_c (e' := fun j => b (16 * A + (6 + j))) k (fun j hj => pk_un (by omega)), hpt]
    exact hps
  · show tt_us (tt_uf _ _ k) (upd b (16 * A + (6 + k)) w (16 * A + (6 + k))) = ut'
    rw [pk_us, pk_un (by omega), tt_uf_c (e' := fun j => b (16 * A + (6 + j))) k (fun j hj => pk_un (by omega)), hut]
    exact hus
  · rcases ho with ⟨o, o0, o1⟩ | ⟨o, o0⟩
    · exact Or.inl ⟨o, by rw [pk_un (by omega)]; exact o0, by rw [pk_un (by omega)]; exact o1⟩
    · exact Or.inr ⟨o, by rw [pk_un (by omega)]; exact o0⟩
theorem tt_I_fix {b : Nat → Int32} {A G p k : Nat} {pt ut og : Int32} (h : tt_I b A G p (k + 1) pt ut og) (hl : b (16 * A + (6 + k)) = 254) : tt_I (upd b (16 * A + (6 + k)) 252) A G p (k + 1) (nI 0) ut og := by
  obtain ⟨hA, hG, hp, hk10, b0, b1, b2, b3, hn, hb, hpt, hut, ho⟩ := h
  refine ⟨hA, hG, hp, hk10, ?_, ?_, ?_, ?_, fun j hj => ?_, fun j h1 h2 => ?_, ?_, ?_, ?_⟩
  · rw [pk_un (by omega)]; exact b0
  · rw [pk_un (by omega)]; exact b1
  · rw [pk_un (by omega)]; exact b2
  · rw [pk_un (by omega)]; exact b3
  · by_cases q : j = k
    · subst q; rw [pk_us]; decide
    · rw [pk_un (by omega)]; exact hn j (by omega)
  · rw [pk_un (by omega)]; exact hb j (by omega) h2
  · show tt_ps (tt_pf _ _ k) (upd b (16 * A + (6 + k)) 252 (16 * A + (6 + k))) = nI 0
    rw [pk_us]
    unfold tt_ps
    rw [if_pos (by decide), if_pos (by decide)]
    rfl
  · have q : tt_us (tt_uf (b (16 * A + 5)) (fun j => b (16 * A + (6 + j))) k) (b (16 * A + (6 + k))) = ut := hut
    rw [hl] at q
    unfold tt_us at q
    rw [if_neg (by decide)] at q
    show tt_us (tt_uf _ _ k) (upd b (16 * A + (6 + k)) 252 (16 * A + (6 + k))) = ut
    rw [pk_us, pk_un (by omega), tt_uf_c (e' := fun j => b (16 * A + (6 + j))) k (fun j hj => pk_un (by omega)), q]
    unfold tt_us
    rw [if_neg (by decide)]
  · rcases ho with ⟨o, o0, o1⟩ | ⟨o, o0⟩
    · exact Or.inl ⟨o, by rw [pk_un (by omega)]; exact o0, by rw [pk_un (by omega)]; exact o1⟩
    · exact Or.inr ⟨o, by rw [pk_un (by omega)]; exact o0⟩
/-- how a mark may end: the power lost, or the entry k0 holds the mark v -/
def tt_MR (v : Int32) (da dc a c p K : Nat) (pw hd ar : Int32) (x : Int32 × tt_F) (y : Int32 × tt_M) : Prop :=
  ∃ (b' g' : Nat → Int32) (dn' : Int32) (T' A' G' k' a' c' : Nat) (og' : Int32), T' ≤ 30 ∧ tt_I b' A' G' p k' (nI a') (nI c') og' ∧ a' ≤ a + da ∧ c' ≤ c + dc ∧
   ((x = (-1, (b', g', dn', nI T', nI K)) ∧ y = (0, (nI A', nI G', nI p, nI a', nI c', nI (10 - k'), og', 0, 0, nI T', nI K, ar, dn', g' 0, g' 1))) ∨
    (∃ k0 : Nat, k' = k0 + 1 ∧ k0 < 10 ∧ a' = a + da ∧ b' (16 * A' + (6 + k0)) = v ∧ x = (nI (6 + k0), (b', g', dn', nI T', nI K)) ∧ y = (1, (nI A', nI G', nI p, nI a', nI c', nI (10 - k'), og', pw, hd, nI T', nI K, ar, dn', g' 0, g' 1))))
theorem tt_m1_sim_0 {A G p k a c K T : Nat} {pw hd ar dn og : Int32} {b g : Nat → Int32} (h : tt_I b A G p k (nI a) (nI c) og) (hk : k < 10) (hT : T ≤ 30) (hK : K < 256) :
    tt_MR 254 1 0 a c p K pw hd ar (tt_m1 (b, g, dn, nI T, nI K) 254) (mm_m1 (nI A, nI G, nI p, nI a, nI c, nI (10 - k), og, pw, hd, nI T, nI K, ar, dn, g 0, g 1) 0) := by
  have hA := h.1
  have hb := h.2.2.2.2.2.2.2.2.2.1 k (Nat.le_refl _) hk
  have hf := (tt_I_fst h).2 hk
  have hne : ¬ nI (6 + k) = -1 := fun q => absurd (show nI (6 + k) < 0 by rw [q]; decide) (nI_pos (by omega))
  have en : nI (10 - k) - 1 = nI (10 - (k + 1)) := by rw [show 10 - (k + 1) = 10 - k - 1 by omega]; exact pk_sub (a := 10 - k) (b := 1) (by omega)
  have hI := tt_I_add h hk (w := 254) (by decide) (pt' := nI (a + 1)) (ut' := nI (c + 0)) (by unfold tt_ps; rw [if_pos (by decide), if_neg (by decide)]; exact nI_1 a) (by unfold tt_us; rw [if_neg (by decide)]; rfl)
  unfold tt_m1
  simp only
  rw [hf, if_neg hne, tt_I_ac h]
  by_cases h1 : T = 1
  · subst h1
    rw [tt_prog_1 b g dn (nI K) hA (j := 6 + k) (by omega) 254]
    simp only [mm_m1, mm_op_1, reduceIte]
    rw [if_pos (nI_pos' (by omega)), hb]
    try simp only [reduceIte, eq_self]
    by_cases hm : nI K &&& 1 = 1
    · rw [tt_all_t hm, (tt_kv_0 K hK).1 hm]
      try simp only [reduceIte, eq_self, show ¬ ((1 : Int32) = 0) by decide]
      rw [en]
      exact ⟨_, g, dn + 1, 0, A, G, k + 1, a + 1, c + 0, og, by omega, hI, by omega, by omega, Or.inl ⟨rfl, by first | rfl | (simp only [nI_1]; done) | (simp only [nI_1]; rfl)⟩⟩
    · rw [tt_all_f hK hm, if_pos rfl, (tt_kv_0 K hK).2 hm]
      refine ⟨_, g, dn + 1, 0, A, G, k, a, c, og, by omega, ?_, by omega, by omega, Or.inl ⟨rfl, rfl⟩⟩
      rw [tt_upd_same hb]
      exact h
  · rw [tt_prog_0 b g dn (nI K) hT h1 hA (j := 6 + k) (by omega) 254]
    have eo := mm_op_0 (nI A) (nI G) (nI p) (nI a) (nI c) (nI (10 - k)) og pw hd (nI K) ar dn (g 0) (g 1) hT h1
    simp only [mm_m1, eo]
    rw [if_neg (by decide), if_neg (by decide), hb, show (255 : Int32) &&& (254 ||| (255 ^^^ (-1))) = 254 by decide]
    try simp only [reduceIte, eq_self]
    rw [show mm_all (-1) 1 = 1 by decide]
    try simp only [reduceIte, eq_self, show ¬ ((1 : Int32) = 0) by decide]
    rw [en]
    exact ⟨_, g, dn + 1, T - 1, A, G, k + 1, a + 1, c + 0, og, by omega, hI, by omega, by omega, Or.inr ⟨k, rfl, by omega, by omega, pk_us, rfl, by first | rfl | (simp only [nI_1]; done) | (simp only [nI_1]; rfl)⟩⟩
theorem tt_mark_sim_0 {A G p k a c K T : Nat} {pw hd ar dn og : Int32} {b g : Nat → Int32} (h : tt_I b A G p k (nI a) (nI c) og) (hT : T ≤ 30) (hK : K < 256) (ha : a < 256) (hc : c < 256) :
    tt_MR 254 1 0 a c p K pw hd ar (tt_mark (b, g, dn, nI T, nI K) 254) (mm_mark (nI A, nI G, nI p, nI a, nI c, nI (10 - k), og, pw, hd, nI T, nI K, ar, dn, g 0, g 1) 0) := by
  have hk10 := h.2.2.2.1
  unfold tt_mark mm_mark
  simp only
  by_cases hk : k = 10
  · rw [(tt_I_fst h).1 hk, if_pos rfl, if_pos (show nI (10 - k) = 0 by rw [hk]; rfl), tt_I_pin h, tt_I_pu h, tt_I_uu h]
    obtain ⟨b', g', dn', T', hT', ⟨og', hI, ex, ey⟩ | ⟨r, pw', hd', hI, hr, ex, ey⟩⟩ := tt_turn_sim (g := g) (dn := dn) (pw := pw) (hd := hd) (ar := ar) h hT hK h.2.2.1 ha hc
    · rw [ex, ey, tt_seq_0]
      simp only [reduceIte]
      exact ⟨b', g', dn', T', A, G, k, a, c, og', hT', hI, by omega, by omega, Or.inl ⟨rfl, rfl⟩⟩
    · rw [ex, ey]
      rcases hr with ⟨rfl, rfl, rfl⟩ | ⟨rfl, rfl, rfl⟩
      · rw [tt_seq_1]
        simp only
        rw [if_neg (by decide)]
        exact tt_m1_sim_0 (k := 0) hI (by decide) hT' hK
      · rw [tt_seq_0]
        simp only [reduceIte]
        exact ⟨b', g', dn', T', 1 - A, (G + 1) % 256, 0, a, c, 1, hT', hI, by omega, by omega, Or.inl ⟨rfl, rfl⟩⟩
  · have hf := (tt_I_fst h).2 (by omega)
    have hne : ¬ nI (6 + k) = -1 := fun q => absurd (show nI (6 + k) < 0 by rw [q]; decide) (nI_pos (by omega))
    rw [hf, if_neg hne, if_neg (nI_ne0 (n := 10 - k) (by omega) (by omega))]
    exact tt_m1_sim_0 h (by omega) hT hK

theorem tt_m1_sim_1 {A G p k a c K T : Nat} {pw hd ar dn og : Int32} {b g : Nat → Int32} (h : tt_I b A G p k (nI a) (nI c) og) (hk : k < 10) (hT : T ≤ 30) (hK : K < 256) :
    tt_MR 239 0 1 a c p K pw hd ar (tt_m1 (b, g, dn, nI T, nI K) 239) (mm_m1 (nI A, nI G, nI p, nI a, nI c, nI (10 - k), og, pw, hd, nI T, nI K, ar, dn, g 0, g 1) 1) := by
  have hA := h.1
  have hb := h.2.2.2.2.2.2.2.2.2.1 k (Nat.le_refl _) hk
  have hf := (tt_I_fst h).2 hk
  have hne : ¬ nI (6 + k) = -1 := fun q => absurd (show nI (6 + k) < 0 by rw [q]; decide) (nI_pos (by omega))
  have en : nI (10 - k) - 1 = nI (10 - (k + 1)) := by rw [show 10 - (k + 1) = 10 - k - 1 by omega]; exact pk_sub (a := 10 - k) (b := 1) (by omega)
  have hI := tt_I_add h hk (w := 239) (by decide) (pt' := nI (a + 0)) (ut' := nI (c + 1)) (by unfold tt_ps; rw [if_neg (by decide)]; rfl) (by unfold tt_us; rw [if_pos (by decide)]; exact nI_1 c)
  unfold tt_m1
  simp only
  rw [hf, if_neg hne, tt_I_ac h]
  by_cases h1 : T = 1
  · subst h1
    rw [tt_prog_1 b g dn (nI K) hA (j := 6 + k) (by omega) 239]
    simp only [mm_m1, mm_op_1, reduceIte]
    rw [if_pos (nI_pos' (by omega)), hb]
    try simp only [reduceIte, eq_self, show ¬ ((1 : Int32) = 0) by decide]
    by_cases hm : nI K &&& 16 = 16
    · rw [tt_all_t hm, (tt_kv_1 K hK).1 hm]
      try simp only [reduceIte, eq_self, show ¬ ((1 : Int32) = 0) by decide]
      rw [en]
      exact ⟨_, g, dn + 1, 0, A, G, k + 1, a + 0, c + 1, og, by omega, hI, by omega, by omega, Or.inl ⟨rfl, by first | rfl | (simp only [nI_1]; done) | (simp only [nI_1]; rfl)⟩⟩
    · rw [tt_all_f hK hm, if_pos rfl, (tt_kv_1 K hK).2 hm]
      refine ⟨_, g, dn + 1, 0, A, G, k, a, c, og, by omega, ?_, by omega, by omega, Or.inl ⟨rfl, rfl⟩⟩
      rw [tt_upd_same hb]
      exact h
  · rw [tt_prog_0 b g dn (nI K) hT h1 hA (j := 6 + k) (by omega) 239]
    have eo := mm_op_0 (nI A) (nI G) (nI p) (nI a) (nI c) (nI (10 - k)) og pw hd (nI K) ar dn (g 0) (g 1) hT h1
    simp only [mm_m1, eo]
    rw [if_neg (by decide), if_neg (by decide), hb, show (255 : Int32) &&& (239 ||| (255 ^^^ (-1))) = 239 by decide]
    try simp only [reduceIte, eq_self, show ¬ ((1 : Int32) = 0) by decide]
    rw [show mm_all (-1) 16 = 1 by decide]
    try simp only [reduceIte, eq_self, show ¬ ((1 : Int32) = 0) by decide]
    rw [en]
    exact ⟨_, g, dn + 1, T - 1, A, G, k + 1, a + 0, c + 1, og, by omega, hI, by omega, by omega, Or.inr ⟨k, rfl, by omega, by omega, pk_us, rfl, by first | rfl | (simp only [nI_1]; done) | (simp only [nI_1]; rfl)⟩⟩
theorem tt_mark_sim_1 {A G p k a c K T : Nat} {pw hd ar dn og : Int32} {b g : Nat → Int32} (h : tt_I b A G p k (nI a) (nI c) og) (hT : T ≤ 30) (hK : K < 256) (ha : a < 256) (hc : c < 256) :
    tt_MR 239 0 1 a c p K pw hd ar (tt_mark (b, g, dn, nI T, nI K) 239) (mm_mark (nI A, nI G, nI p, nI a, nI c, nI (10 - k), og, pw, hd, nI T, nI K, ar, dn, g 0, g 1) 1) := by
  have hk10 := h.2.2.2.1
  unfold tt_mark mm_mark
  simp only
  by_cases hk : k = 10
  · rw [(tt_I_fst h).1 hk, if_pos rfl, if_pos (show nI (10 - k) = 0 by rw [hk]; rfl), tt_I_pin h, tt_I_pu h, tt_I_uu h]
    obtain ⟨b', g', dn', T', hT', ⟨og', hI, ex, ey⟩ | ⟨r, pw', hd', hI, hr, ex, ey⟩⟩ := tt_turn_sim (g := g) (dn := dn) (pw := pw) (hd := hd) (ar := ar) h hT hK h.2.2.1 ha hc
    · rw [ex, ey, tt_seq_0]
      simp only [reduceIte]
      exact ⟨b', g', dn', T', A, G, k, a, c, og', hT', hI, by omega, by omega, Or.inl ⟨rfl, rfl⟩⟩
    · rw [ex, ey]
      rcases hr with ⟨rfl, rfl, rfl⟩ | ⟨rfl, rfl, rfl⟩
      · rw [tt_seq_1]
        simp only
        rw [if_neg (by decide)]
        exact tt_m1_sim_1 (k := 0) hI (by decide) hT' hK
      · rw [tt_seq_0]
        simp only [reduceIte]
        exact ⟨b', g', dn', T', 1 - A, (G + 1) % 256, 0, a, c, 1, hT', hI, by omega, by omega, Or.inl ⟨rfl, rfl⟩⟩
  · have hf := (tt_I_fst h).2 (by omega)
    have hne : ¬ nI (6 + k) = -1 := fun q => absurd (show nI (6 + k) < 0 by rw [q]; decide) (nI_pos (by omega))
    rw [hf, if_neg hne, if_neg (nI_ne0 (n := 10 - k) (by omega) (by omega))]
    exact tt_m1_sim_1 h (by omega) hT hK
end
section
/-! the card beside the reference, call by call -/
def tt_R (s : tt_X) (t : tt_M) : Prop :=
  ∃ (b g : Nat → Int32) (dn og pw hd ar : Int32) (T K A G p k a c N : Nat), s = (pw, hd, ar, b, g, dn, nI T, nI K) ∧ t = (nI A, nI G, nI p, nI a, nI c, nI (10 - k), og, pw, hd, nI T, nI K, ar, dn, g 0, g 1) ∧ tt_I b A G p k (nI a) (nI c) og ∧ T ≤ 30 ∧ K < 256 ∧ a ≤ 7 ∧ c ≤ 7 ∧ ((pw = 0 ∧ hd = 0) ∨ pw = 1) ∧ (hd = 0 ∨ hd = 1) ∧ N ≤ 40 ∧ ar = nI N
/-- the same answer, and the pair goes on -/
def tt_S (x : Int32 × tt_X) (y : Int32 × tt_M) : Prop := x.1 = y.1 ∧ tt_R x.2 y.2
theorem tt_R.mk {b g : Nat → Int32} {dn og pw hd ar : Int32} {T K A G p k a c N : Nat} (h : tt_I b A G p k (nI a) (nI c) og) (hT : T ≤ 30) (hK : K < 256) (ha : a ≤ 7) (hc : c ≤ 7) (hpw : (pw = 0 ∧ hd = 0) ∨ pw = 1) (hhd : hd = 0 ∨ hd = 1) (hN : N ≤ 40) (har : ar = nI N) :
    tt_R (pw, hd, ar, b, g, dn, nI T, nI K) (nI A, nI G, nI p, nI a, nI c, nI (10 - k), og, pw, hd, nI T, nI K, ar, dn, g 0, g 1) :=
  ⟨b, g, dn, og, pw, hd, ar, T, K, A, G, p, k, a, c, N, rfl, rfl, h, hT, hK, ha, hc, hpw, hhd, hN, har⟩
theorem tt_n10 : ¬ (1 : Int32) = 0 := by decide
theorem tt_16 (x : Int32) : ∃ j, j < 65536 ∧ x &&& 65535 = nI j := pk_andE x (m := 65535) 16 (by decide)
theorem tt_try_sim {s : tt_X} {t : tt_M} (h : tt_R s t) {PL : Nat} (hPL : PL ≤ 7) (n : Int32) : tt_S (tt_try (nI PL) s (n &&& 65535)) (mm_att (nI PL) t n) ∧ ((tt_try (nI PL) s (n &&& 65535)).1 = 1 → (tt_try (nI PL) s (n &&& 65535)).2.1 = 1) := by
  obtain ⟨b, g, dn, og, pw, hd, ar, T, K, A, G, p, k, a, c, N, rfl, rfl, hI, hT, hK, ha, hc, hpw, hhd, hN, har⟩ := h
  unfold tt_try mm_att
  simp only
  rcases hpw with ⟨rfl, rfl⟩ | rfl
  · rw [if_pos rfl, if_pos rfl]
    exact ⟨⟨rfl, tt_R.mk hI hT hK ha hc (Or.inl ⟨rfl, rfl⟩) hhd hN har⟩, fun q => absurd (show (-1 : Int32) = 1 from q) (by decide)⟩
  · rw [if_neg tt_n10, if_neg tt_n10, tt_I_pu hI]
    by_cases hl : nI a < nI PL
    · rw [if_pos hl, if_pos hl]
      have hal : a < PL := (nI_ltI (by omega) (by omega)).mp hl
      obtain ⟨b', g', dn', T', A', G', k', a', c', og', hT', hI', ha', hc', ⟨ex, ey⟩ | ⟨k0, rfl, hk0, rfl, hv, ex, ey⟩⟩ := tt_mark_sim_0 (g := g) (dn := dn) (pw := 1) (hd := 0) (ar := ar) hI hT hK (by omega) (by omega)
      · rw [ex, ey]
        simp only [reduceIte]
        exact ⟨⟨rfl, tt_R.mk hI' hT' hK (by omega) (by omega) (Or.inl ⟨rfl, rfl⟩) (Or.inl rfl) hN har⟩, fun q => absurd (show (-3 : Int32) = 1 from q) (by decide)⟩
      · have hne : ¬ nI (6 + k0) = -1 := fun q => absurd (show nI (6 + k0) < 0 by rw [q]; decide) (nI_pos (by omega))
        rw [ex, ey]
        simp only
        rw [if_neg hne, if_neg tt_n10, tt_I_pin hI']
        by_cases hp : n &&& 65535 = nI p
        · rw [if_pos hp, if_pos hp, tt_I_ac hI']
          by_cases h1 : T' = 1
          · subst h1
            rw [tt_prog_1 b' g' dn' (nI K) hI'.1 (j := 6 + k0) (by omega) 253]
            simp only [mm_a9, mm_op_1, reduceIte]
            rw [if_pos (nI_pos' (by omega)), hv]
            refine ⟨⟨rfl, ?_⟩, fun q => absurd (show (-3 : Int32) = 1 from q) (by decide)⟩
            by_cases hm : nI K &&& 2 = 2
            · rw [tt_all_t hm, if_neg tt_n10, (tt_kv_2 K hK).1 hm]
              exact tt_R.mk (a := 0) (tt_I_fix hI' hv) (by omega) hK (by omega) (by omega) (Or.inl ⟨rfl, rfl⟩) (Or.inl rfl) hN har
            · rw [tt_all_f hK hm, if_pos rfl, (tt_kv_2 K hK).2 hm, tt_upd_same hv]
              exact tt_R.mk hI' (by omega) hK (by omega) (by omega) (Or.inl ⟨rfl, rfl⟩) (Or.inl rfl) hN har
          · rw [tt_prog_0 b' g' dn' (nI K) hT' h1 hI'.1 (j := 6 + k0) (by omega) 253]
            have eo := mm_op_0 (nI A') (nI G') (nI p) (nI (a + 1)) (nI c') (nI (10 - (k0 + 1))) og' 1 0 (nI K) ar dn' (g' 0) (g' 1) hT' h1
            simp only [mm_a9, eo]
            rw [if_neg tt_n10, if_neg (show ¬ (0 : Int32) ≤ -1 by decide), hv, show mm_all (-1) 2 = 1 by decide, if_neg tt_n10, show (254 : Int32) &&& (253 ||| (255 ^^^ (-1))) = 252 by decide]
            exact ⟨⟨rfl, tt_R.mk (a := 0) (tt_I_fix hI' hv) (by omega) hK (by omega) (by omega) (Or.inr rfl) (Or.inl rfl) hN har⟩, fun _ => rfl⟩
        · rw [if_neg hp, if_neg hp]
          exact ⟨⟨rfl, tt_R.mk hI' hT' hK (by omega) (by omega) (Or.inr rfl) (Or.inl rfl) hN har⟩, fun q => absurd (show (0 : Int32) = 1 from q) (by decide)⟩
    · rw [if_neg hl, if_neg hl]
      exact ⟨⟨rfl, tt_R.mk hI hT hK ha hc (Or.inr rfl) hhd hN har⟩, fun q => absurd (show (-2 : Int32) = 1 from q) (by decide)⟩
theorem tt_verify_sim {s : tt_X} {t : tt_M} (h : tt_R s t) {PL : Nat} (hPL : PL ≤ 7) (n : Int32) : tt_S (tt_verify (nI PL) s n) (mm_verify (nI PL) t n) := by
  obtain ⟨⟨h1, h2⟩, h3⟩ := tt_try_sim h hPL n
  unfold tt_verify mm_verify
  generalize tt_try (nI PL) s (n &&& 65535) = x at h1 h2 h3 ⊢
  generalize mm_att (nI PL) t n = y at h1 h2 ⊢
  obtain ⟨r, s2⟩ := x
  obtain ⟨r2, t2⟩ := y
  obtain rfl : r = r2 := h1
  obtain ⟨b, g, dn, og, pw, hd, ar, T, K, A, G, p, k, a, c, N, e1, e2, hI, hT, hK, ha, hc, hpw, hhd, hN, har⟩ := h2
  simp only at e1 e2
  subst e1; subst e2
  simp only [mm_or]
  by_cases hr : r = 1
  · have hp1 : pw = 1 := h3 hr
    rw [if_pos hr]
    refine ⟨rfl, ?_⟩
    rcases hhd with rfl | rfl
    · rw [if_pos rfl, if_pos hr]
      exact tt_R.mk hI hT hK ha hc (Or.inr hp1) (Or.inr rfl) hN har
    · rw [if_neg tt_n10]
      exact tt_R.mk hI hT hK ha hc (Or.inr hp1) (Or.inr rfl) hN har
  · rw [if_neg hr]
    refine ⟨rfl, ?_⟩
    rcases hhd with rfl | rfl
    · rw [if_pos rfl, if_neg hr]
      exact tt_R.mk hI hT hK ha hc hpw (Or.inl rfl) hN har
    · rw [if_neg tt_n10]
      exact tt_R.mk hI hT hK ha hc hpw (Or.inr rfl) hN har
theorem tt_change_sim {s : tt_X} {t : tt_M} (h : tt_R s t) {PL : Nat} (hPL : PL ≤ 7) (n x : Int32) : tt_S (tt_change (nI PL) s n x) (mm_change (nI PL) t n x) := by
  obtain ⟨⟨h1, h2⟩, h3⟩ := tt_try_sim h hPL n
  unfold tt_change mm_change
  generalize tt_try (nI PL) s (n &&& 65535) = x1 at h1 h2 h3 ⊢
  generalize mm_att (nI PL) t n = y1 at h1 h2 ⊢
  obtain ⟨r, s2⟩ := x1
  obtain ⟨r2, t2⟩ := y1
  obtain rfl : r = r2 := h1
  obtain ⟨b, g, dn, og, pw, hd, ar, T, K, A, G, p, k, a, c, N, e1, e2, hI, hT, hK, ha, hc, hpw, hhd, hN, har⟩ := h2
  simp only at e1 e2
  subst e1; subst e2
  obtain ⟨j, hj, ej⟩ := tt_16 x
  simp only
  by_cases hr : r = 1
  · have hp1 : pw = 1 := h3 hr
    rw [if_pos hr, if_pos hr, ej, tt_I_uu hI]
    obtain ⟨b', g', dn', T', hT', ⟨og', hI', ex, ey⟩ | ⟨q, pw', hd', hI', hq, ex, ey⟩⟩ := tt_turn_sim (p' := j) (a' := 0) (c' := c) (g := g) (dn := dn) (pw := pw) (hd := hd) (ar := ar) hI hT hK hj (by omega) (by omega)
    · rw [show tt_turn (b, g, dn, nI T, nI K) (nI j) 0 (nI c) = _ from ex, show mm_turn (nI A, nI G, nI p, nI a, nI c, nI (10 - k), og, pw, hd, nI T, nI K, ar, dn, g 0, g 1) (nI j) 0 (nI c) = _ from ey]
      simp only [mm_or, reduceIte]
      rw [if_neg (show ¬ (-3 : Int32) = 1 by decide)]
      exact ⟨rfl, tt_R.mk hI' hT' hK ha hc (Or.inl ⟨rfl, rfl⟩) (Or.inl rfl) hN har⟩
    · rw [show tt_turn (b, g, dn, nI T, nI K) (nI j) 0 (nI c) = _ from ex, show mm_turn (nI A, nI G, nI p, nI a, nI c, nI (10 - k), og, pw, hd, nI T, nI K, ar, dn, g 0, g 1) (nI j) 0 (nI c) = _ from ey]
      rcases hq with ⟨rfl, rfl, rfl⟩ | ⟨rfl, rfl, rfl⟩
      · simp only [mm_or]
        rw [if_neg tt_n10, if_neg tt_n10]
        refine ⟨hr.symm, ?_⟩
        rcases hhd with rfl | rfl
        · rw [if_pos rfl, if_pos hr]
          exact tt_R.mk (a := 0) (k := 0) hI' hT' hK (by omega) hc (Or.inr hp1) (Or.inr rfl) hN har
        · rw [if_neg tt_n10]
          exact tt_R.mk (a := 0) (k := 0) hI' hT' hK (by omega) hc (Or.inr hp1) (Or.inr rfl) hN har
      · simp only [mm_or, reduceIte]
        rw [if_neg (show ¬ (-3 : Int32) = 1 by decide)]
        exact ⟨rfl, tt_R.mk (a := 0) (k := 0) hI' hT' hK (by omega) hc (Or.inl ⟨rfl, rfl⟩) (Or.inl rfl) hN har⟩
  · rw [if_neg hr, if_neg hr]
    refine ⟨rfl, ?_⟩
    simp only [mm_or]
    rcases hhd with rfl | rfl
    · rw [if_pos rfl, if_neg hr]
      exact tt_R.mk hI hT hK ha hc hpw (Or.inl rfl) hN har
    · rw [if_neg tt_n10]
      exact tt_R.mk hI hT hK ha hc hpw (Or.inr rfl) hN har
theorem tt_unblock_sim {s : tt_X} {t : tt_M} (h : tt_R s t) {UL : Nat} (hUL : UL ≤ 7) (pk n x : Int32) : tt_S (tt_unblock pk (nI UL) s n x) (mm_unblock pk (nI UL) t n x) := by
  obtain ⟨b, g, dn, og, pw, hd, ar, T, K, A, G, p, k, a, c, N, rfl, rfl, hI, hT, hK, ha, hc, hpw, hhd, hN, har⟩ := h
  unfold tt_unblock mm_unblock
  simp only
  rcases hpw with ⟨rfl, rfl⟩ | rfl
  · rw [if_pos rfl, if_pos rfl]
    exact ⟨rfl, tt_R.mk hI hT hK ha hc (Or.inl ⟨rfl, rfl⟩) hhd hN har⟩
  · rw [if_neg tt_n10, if_neg tt_n10, tt_I_uu hI]
    by_cases hl : nI c < nI UL
    · rw [if_pos hl, if_pos hl]
      have hcl : c < UL := (nI_ltI (by omega) (by omega)).mp hl
      obtain ⟨b', g', dn', T', A', G', k', a', c', og', hT', hI', ha', hc', ⟨ex, ey⟩ | ⟨k0, rfl, hk0, rfl, hv, ex, ey⟩⟩ := tt_mark_sim_1 (g := g) (dn := dn) (pw := 1) (hd := 0) (ar := ar) hI hT hK (by omega) (by omega)
      · rw [ex, ey]
        simp only [reduceIte]
        exact ⟨rfl, tt_R.mk hI' hT' hK (by omega) (by omega) (Or.inl ⟨rfl, rfl⟩) (Or.inl rfl) hN har⟩
      · have hne : ¬ nI (6 + k0) = -1 := fun q => absurd (show nI (6 + k0) < 0 by rw [q]; decide) (nI_pos (by omega))
        rw [ex, ey]
        simp only
        rw [if_neg hne, if_neg tt_n10]
        by_cases hp : n = pk
        · obtain ⟨j, hj, ej⟩ := tt_16 x
          rw [if_pos hp, if_pos hp, ej]
          obtain ⟨b2, g2, dn2, T2, hT2, ⟨og2, hI2, ex, ey⟩ | ⟨q, pw', hd', hI2, hq, ex, ey⟩⟩ := tt_turn_sim (p' := j) (a' := 0) (c' := 0) (g := g') (dn := dn') (pw := 1) (hd := 0) (ar := ar) hI' hT' hK hj (by omega) (by omega)
          · rw [show tt_turn (b', g', dn', nI T', nI K) (nI j) 0 0 = _ from ex, show mm_turn _ (nI j) 0 0 = _ from ey]
            simp only [reduceIte]
            exact ⟨rfl, tt_R.mk hI2 hT2 hK (by omega) (by omega) (Or.inl ⟨rfl, rfl⟩) (Or.inl rfl) hN har⟩
          · rw [show tt_turn (b', g', dn', nI T', nI K) (nI j) 0 0 = _ from ex, show mm_turn _ (nI j) 0 0 = _ from ey]
            rcases hq with ⟨rfl, rfl, rfl⟩ | ⟨rfl, rfl, rfl⟩
            · simp only
              rw [if_neg tt_n10, if_neg tt_n10]
              exact ⟨rfl, tt_R.mk (a := 0) (c := 0) (k := 0) hI2 hT2 hK (by omega) (by omega) (Or.inr rfl) (Or.inl rfl) hN har⟩
            · simp only [reduceIte]
              exact ⟨rfl, tt_R.mk (a := 0) (c := 0) (k := 0) hI2 hT2 hK (by omega) (by omega) (Or.inl ⟨rfl, rfl⟩) (Or.inl rfl) hN har⟩
        · rw [if_neg hp, if_neg hp]
          exact ⟨rfl, tt_R.mk hI' hT' hK (by omega) (by omega) (Or.inr rfl) (Or.inl rfl) hN har⟩
    · rw [if_neg hl, if_neg hl]
      exact ⟨rfl, tt_R.mk hI hT hK ha hc (Or.inr rfl) hhd hN har⟩
theorem tt_arm_sim {s : tt_X} {t : tt_M} (h : tt_R s t) (n m : Int32) : tt_S (tt_arm s n m) (mm_arm t n m) := by
  have h0 := h
  obtain ⟨b, g, dn, og, pw, hd, ar, T, K, A, G, p, k, a, c, N, rfl, rfl, hI, hT, hK, ha, hc, hpw, hhd, hN, har⟩ := h
  unfold tt_arm mm_arm
  simp only [tt_setT]
  by_cases c1 : n < 0
  · rw [if_pos c1, if_pos c1]; exact ⟨rfl, h0⟩
  rw [if_neg c1, if_neg c1]
  by_cases c2 : 30 < n
  · rw [if_pos c2, if_pos c2]; exact ⟨rfl, h0⟩
  rw [if_neg c2, if_neg c2]
  by_cases c3 : m < 0
  · rw [if_pos c3, if_pos c3]; exact ⟨rfl, h0⟩
  rw [if_neg c3, if_neg c3]
  by_cases c4 : 255 < m
  · rw [if_neg (Int32.not_le.mpr c4), if_pos c4]; exact ⟨rfl, h0⟩
  rw [if_pos (Int32.not_lt.mp c4), if_neg c4]
  obtain ⟨T2, hT2, rfl⟩ := nI_of2 (M := 30) (n := 30) (by decide) c1 (Int32.not_lt.mp c2)
  obtain ⟨K2, hK2, rfl⟩ := nI_of2 (M := 255) (n := 255) (by decide) c3 (Int32.not_lt.mp c4)
  rcases Nat.eq_zero_or_pos T2 with rfl | hpos
  · rw [if_pos (by decide), if_pos (by decide)]
    exact ⟨rfl, tt_R.mk hI (by omega) (by omega) ha hc hpw hhd hN har⟩
  · rw [if_neg (nI_nle hpos (by omega)), if_neg (nI_ne0 hpos (by omega))]
    subst har
    by_cases c5 : N = 40
    · subst c5
      rw [if_neg (by decide), if_pos (by decide)]
      exact ⟨rfl, h0⟩
    · rw [if_pos (show nI N < 40 from nI_lt (a := N) (b := 40) (by omega) (by decide)), if_neg (show ¬ nI N = 40 from fun q => c5 ((nI_eq (a := N) (b := 40) (by omega) (by decide)).mp q))]
      exact ⟨rfl, tt_R.mk (N := N + 1) hI (by omega) (by omega) ha hc hpw hhd (by omega) (nI_1 N)⟩
theorem tt_cut_sim {s : tt_X} {t : tt_M} (h : tt_R s t) : tt_S (tt_cut s) (mm_cut t) := by
  obtain ⟨b, g, dn, og, pw, hd, ar, T, K, A, G, p, k, a, c, N, rfl, rfl, hI, hT, hK, ha, hc, hpw, hhd, hN, har⟩ := h
  unfold tt_cut mm_cut
  simp only
  rcases hpw with ⟨rfl, rfl⟩ | rfl
  · rw [if_pos rfl]
    exact ⟨rfl, tt_R.mk hI hT hK ha hc (Or.inl ⟨rfl, rfl⟩) (Or.inl rfl) hN har⟩
  · rw [if_neg tt_n10]
    exact ⟨rfl, tt_R.mk hI hT hK ha hc (Or.inl ⟨rfl, rfl⟩) (Or.inl rfl) hN har⟩
theorem tt_start_sim {s : tt_X} {t : tt_M} (h : tt_R s t) : tt_S (tt_start s) (mm_start t) := by
  obtain ⟨b, g, dn, og, pw, hd, ar, T, K, A, G, p, k, a, c, N, rfl, rfl, hI, hT, hK, ha, hc, hpw, hhd, hN, har⟩ := h
  unfold tt_start mm_start
  simp only
  rcases hpw with ⟨rfl, rfl⟩ | rfl
  · rw [if_pos rfl, if_pos rfl]
    exact ⟨rfl, tt_R.mk hI hT hK ha hc (Or.inr rfl) hhd hN har⟩
  · rw [if_neg tt_n10, if_neg tt_n10]
    exact ⟨rfl, tt_R.mk hI hT hK ha hc (Or.inr rfl) hhd hN har⟩
end
section
/-! what the reads show, and the pair at its start -/
theorem tt_ec_nI (g : Nat → Int32) (pg : Int32) : tt_ec g pg = if pg = 0 then g 0 else if pg = 1 then g 1 else 0 := by
  unfold tt_ec
  by_cases h : tt_ip pg = 0
  · rw [if_pos h, if_neg (fun q => absurd h (by rw [q]; decide)), if_neg (fun q => absurd h (by rw [q]; decide))]
  · rw [if_neg h]
    obtain ⟨j, hj, rfl⟩ := tt_ip_of h
    rcases (show j = 0 ∨ j = 1 by omega) with rfl | rfl
    · rw [if_pos (by decide)]; rfl
    · rw [if_neg (by decide), if_pos (by decide)]; rfl
theorem tt_reads {pw hi ta od ot tm : Int32} {b g : Nat → Int32} {ac ag pn pt ut en og pw2 hd tn tk ar dn e0 e1 : Int32} (h : tt_R (pw, hi, ta, b, g, od, ot, tm) (ac, ag, pn, pt, ut, en, og, pw2, hd, tn, tk, ar, dn, e0, e1)) :
    hi = hd ∧ pw = pw2 ∧ tt_pu b = pt ∧ tt_uu b = ut ∧ tt_ac b = ac ∧ tt_rd b (tt_ac b) 1 = ag ∧ tt_fe b = en ∧ od = dn ∧ g 0 = e0 ∧ g 1 = e1 ∧ (hi = 0 ∨ hi = 1) ∧ (pw = 0 ∨ pw = 1) ∧ (∃ a, a ≤ 7 ∧ pt = nI a) ∧ ∃ c, c ≤ 7 ∧ ut = nI c := by
  obtain ⟨b', g', dn', og', pw', hd', ar', T, K, A, G, p, k, a, c, N, e1, e2, hI, hT, hK, ha, hc, hpw, hhd, hN, har⟩ := h
  simp only [Prod.mk.injEq] at e1 e2
  obtain ⟨rfl, rfl, rfl, rfl, rfl, rfl, rfl, rfl⟩ := e1
  obtain ⟨rfl, rfl, rfl, rfl, rfl, rfl, rfl, rfl, rfl, -, -, -, rfl, rfl, rfl⟩ := e2
  refine ⟨rfl, rfl, tt_I_pu hI, tt_I_uu hI, tt_I_ac hI, tt_I_gen hI, tt_I_fe hI, rfl, rfl, rfl, hhd, ?_, ⟨a, ha, rfl⟩, ⟨c, hc, rfl⟩⟩
  rcases hpw with ⟨h, -⟩ | h
  · exact Or.inl h
  · exact Or.inr h
theorem tt_left {P a : Nat} (hP : P ≤ 7) (ha : a ≤ 7) : (if 0 < nI P - nI a then nI P - nI a else 0) = if nI P ≤ nI a then 0 else nI P - nI a := by
  by_cases h : P ≤ a
  · rw [if_pos (nI_le h (by omega)), if_neg]
    intro q
    have e : (nI P - nI a).toInt = (P : Int) - a := pk_sub_toInt (by omega) (by omega)
    have q2 := Int32.lt_iff_toInt_lt.mp q
    rw [e, show (0 : Int32).toInt = 0 by decide] at q2
    omega
  · rw [if_neg (nI_ge (a := a) (b := P) (by omega) (by omega)), if_pos]
    rw [pk_sub (a := P) (b := a) (by omega)]
    exact nI_lt (a := 0) (b := P - a) (by omega) (by omega)
theorem tt_fl_at : ∀ n, n ≤ 32 → ∀ q, q < n → tt_fl n q = 255 := by
  intro n
  induction n with
  | zero => intro _ q hq; exact absurd hq (Nat.not_lt_zero _)
  | succ n ih =>
    intro hn q hq
    show upd (tt_fl n) (nI n).toNatClampNeg 255 q = 255
    rw [nI_clamp (by omega)]
    by_cases h : q = n
    · rw [h]; exact pk_us
    · rw [pk_un h]; exact ih (by omega) q (by omega)
theorem tt_lim_le (x : Int32) {d : Nat} (hd : d ≤ 7) : ∃ P, P ≤ 7 ∧ tt_lim x (nI d) = nI P := by
  unfold tt_lim
  by_cases h : x < 1
  · rw [if_pos h]; exact ⟨d, hd, rfl⟩
  · rw [if_neg h]
    by_cases h2 : 7 < x
    · rw [if_pos h2]; exact ⟨d, hd, rfl⟩
    · rw [if_neg h2]
      obtain ⟨j, hj, e⟩ := nI_of2 (x := x) (M := 7) (n := 7) (by decide) (fun q => h (Int32.lt_trans q (by decide))) (Int32.not_lt.mp h2)
      exact ⟨j, hj, e⟩
theorem tt_pres_eq (b : Nat → Int32) (x : Int32) : tt_pres b x = upd (upd (upd (upd (upd (upd b 0 90) 1 0) 2 (x >>> ((8 : Int32) &&& 31))) 3 (x &&& 255)) 4 0) 5 0 := by
  have w : ∀ (b : Nat → Int32) (j : Nat) (hj : j < 16) (v : Int32), tt_wr b 0 (nI j) v = upd b j v := fun b j hj v => by
    have q := tt_wr_nI b (A := 0) (by decide) hj v
    rw [show 16 * 0 + j = j by omega] at q
    exact q
  unfold tt_pres
  rw [show tt_wr b 0 0 90 = upd b 0 90 from w b 0 (by decide) 90, show ∀ b : Nat → Int32, tt_wr b 0 1 0 = upd b 1 0 from fun b => w b 1 (by decide) 0, show ∀ b : Nat → Int32, tt_wr b 0 2 (x >>> ((8 : Int32) &&& 31)) = upd b 2 (x >>> ((8 : Int32) &&& 31)) from fun b => w b 2 (by decide) _, show ∀ b : Nat → Int32, tt_wr b 0 3 (x &&& 255) = upd b 3 (x &&& 255) from fun b => w b 3 (by decide) _, show ∀ b : Nat → Int32, tt_wr b 0 4 0 = upd b 4 0 from fun b => w b 4 (by decide) 0, show ∀ b : Nat → Int32, tt_wr b 0 5 0 = upd b 5 0 from fun b => w b 5 (by decide) 0]
theorem tt_R_0 (x : Int32) : tt_R (1, 0, 0, tt_pres (tt_fl 32) (x &&& 65535), (fun _ => 0), 0, 0, 0) (0, 0, x &&& 65535, 0, 0, 10, 0, 1, 0, 0, 0, 0, 0, 0, 0) := by
  obtain ⟨j, hj, ej⟩ := tt_16 x
  rw [ej, tt_pres_eq]
  refine tt_R.mk (g := fun _ => 0) (dn := 0) (og := 0) (pw := 1) (hd := 0) (ar := 0) (T := 0) (K := 0) (A := 0) (G := 0) (p := j) (k := 0) (a := 0) (c := 0) (N := 0) ?_ (by decide) (by decide) (by decide) (by decide) (Or.inr rfl) (Or.inl rfl) (by decide) rfl
  have hf : ∀ q, 5 < q → q < 32 → upd (upd (upd (upd (upd (upd (tt_fl 32) 0 90) 1 0) 2 (nI j >>> ((8 : Int32) &&& 31))) 3 (nI j &&& 255)) 4 0) 5 0 q = 255 := fun q h1 h2 => by
    rw [pk_un (by omega), pk_un (by omega), pk_un (by omega), pk_un (by omega), pk_un (by omega), pk_un (by omega)]
    exact tt_fl_at 32 (Nat.le_refl _) q h2
  refine ⟨by decide, by decide, hj, by decide, ?_, ?_, ?_, ?_, fun q hq => absurd hq (Nat.not_lt_zero _), fun q _ hq => hf _ (by omega) (by omega), ?_, ?_, Or.inr ⟨rfl, ?_⟩⟩
  · rfl
  · rfl
  · show nI j >>> ((8 : Int32) &&& 31) = nI (j / 256)
    exact pk_shrN (n := j) (by omega) ((8 : Int32) &&& 31) 8 (by decide)
  · show nI j &&& 255 = nI (j % 256)
    exact pk_andN (n := j) (by omega) 8 (by decide)
  · rfl
  · rfl
  · rw [hf _ (by omega) (by omega)]
    decide
end
section
abbrev at_F (dC : Nat → ClassId) (dI : Nat → Nat → Nat) (cA cE : ClassId) (A : Nat → Prop) (qf qb qe : Nat) (u : tt_F) (t : State) : Prop := match u with
  | (b, g, od, ot, tm) => va_P (dC, dI) ttCl [(qf, .inr (0, [.ref qb, .ref qe, .int od, .int ot, .int tm])), (qb, .inl (cA, 32, .inl b)), (qe, .inl (cE, 2, .inl g))] t.heap ∧ va_K (dC, dI) ttCl [(cA, .int), (cE, .int)] t ∧ va_D A [(qf, .inr (0, [.ref qb, .ref qe, .int od, .int ot, .int tm])), (qb, .inl (cA, 32, .inl b)), (qe, .inl (cE, 2, .inl g))]
abbrev at_P (dC : Nat → ClassId) (dI : Nat → Nat → Nat) (cA cE : ClassId) (A : Nat → Prop) (qp qf qb qe : Nat) (u : tt_F) (t : State) : Prop := match u with
  | (b, g, od, ot, tm) => va_P (dC, dI) ttCl [(qp, .inr (1, [.ref qf])), (qf, .inr (0, [.ref qb, .ref qe, .int od, .int ot, .int tm])), (qb, .inl (cA, 32, .inl b)), (qe, .inl (cE, 2, .inl g))] t.heap ∧ va_K (dC, dI) ttCl [(cA, .int), (cE, .int)] t ∧ va_D A [(qp, .inr (1, [.ref qf])), (qf, .inr (0, [.ref qb, .ref qe, .int od, .int ot, .int tm])), (qb, .inl (cA, 32, .inl b)), (qe, .inl (cE, 2, .inl g))]
abbrev at_X (dC : Nat → ClassId) (dI : Nat → Nat → Nat) (cA cE : ClassId) (A : Nat → Prop) (qx qp qf qb qe : Nat) (pk pl ul : Int32) (u : tt_X) (t : State) : Prop := match u with
  | (pw, hi, ta, b, g, od, ot, tm) => va_P (dC, dI) ttCl [(qx, .inr (2, [.ref qf, .ref qp, .int pk, .int pl, .int ul, .int pw, .int hi, .int ta])), (qp, .inr (1, [.ref qf])), (qf, .inr (0, [.ref qb, .ref qe, .int od, .int ot, .int tm])), (qb, .inl (cA, 32, .inl b)), (qe, .inl (cE, 2, .inl g))] t.heap ∧ va_K (dC, dI) ttCl [(cA, .int), (cE, .int)] t ∧ va_D A [(qx, .inr (2, [.ref qf, .ref qp, .int pk, .int pl, .int ul, .int pw, .int hi, .int ta])), (qp, .inr (1, [.ref qf])), (qf, .inr (0, [.ref qb, .ref qe, .int od, .int ot, .int tm])), (qb, .inl (cA, 32, .inl b)), (qe, .inl (cE, 2, .inl g))]
abbrev at_M (dC : Nat → ClassId) (dI : Nat → Nat → Nat) (A : Nat → Prop) (qm : Nat) (pk pl ul : Int32) (u : tt_M) (t : State) : Prop := match u with
  | (ac, ag, pn, pt, ut, en, og, pw, hd, tn, tk, ar, dn, e0, e1) => va_P (dC, dI) ttCl [(qm, .inr (3, [.int pl, .int ul, .int pk, .int ac, .int ag, .int pn, .int pt, .int ut, .int en, .int og, .int pw, .int hd, .int tn, .int tk, .int ar, .int dn, .int e0, .int e1]))] t.heap ∧ va_K (dC, dI) ttCl [] t ∧ va_D A [(qm, .inr (3, [.int pl, .int ul, .int pk, .int ac, .int ag, .int pn, .int pt, .int ut, .int en, .int og, .int pw, .int hd, .int tn, .int tk, .int ar, .int dn, .int e0, .int e1]))]
end
section
set_option maxHeartbeats 4000000 in
set_option maxRecDepth 100000 in
theorem c_F_isPage (l : Launch) (dC : Nat → ClassId) (dI : Nat → Nat → Nat) (sz : Nat) (pg : Int32) : Met l yX0_isPage wsX0_isPage ({ frames := 0, cells := 0, slots := 0, locals := 0 }) (va_Pc [.int pg] (fun U => U.heap.size = sz ∧ va_P (dC, dI) ttCl [] U.heap ∧ va_K (dC, dI) ttCl [] U ∧ va_D (fun _ => True) [])) (va_Qi (fun (r : Int32) (_ : Unit) => r = tt_ip pg) (fun (_ : Unit) (t : State) => va_P (dC, dI) ttCl [] t.heap ∧ va_K (dC, dI) ttCl [] t ∧ va_D (va_A [] sz) []) (va_A [] sz)) 0 0 (va_A [] sz) := by
  refine Met.ofW (cc := cX0_isPage) (maxL := 1) (ret := (some .boolean)) (by decide) rfl ?_
  intro p e s m args below meth c s₁ B hml hv
  obtain ⟨rfl, hsz, hP, hK, hD0⟩ := hv
  have hx := B.exec
  have hb := B.bytes
  have hr := B.returns
  have hts := atoms_spec (ws := wsX0_isPage) B.pre
  have hown : s.vm.findClass RX0 = some m.cls := findClass_of_methodNamed B.named
  have hlocks := B.notSynchronized
  subst hsz
  have hD := hD0.self (sz := s.heap.size)
  generalize hAe : va_A [] s.heap.size = A at hD ⊢
  have hA : ∀ q : Nat, s.heap.size ≤ q → A q := fun q h => by rw [← hAe]; exact Or.inr h
  have hS : va_S A s.heap s.heap [] := va_S.rf
  have hP : va_P (dC, dI) ttCl [] s.heap := hP
  have hl := lv_entry ([.int pg]) (n := 1) (Nat.le_of_ble_eq_true rfl)
  rw [lg_entry_eq]
  generalize (lg_sl ([.int pg]) ++ List.replicate (1 - (lg_sl ([.int pg])).length) Slot.unset).toArray = ls at hl ⊢
  have hl : lv_has ls 1 [(0, .int pg)] := hl
  refine lv_iload_n hx hb dX0_isPage_0 rfl (lv_at hl 0 rfl) ?_
  refine lv_if_lt (tgt := 13) hx hb dX0_isPage_1 (by decide) (fun c_1 => ?_) (fun c_1 => ?_)
  · refine lv_iconst (v := 0) hx hb dX0_isPage_13 (by decide) ?_
    have hP9 := hP.sub (ws' := []) [] rfl
    have hD9 := hD.sub (ws' := []) [] (by decide) rfl
    have hK9 := hK.sub (tys' := []) [] rfl
    exact W.zret (v := 0) hx hb hr (by first | rfl | decide) (fun t ht hW => ⟨⟨0, (), rfl, (by first | (simp only [tt_ip, c_1, reduceIte, eq_self]; done) | (simp [tt_ip, c_1]; done)), by rw [ht]; exact hP9, va_K.moved hW.alike hK9, hD9⟩, hS.F ht⟩) hS.2.2 dX0_isPage_14
  · refine lv_iload_n hx hb dX0_isPage_4 rfl (lv_at hl 0 rfl) ?_
    refine lv_iconst (v := 2) hx hb dX0_isPage_5 (by decide) ?_
    refine lv_icmp_ge (tgt := 13) hx hb dX0_isPage_6 (by decide) (fun c_2 => ?_) (fun c_2 => ?_)
    · refine lv_iconst (v := 0) hx hb dX0_isPage_13 (by decide) ?_
      have hP9 := hP.sub (ws' := []) [] rfl
      have hD9 := hD.sub (ws' := []) [] (by decide) rfl
      have hK9 := hK.sub (tys' := []) [] rfl
      exact W.zret (v := 0) hx hb hr (by first | rfl | decide) (fun t ht hW => ⟨⟨0, (), rfl, (by first | (simp only [tt_ip, c_1, c_2, reduceIte, eq_self]; done) | (simp [tt_ip, c_1, c_2]; done)), by rw [ht]; exact hP9, va_K.moved hW.alike hK9, hD9⟩, hS.F ht⟩) hS.2.2 dX0_isPage_14
    · refine lv_iconst (v := 1) hx hb dX0_isPage_9 (by decide) ?_
      refine lv_goto (tgt := 14) hx hb dX0_isPage_10 (by decide) ?_
      have hP9 := hP.sub (ws' := []) [] rfl
      have hD9 := hD.sub (ws' := []) [] (by decide) rfl
      have hK9 := hK.sub (tys' := []) [] rfl
      exact W.zret (v := 1) hx hb hr (by first | rfl | decide) (fun t ht hW => ⟨⟨1, (), rfl, (by first | (simp only [tt_ip, c_1, c_2, reduceIte, eq_self]; done) | (simp [tt_ip, c_1, c_2]; done)), by rw [ht]; exact hP9, va_K.moved hW.alike hK9, hD9⟩, hS.F ht⟩) hS.2.2 dX0_isPage_14
set_option maxHeartbeats 4000000 in
set_option maxRecDepth 100000 in
theorem c_F_countOperation (l : Launch) (dC : Nat → ClassId) (dI : Nat → Nat → Nat) (cA cE : ClassId) (qf qb qe : Nat) (sz : Nat) (b g : Nat → Int32) (od ot tm : Int32) : Met l yX0_countOperation wsX0_countOperation ({ frames := 0, cells := 0, slots := 0, locals := 0 }) (va_Pc [.ref qf] (fun U => U.heap.size = sz ∧ va_P (dC, dI) ttCl [(qf, .inr (0, [.ref qb, .ref qe, .int od, .int ot, .int tm])), (qb, .inl (cA, 32, .inl b)), (qe, .inl (cE, 2, .inl g))] U.heap ∧ va_K (dC, dI) ttCl [(cA, .int), (cE, .int)] U ∧ va_D (fun _ => True) [(qf, .inr (0, [.ref qb, .ref qe, .int od, .int ot, .int tm])), (qb, .inl (cA, 32, .inl b)), (qe, .inl (cE, 2, .inl g))])) (va_Qi (fun (r : Int32) (u : tt_F) => tt_cnt (b, g, od, ot, tm) = (r, u)) (fun (u : tt_F) (t : State) => at_F dC dI cA cE (va_A [(qf, .inr (0, [.ref qb, .ref qe, .int od, .int ot, .int tm])), (qb, .inl (cA, 32, .inl b)), (qe, .inl (cE, 2, .inl g))] sz) qf qb qe u t) (va_A [(qf, .inr (0, [.ref qb, .ref qe, .int od, .int ot, .int tm])), (qb, .inl (cA, 32, .inl b)), (qe, .inl (cE, 2, .inl g))] sz)) 0 0 (va_A [(qf, .inr (0, [.ref qb, .ref qe, .int od, .int ot, .int tm])), (qb, .inl (cA, 32, .inl b)), (qe, .inl (cE, 2, .inl g))] sz) := by
  refine Met.ofW (cc := cX0_countOperation) (maxL := 1) (ret := (some .boolean)) (by decide) rfl ?_
  intro p e s m args below meth c s₁ B hml hv
  obtain ⟨rfl, hsz, hP, hK, hD0⟩ := hv
  have hx := B.exec
  have hb := B.bytes
  have hr := B.returns
  have hts := atoms_spec (ws := wsX0_countOperation) B.pre
  have hown : s.vm.findClass RX0 = some m.cls := findClass_of_methodNamed B.named
  have hlocks := B.notSynchronized
  subst hsz
  have hD := hD0.self (sz := s.heap.size)
  generalize hAe : va_A [(qf, .inr (0, [.ref qb, .ref qe, .int od, .int ot, .int tm])), (qb, .inl (cA, 32, .inl b)), (qe, .inl (cE, 2, .inl g))] s.heap.size = A at hD ⊢
  have hA : ∀ q : Nat, s.heap.size ≤ q → A q := fun q h => by rw [← hAe]; exact Or.inr h
  have hS : va_S A s.heap s.heap [] := va_S.rf
  have hP : va_P (dC, dI) ttCl [(qf, .inr (0, [.ref qb, .ref qe, .int od, .int ot, .int tm])), (qb, .inl (cA, 32, .inl b)), (qe, .inl (cE, 2, .inl g))] s.heap := hP
  have hl := lv_entry ([.ref qf]) (n := 1) (Nat.le_of_ble_eq_true rfl)
  rw [lg_entry_eq]
  generalize (lg_sl ([.ref qf]) ++ List.replicate (1 - (lg_sl ([.ref qf])).length) Slot.unset).toArray = ls at hl ⊢
  have hl : lv_has ls 1 [(0, .ref qf)] := hl
  refine lv_aload_n hx hb dX0_countOperation_0 rfl (lv_at hl 0 rfl) ?_
  refine lv_dup hx hb dX0_countOperation_1 rfl ?_
  refine va_get (D := (dC, dI)) (ci := 0) (v := .int od) (C := RX0) (T := TX0) (N := 5) hx hb hts (by decide +kernel) hown hK hP 0 rfl rfl 2 (by decide) (hts (.fieldLink RX0 16 "TornTryCounter$Flash" "operationsDone" "I") (by decide +kernel)) (fun _ h9 => h9) rfl dX0_countOperation_2 ?_
  refine lv_iconst (v := 1) hx hb dX0_countOperation_5 (by decide) ?_
  refine lv_iadd hx hb dX0_countOperation_6 ?_
  refine va_put (D := (dC, dI)) (ci := 0) (v := .int (od + 1)) (ty := .int) (C := RX0) (T := TX0) (N := 5) hx hb hts (by decide +kernel) tyX0 tyX0_ok nmX0 hown hK hP hD hS 0 rfl rfl 2 (by decide) (hts (.fieldLink RX0 16 "TornTryCounter$Flash" "operationsDone" "I") (by decide +kernel)) (fun _ h9 => h9) rfl (by decide +kernel) rfl rfl (Nat.le_of_ble_eq_true rfl) dX0_countOperation_7 (fun H locs hP hD hS => ?_)
  have hP : va_P (dC, dI) ttCl [(qf, .inr (0, [.ref qb, .ref qe, .int (od + 1), .int ot, .int tm])), (qb, .inl (cA, 32, .inl b)), (qe, .inl (cE, 2, .inl g))] H := hP
  have hD : va_D A [(qf, .inr (0, [.ref qb, .ref qe, .int (od + 1), .int ot, .int tm])), (qb, .inl (cA, 32, .inl b)), (qe, .inl (cE, 2, .inl g))] := hD
  refine lv_aload_n hx hb dX0_countOperation_10 rfl (lv_at hl 0 rfl) ?_
  refine va_get (D := (dC, dI)) (ci := 0) (v := .int ot) (C := RX0) (T := TX0) (N := 5) hx hb hts (by decide +kernel) hown hK hP 0 rfl rfl 3 (by decide) (hts (.fieldLink RX0 20 "TornTryCounter$Flash" "operationsToTear" "I") (by decide +kernel)) (fun _ h9 => h9) rfl dX0_countOperation_11 ?_
  refine lv_if_ne (tgt := 19) hx hb dX0_countOperation_14 (by decide) (fun c_1 => ?_) (fun c_1 => ?_)
  · refine lv_aload_n hx hb dX0_countOperation_19 rfl (lv_at hl 0 rfl) ?_
    refine lv_dup hx hb dX0_countOperation_20 rfl ?_
    refine va_get (D := (dC, dI)) (ci := 0) (v := .int ot) (C := RX0) (T := TX0) (N := 5) hx hb hts (by decide +kernel) hown hK hP 0 rfl rfl 3 (by decide) (hts (.fieldLink RX0 20 "TornTryCounter$Flash" "operationsToTear" "I") (by decide +kernel)) (fun _ h9 => h9) rfl dX0_countOperation_21 ?_
    refine lv_iconst (v := 1) hx hb dX0_countOperation_24 (by decide) ?_
    refine lv_isub hx hb dX0_countOperation_25 ?_
    refine va_put (D := (dC, dI)) (ci := 0) (v := .int (ot - 1)) (ty := .int) (C := RX0) (T := TX0) (N := 5) hx hb hts (by decide +kernel) tyX0 tyX0_ok nmX0 hown hK hP hD hS 0 rfl rfl 3 (by decide) (hts (.fieldLink RX0 20 "TornTryCounter$Flash" "operationsToTear" "I") (by decide +kernel)) (fun _ h9 => h9) rfl (by decide +kernel) rfl rfl (Nat.le_of_ble_eq_true rfl) dX0_countOperation_26 (fun H locs hP hD hS => ?_)
    have hP : va_P (dC, dI) ttCl [(qf, .inr (0, [.ref qb, .ref qe, .int (od + 1), .int (ot - 1), .int tm])), (qb, .inl (cA, 32, .inl b)), (qe, .inl (cE, 2, .inl g))] H := hP
    have hD : va_D A [(qf, .inr (0, [.ref qb, .ref qe, .int (od + 1), .int (ot - 1), .int tm])), (qb, .inl (cA, 32, .inl b)), (qe, .inl (cE, 2, .inl g))] := hD
    refine lv_aload_n hx hb dX0_countOperation_29 rfl (lv_at hl 0 rfl) ?_
    refine va_get (D := (dC, dI)) (ci := 0) (v := .int (ot - 1)) (C := RX0) (T := TX0) (N := 5) hx hb hts (by decide +kernel) hown hK hP 0 rfl rfl 3 (by decide) (hts (.fieldLink RX0 20 "TornTryCounter$Flash" "operationsToTear" "I") (by decide +kernel)) (fun _ h9 => h9) rfl dX0_countOperation_30 ?_
    refine lv_if_ne (tgt := 40) hx hb dX0_countOperation_33 (by decide) (fun c_2 => ?_) (fun c_2 => ?_)
    · refine lv_iconst (v := 0) hx hb dX0_countOperation_40 (by decide) ?_
      have hP9 := hP.sub (ws' := [(qf, .inr (0, [.ref qb, .ref qe, .int (od + 1), .int (ot - 1), .int tm])), (qb, .inl (cA, 32, .inl b)), (qe, .inl (cE, 2, .inl g))]) [0, 1, 2] rfl
      have hD9 := hD.sub (ws' := [(qf, .inr (0, [.ref qb, .ref qe, .int (od + 1), .int (ot - 1), .int tm])), (qb, .inl (cA, 32, .inl b)), (qe, .inl (cE, 2, .inl g))]) [0, 1, 2] (by decide) rfl
      have hK9 := hK.sub (tys' := [(cA, .int), (cE, .int)]) [0, 1] rfl
      exact W.zret (v := 0) hx hb hr (by first | rfl | decide) (fun t ht hW => ⟨⟨0, (b, g, od + 1, ot - 1, tm), rfl, (by first | (simp only [tt_cnt, c_1, c_2, reduceIte, eq_self]; done) | (simp [tt_cnt, c_1, c_2]; done)), by rw [ht]; exact hP9, va_K.moved hW.alike hK9, hD9⟩, hS.F ht⟩) hS.2.2 dX0_countOperation_41
    · refine lv_iconst (v := 1) hx hb dX0_countOperation_36 (by decide) ?_
      refine lv_goto (tgt := 41) hx hb dX0_countOperation_37 (by decide) ?_
      have hP9 := hP.sub (ws' := [(qf, .inr (0, [.ref qb, .ref qe, .int (od + 1), .int (ot - 1), .int tm])), (qb, .inl (cA, 32, .inl b)), (qe, .inl (cE, 2, .inl g))]) [0, 1, 2] rfl
      have hD9 := hD.sub (ws' := [(qf, .inr (0, [.ref qb, .ref qe, .int (od + 1), .int (ot - 1), .int tm])), (qb, .inl (cA, 32, .inl b)), (qe, .inl (cE, 2, .inl g))]) [0, 1, 2] (by decide) rfl
      have hK9 := hK.sub (tys' := [(cA, .int), (cE, .int)]) [0, 1] rfl
      exact W.zret (v := 1) hx hb hr (by first | rfl | decide) (fun t ht hW => ⟨⟨1, (b, g, od + 1, ot - 1, tm), rfl, (by first | (simp only [tt_cnt, c_1, c_2, reduceIte, eq_self]; done) | (simp [tt_cnt, c_1, c_2]; done)), by rw [ht]; exact hP9, va_K.moved hW.alike hK9, hD9⟩, hS.F ht⟩) hS.2.2 dX0_countOperation_41
  · refine lv_iconst (v := 0) hx hb dX0_countOperation_17 (by decide) ?_
    have hP9 := hP.sub (ws' := [(qf, .inr (0, [.ref qb, .ref qe, .int (od + 1), .int ot, .int tm])), (qb, .inl (cA, 32, .inl b)), (qe, .inl (cE, 2, .inl g))]) [0, 1, 2] rfl
    have hD9 := hD.sub (ws' := [(qf, .inr (0, [.ref qb, .ref qe, .int (od + 1), .int ot, .int tm])), (qb, .inl (cA, 32, .inl b)), (qe, .inl (cE, 2, .inl g))]) [0, 1, 2] (by decide) rfl
    have hK9 := hK.sub (tys' := [(cA, .int), (cE, .int)]) [0, 1] rfl
    exact W.zret (v := 0) hx hb hr (by first | rfl | decide) (fun t ht hW => ⟨⟨0, (b, g, od + 1, ot, tm), rfl, (by first | (simp only [tt_cnt, c_1, reduceIte, eq_self]; done) | (simp [tt_cnt, c_1]; done)), by rw [ht]; exact hP9, va_K.moved hW.alike hK9, hD9⟩, hS.F ht⟩) hS.2.2 dX0_countOperation_18
set_option maxHeartbeats 4000000 in
set_option maxRecDepth 100000 in
theorem c_F_read (l : Launch) (dC : Nat → ClassId) (dI : Nat → Nat → Nat) (cA cE : ClassId) (qf qb qe : Nat) (sz : Nat) (b g : Nat → Int32) (od ot tm : Int32) (pg a : Int32) : Met l yX0_read wsX0_read ({ frames := 0, cells := 0, slots := 0, locals := 0 }) (va_Pc [.ref qf, .int pg, .int a] (fun U => U.heap.size = sz ∧ va_P (dC, dI) ttCl [(qf, .inr (0, [.ref qb, .ref qe, .int od, .int ot, .int tm])), (qb, .inl (cA, 32, .inl b)), (qe, .inl (cE, 2, .inl g))] U.heap ∧ va_K (dC, dI) ttCl [(cA, .int), (cE, .int)] U ∧ va_D (fun _ => True) [(qf, .inr (0, [.ref qb, .ref qe, .int od, .int ot, .int tm])), (qb, .inl (cA, 32, .inl b)), (qe, .inl (cE, 2, .inl g))])) (va_Qi (fun (r : Int32) (_ : Unit) => r = tt_rd b pg a) (fun (_ : Unit) (t : State) => at_F dC dI cA cE (va_A [(qf, .inr (0, [.ref qb, .ref qe, .int od, .int ot, .int tm])), (qb, .inl (cA, 32, .inl b)), (qe, .inl (cE, 2, .inl g))] sz) qf qb qe (b, g, od, ot, tm) t) (va_A [(qf, .inr (0, [.ref qb, .ref qe, .int od, .int ot, .int tm])), (qb, .inl (cA, 32, .inl b)), (qe, .inl (cE, 2, .inl g))] sz)) 0 0 (va_A [(qf, .inr (0, [.ref qb, .ref qe, .int od, .int ot, .int tm])), (qb, .inl (cA, 32, .inl b)), (qe, .inl (cE, 2, .inl g))] sz) := by
  refine Met.ofW (cc := cX0_read) (maxL := 4) (ret := (some .int)) (by decide) rfl ?_
  intro p e s m args below meth c s₁ B hml hv
  obtain ⟨rfl, hsz, hP, hK, hD0⟩ := hv
  have hx := B.exec
  have hb := B.bytes
  have hr := B.returns
  have hts := atoms_spec (ws := wsX0_read) B.pre
  have hown : s.vm.findClass RX0 = some m.cls := findClass_of_methodNamed B.named
  have hlocks := B.notSynchronized
  subst hsz
  have hD := hD0.self (sz := s.heap.size)
  generalize hAe : va_A [(qf, .inr (0, [.ref qb, .ref qe, .int od, .int ot, .int tm])), (qb, .inl (cA, 32, .inl b)), (qe, .inl (cE, 2, .inl g))] s.heap.size = A at hD ⊢
  have hA : ∀ q : Nat, s.heap.size ≤ q → A q := fun q h => by rw [← hAe]; exact Or.inr h
  have hS : va_S A s.heap s.heap [] := va_S.rf
  have hP : va_P (dC, dI) ttCl [(qf, .inr (0, [.ref qb, .ref qe, .int od, .int ot, .int tm])), (qb, .inl (cA, 32, .inl b)), (qe, .inl (cE, 2, .inl g))] s.heap := hP
  have hl := lv_entry ([.ref qf, .int pg, .int a]) (n := 4) (Nat.le_of_ble_eq_true rfl)
  rw [lg_entry_eq]
  generalize (lg_sl ([.ref qf, .int pg, .int a]) ++ List.replicate (4 - (lg_sl ([.ref qf, .int pg, .int a])).length) Slot.unset).toArray = ls at hl ⊢
  have hl : lv_has ls 4 [(0, .ref qf), (1, .int pg), (2, .int a)] := hl
  refine lv_iload_n hx hb dX0_read_0 rfl (lv_at hl 1 rfl) ?_
  refine lv_bipush (v := 16) hx hb dX0_read_1 (by decide) ?_
  refine lv_imul hx hb dX0_read_3 ?_
  refine lv_iload_n hx hb dX0_read_4 rfl (lv_at hl 2 rfl) ?_
  refine lv_iadd hx hb dX0_read_5 ?_
  refine lv_istore_n (lv' := [(3, .int ((pg * 16) + a)), (0, .ref qf), (1, .int pg), (2, .int a)]) hx hb dX0_read_6 rfl hl (by decide) rfl (fun ls hl => ?_)
  refine lv_iload_n hx hb dX0_read_7 rfl (lv_at hl 0 rfl) ?_
  refine lv_if_lt (tgt := 29) hx hb dX0_read_8 (by decide) (fun c_1 => ?_) (fun c_1 => ?_)
  · refine lv_sipush (v := 255) hx hb dX0_read_29 (by decide) ?_
    have hP9 := hP.sub (ws' := [(qf, .inr (0, [.ref qb, .ref qe, .int od, .int ot, .int tm])), (qb, .inl (cA, 32, .inl b)), (qe, .inl (cE, 2, .inl g))]) [0, 1, 2] rfl
    have hD9 := hD.sub (ws' := [(qf, .inr (0, [.ref qb, .ref qe, .int od, .int ot, .int tm])), (qb, .inl (cA, 32, .inl b)), (qe, .inl (cE, 2, .inl g))]) [0, 1, 2] (by decide) rfl
    have hK9 := hK.sub (tys' := [(cA, .int), (cE, .int)]) [0, 1] rfl
    exact W.iret (v := 255) hx hb hr (fun t ht hW => ⟨⟨255, (), rfl, (by first | (simp only [tt_rd, c_1, reduceIte, eq_self]; done) | (simp [tt_rd, c_1]; done)), by rw [ht]; exact hP9, va_K.moved hW.alike hK9, hD9⟩, hS.F ht⟩) hS.2.2 dX0_read_32
  · refine lv_iload_n hx hb dX0_read_11 rfl (lv_at hl 0 rfl) ?_
    refine lv_aload_n hx hb dX0_read_12 rfl (lv_at hl 1 rfl) ?_
    refine va_get (D := (dC, dI)) (ci := 0) (v := .ref qb) (C := RX0) (T := TX0) (N := 5) hx hb hts (by decide +kernel) hown hK hP 0 rfl rfl 0 (by decide) (hts (.fieldLink RX0 9 "TornTryCounter$Flash" "bytes" "[I") (by decide +kernel)) (fun _ h9 => h9) rfl dX0_read_13 ?_
    refine va_alen (v := 32) hx hb hK hP 1 0 rfl rfl rfl dX0_read_16 ?_
    refine lv_icmp_ge (tgt := 29) hx hb dX0_read_17 (by decide) (fun c_2 => ?_) (fun c_2 => ?_)
    · refine lv_sipush (v := 255) hx hb dX0_read_29 (by decide) ?_
      have hP9 := hP.sub (ws' := [(qf, .inr (0, [.ref qb, .ref qe, .int od, .int ot, .int tm])), (qb, .inl (cA, 32, .inl b)), (qe, .inl (cE, 2, .inl g))]) [0, 1, 2] rfl
      have hD9 := hD.sub (ws' := [(qf, .inr (0, [.ref qb, .ref qe, .int od, .int ot, .int tm])), (qb, .inl (cA, 32, .inl b)), (qe, .inl (cE, 2, .inl g))]) [0, 1, 2] (by decide) rfl
      have hK9 := hK.sub (tys' := [(cA, .int), (cE, .int)]) [0, 1] rfl
      exact W.iret (v := 255) hx hb hr (fun t ht hW => ⟨⟨255, (), rfl, (by first | (simp only [tt_rd, c_1, c_2, reduceIte, eq_self]; done) | (simp [tt_rd, c_1, c_2]; done)), by rw [ht]; exact hP9, va_K.moved hW.alike hK9, hD9⟩, hS.F ht⟩) hS.2.2 dX0_read_32
    · refine lv_aload_n hx hb dX0_read_20 rfl (lv_at hl 1 rfl) ?_
      refine va_get (D := (dC, dI)) (ci := 0) (v := .ref qb) (C := RX0) (T := TX0) (N := 5) hx hb hts (by decide +kernel) hown hK hP 0 rfl rfl 0 (by decide) (hts (.fieldLink RX0 9 "TornTryCounter$Flash" "bytes" "[I") (by decide +kernel)) (fun _ h9 => h9) rfl dX0_read_21 ?_
      refine lv_iload_n hx hb dX0_read_24 rfl (lv_at hl 0 rfl) ?_
      refine va_iald hx hb hK hP 1 0 rfl rfl (tt_in32 c_1 c_2) dX0_read_25 ?_
      refine lv_goto (tgt := 32) hx hb dX0_read_26 (by decide) ?_
      have hP9 := hP.sub (ws' := [(qf, .inr (0, [.ref qb, .ref qe, .int od, .int ot, .int tm])), (qb, .inl (cA, 32, .inl b)), (qe, .inl (cE, 2, .inl g))]) [0, 1, 2] rfl
      have hD9 := hD.sub (ws' := [(qf, .inr (0, [.ref qb, .ref qe, .int od, .int ot, .int tm])), (qb, .inl (cA, 32, .inl b)), (qe, .inl (cE, 2, .inl g))]) [0, 1, 2] (by decide) rfl
      have hK9 := hK.sub (tys' := [(cA, .int), (cE, .int)]) [0, 1] rfl
      exact W.iret (v := b ((pg * 16) + a).toNatClampNeg) hx hb hr (fun t ht hW => ⟨⟨b ((pg * 16) + a).toNatClampNeg, (), rfl, (by first | (simp only [tt_rd, c_1, c_2, reduceIte, eq_self]; done) | (simp [tt_rd, c_1, c_2]; done)), by rw [ht]; exact hP9, va_K.moved hW.alike hK9, hD9⟩, hS.F ht⟩) hS.2.2 dX0_read_32
set_option maxHeartbeats 4000000 in
set_option maxRecDepth 100000 in
theorem c_F_preset (l : Launch) (dC : Nat → ClassId) (dI : Nat → Nat → Nat) (cA cE : ClassId) (qf qb qe : Nat) (sz : Nat) (b g : Nat → Int32) (od ot tm : Int32) (pg a v : Int32) : Met l yX0_preset wsX0_preset ({ frames := 0, cells := 0, slots := 0, locals := 0 }) (va_Pc [.ref qf, .int pg, .int a, .int v] (fun U => U.heap.size = sz ∧ va_P (dC, dI) ttCl [(qf, .inr (0, [.ref qb, .ref qe, .int od, .int ot, .int tm])), (qb, .inl (cA, 32, .inl b)), (qe, .inl (cE, 2, .inl g))] U.heap ∧ va_K (dC, dI) ttCl [(cA, .int), (cE, .int)] U ∧ va_D (fun _ => True) [(qf, .inr (0, [.ref qb, .ref qe, .int od, .int ot, .int tm])), (qb, .inl (cA, 32, .inl b)), (qe, .inl (cE, 2, .inl g))])) (va_Qv (fun (u : tt_F) => (tt_wr b pg a v, g, od, ot, tm) = u) (fun (u : tt_F) (t : State) => at_F dC dI cA cE (va_A [(qf, .inr (0, [.ref qb, .ref qe, .int od, .int ot, .int tm])), (qb, .inl (cA, 32, .inl b)), (qe, .inl (cE, 2, .inl g))] sz) qf qb qe u t) (va_A [(qf, .inr (0, [.ref qb, .ref qe, .int od, .int ot, .int tm])), (qb, .inl (cA, 32, .inl b)), (qe, .inl (cE, 2, .inl g))] sz)) 0 0 (va_A [(qf, .inr (0, [.ref qb, .ref qe, .int od, .int ot, .int tm])), (qb, .inl (cA, 32, .inl b)), (qe, .inl (cE, 2, .inl g))] sz) := by
  refine Met.ofW (cc := cX0_preset) (maxL := 5) (ret := none) (by decide) rfl ?_
  intro p e s m args below meth c s₁ B hml hv
  obtain ⟨rfl, hsz, hP, hK, hD0⟩ := hv
  have hx := B.exec
  have hb := B.bytes
  have hr := B.returns
  have hts := atoms_spec (ws := wsX0_preset) B.pre
  have hown : s.vm.findClass RX0 = some m.cls := findClass_of_methodNamed B.named
  have hlocks := B.notSynchronized
  subst hsz
  have hD := hD0.self (sz := s.heap.size)
  generalize hAe : va_A [(qf, .inr (0, [.ref qb, .ref qe, .int od, .int ot, .int tm])), (qb, .inl (cA, 32, .inl b)), (qe, .inl (cE, 2, .inl g))] s.heap.size = A at hD ⊢
  have hA : ∀ q : Nat, s.heap.size ≤ q → A q := fun q h => by rw [← hAe]; exact Or.inr h
  have hS : va_S A s.heap s.heap [] := va_S.rf
  have hP : va_P (dC, dI) ttCl [(qf, .inr (0, [.ref qb, .ref qe, .int od, .int ot, .int tm])), (qb, .inl (cA, 32, .inl b)), (qe, .inl (cE, 2, .inl g))] s.heap := hP
  have hl := lv_entry ([.ref qf, .int pg, .int a, .int v]) (n := 5) (Nat.le_of_ble_eq_true rfl)
  rw [lg_entry_eq]
  generalize (lg_sl ([.ref qf, .int pg, .int a, .int v]) ++ List.replicate (5 - (lg_sl ([.ref qf, .int pg, .int a, .int v])).length) Slot.unset).toArray = ls at hl ⊢
  have hl : lv_has ls 5 [(0, .ref qf), (1, .int pg), (2, .int a), (3, .int v)] := hl
  refine lv_iload_n hx hb dX0_preset_0 rfl (lv_at hl 1 rfl) ?_
  refine lv_bipush (v := 16) hx hb dX0_preset_1 (by decide) ?_
  refine lv_imul hx hb dX0_preset_3 ?_
  refine lv_iload_n hx hb dX0_preset_4 rfl (lv_at hl 2 rfl) ?_
  refine lv_iadd hx hb dX0_preset_5 ?_
  refine lv_istore (lv' := [(4, .int ((pg * 16) + a)), (0, .ref qf), (1, .int pg), (2, .int a), (3, .int v)]) hx hb dX0_preset_6 hl (by decide) rfl (fun ls hl => ?_)
  refine lv_iload hx hb dX0_preset_8 (lv_at hl 0 rfl) ?_
  refine lv_if_lt (tgt := 31) hx hb dX0_preset_10 (by decide) (fun c_1 => ?_) (fun c_1 => ?_)
  · have hP9 := hP.sub (ws' := [(qf, .inr (0, [.ref qb, .ref qe, .int od, .int ot, .int tm])), (qb, .inl (cA, 32, .inl b)), (qe, .inl (cE, 2, .inl g))]) [0, 1, 2] rfl
    have hD9 := hD.sub (ws' := [(qf, .inr (0, [.ref qb, .ref qe, .int od, .int ot, .int tm])), (qb, .inl (cA, 32, .inl b)), (qe, .inl (cE, 2, .inl g))]) [0, 1, 2] (by decide) rfl
    have hK9 := hK.sub (tys' := [(cA, .int), (cE, .int)]) [0, 1] rfl
    exact W.vret hx hb hr (fun t ht hW => ⟨⟨(b, g, od, ot, tm), rfl, (by first | (simp only [tt_wr, c_1, reduceIte, eq_self]; done) | (simp [tt_wr, c_1]; done)), by rw [ht]; exact hP9, va_K.moved hW.alike hK9, hD9⟩, hS.F ht⟩) hS.2.2 dX0_preset_31
  · refine lv_iload hx hb dX0_preset_13 (lv_at hl 0 rfl) ?_
    refine lv_aload_n hx hb dX0_preset_15 rfl (lv_at hl 1 rfl) ?_
    refine va_get (D := (dC, dI)) (ci := 0) (v := .ref qb) (C := RX0) (T := TX0) (N := 5) hx hb hts (by decide +kernel) hown hK hP 0 rfl rfl 0 (by decide) (hts (.fieldLink RX0 9 "TornTryCounter$Flash" "bytes" "[I") (by decide +kernel)) (fun _ h9 => h9) rfl dX0_preset_16 ?_
    refine va_alen (v := 32) hx hb hK hP 1 0 rfl rfl rfl dX0_preset_19 ?_
    refine lv_icmp_ge (tgt := 31) hx hb dX0_preset_20 (by decide) (fun c_2 => ?_) (fun c_2 => ?_)
    · have hP9 := hP.sub (ws' := [(qf, .inr (0, [.ref qb, .ref qe, .int od, .int ot, .int tm])), (qb, .inl (cA, 32, .inl b)), (qe, .inl (cE, 2, .inl g))]) [0, 1, 2] rfl
      have hD9 := hD.sub (ws' := [(qf, .inr (0, [.ref qb, .ref qe, .int od, .int ot, .int tm])), (qb, .inl (cA, 32, .inl b)), (qe, .inl (cE, 2, .inl g))]) [0, 1, 2] (by decide) rfl
      have hK9 := hK.sub (tys' := [(cA, .int), (cE, .int)]) [0, 1] rfl
      exact W.vret hx hb hr (fun t ht hW => ⟨⟨(b, g, od, ot, tm), rfl, (by first | (simp only [tt_wr, c_1, c_2, reduceIte, eq_self]; done) | (simp [tt_wr, c_1, c_2]; done)), by rw [ht]; exact hP9, va_K.moved hW.alike hK9, hD9⟩, hS.F ht⟩) hS.2.2 dX0_preset_31
    · refine lv_aload_n hx hb dX0_preset_23 rfl (lv_at hl 1 rfl) ?_
      refine va_get (D := (dC, dI)) (ci := 0) (v := .ref qb) (C := RX0) (T := TX0) (N := 5) hx hb hts (by decide +kernel) hown hK hP 0 rfl rfl 0 (by decide) (hts (.fieldLink RX0 9 "TornTryCounter$Flash" "bytes" "[I") (by decide +kernel)) (fun _ h9 => h9) rfl dX0_preset_24 ?_
      refine lv_iload hx hb dX0_preset_27 (lv_at hl 0 rfl) ?_
      refine lv_iload_n hx hb dX0_preset_29 rfl (lv_at hl 4 rfl) ?_
      refine va_iast hx hb hK hP hD hS 1 0 rfl rfl (tt_in32 c_1 c_2) dX0_preset_30 (fun H locs hP hD hS => ?_)
      have hP : va_P (dC, dI) ttCl [(qf, .inr (0, [.ref qb, .ref qe, .int od, .int ot, .int tm])), (qb, .inl (cA, 32, .inl (upd b ((pg * 16) + a).toNatClampNeg v))), (qe, .inl (cE, 2, .inl g))] H := hP
      have hD : va_D A [(qf, .inr (0, [.ref qb, .ref qe, .int od, .int ot, .int tm])), (qb, .inl (cA, 32, .inl (upd b ((pg * 16) + a).toNatClampNeg v))), (qe, .inl (cE, 2, .inl g))] := hD
      have hP9 := hP.sub (ws' := [(qf, .inr (0, [.ref qb, .ref qe, .int od, .int ot, .int tm])), (qb, .inl (cA, 32, .inl (upd b ((pg * 16) + a).toNatClampNeg v))), (qe, .inl (cE, 2, .inl g))]) [0, 1, 2] rfl
      have hD9 := hD.sub (ws' := [(qf, .inr (0, [.ref qb, .ref qe, .int od, .int ot, .int tm])), (qb, .inl (cA, 32, .inl (upd b ((pg * 16) + a).toNatClampNeg v))), (qe, .inl (cE, 2, .inl g))]) [0, 1, 2] (by decide) rfl
      have hK9 := hK.sub (tys' := [(cA, .int), (cE, .int)]) [0, 1] rfl
      exact W.vret hx hb hr (fun t ht hW => ⟨⟨(upd b ((pg * 16) + a).toNatClampNeg v, g, od, ot, tm), rfl, (by first | (simp only [tt_wr, c_1, c_2, reduceIte, eq_self]; done) | (simp [tt_wr, c_1, c_2]; done)), by rw [ht]; exact hP9, va_K.moved hW.alike hK9, hD9⟩, hS.F ht⟩) hS.2.2 dX0_preset_31
set_option maxHeartbeats 4000000 in
set_option maxRecDepth 100000 in
theorem c_F_program (l : Launch) (dC : Nat → ClassId) (dI : Nat → Nat → Nat) (cA cE : ClassId) (qf qb qe : Nat) (sz : Nat) (b g : Nat → Int32) (od ot tm : Int32) (pg a v : Int32) : Met l yX0_program wsX0_program ({ frames := 1, cells := 0, slots := 0, locals := 20 }) (va_Pc [.ref qf, .int pg, .int a, .int v] (fun U => U.heap.size = sz ∧ va_P (dC, dI) ttCl [(qf, .inr (0, [.ref qb, .ref qe, .int od, .int ot, .int tm])), (qb, .inl (cA, 32, .inl b)), (qe, .inl (cE, 2, .inl g))] U.heap ∧ va_K (dC, dI) ttCl [(cA, .int), (cE, .int)] U ∧ va_D (fun _ => True) [(qf, .inr (0, [.ref qb, .ref qe, .int od, .int ot, .int tm])), (qb, .inl (cA, 32, .inl b)), (qe, .inl (cE, 2, .inl g))])) (va_Qi (fun (r : Int32) (u : tt_F) => tt_prog (b, g, od, ot, tm) pg a v = (r, u)) (fun (u : tt_F) (t : State) => at_F dC dI cA cE (va_A [(qf, .inr (0, [.ref qb, .ref qe, .int od, .int ot, .int tm])), (qb, .inl (cA, 32, .inl b)), (qe, .inl (cE, 2, .inl g))] sz) qf qb qe u t) (va_A [(qf, .inr (0, [.ref qb, .ref qe, .int od, .int ot, .int tm])), (qb, .inl (cA, 32, .inl b)), (qe, .inl (cE, 2, .inl g))] sz)) 0 0 (va_A [(qf, .inr (0, [.ref qb, .ref qe, .int od, .int ot, .int tm])), (qb, .inl (cA, 32, .inl b)), (qe, .inl (cE, 2, .inl g))] sz) := by
  refine Met.ofW (cc := cX0_program) (maxL := 7) (ret := (some .boolean)) (by decide) rfl ?_
  intro p e s m args below meth c s₁ B hml hv
  obtain ⟨rfl, hsz, hP, hK, hD0⟩ := hv
  have hx := B.exec
  have hb := B.bytes
  have hr := B.returns
  have hts := atoms_spec (ws := wsX0_program) B.pre
  have hown : s.vm.findClass RX0 = some m.cls := findClass_of_methodNamed B.named
  have hlocks := B.notSynchronized
  subst hsz
  have hD := hD0.self (sz := s.heap.size)
  generalize hAe : va_A [(qf, .inr (0, [.ref qb, .ref qe, .int od, .int ot, .int tm])), (qb, .inl (cA, 32, .inl b)), (qe, .inl (cE, 2, .inl g))] s.heap.size = A at hD ⊢
  have hA : ∀ q : Nat, s.heap.size ≤ q → A q := fun q h => by rw [← hAe]; exact Or.inr h
  have hS : va_S A s.heap s.heap [] := va_S.rf
  have hP : va_P (dC, dI) ttCl [(qf, .inr (0, [.ref qb, .ref qe, .int od, .int ot, .int tm])), (qb, .inl (cA, 32, .inl b)), (qe, .inl (cE, 2, .inl g))] s.heap := hP
  have hl := lv_entry ([.ref qf, .int pg, .int a, .int v]) (n := 7) (Nat.le_of_ble_eq_true rfl)
  rw [lg_entry_eq]
  generalize (lg_sl ([.ref qf, .int pg, .int a, .int v]) ++ List.replicate (7 - (lg_sl ([.ref qf, .int pg, .int a, .int v])).length) Slot.unset).toArray = ls at hl ⊢
  have hl : lv_has ls 7 [(0, .ref qf), (1, .int pg), (2, .int a), (3, .int v)] := hl
  refine lv_aload_n hx hb dX0_program_0 rfl (lv_at hl 0 rfl) ?_
  have hPc := hP.sub (ws' := [(qf, .inr (0, [.ref qb, .ref qe, .int od, .int ot, .int tm])), (qb, .inl (cA, 32, .inl b)), (qe, .inl (cE, 2, .inl g))]) [0, 1, 2] rfl
  have hDc := hD.sub (ws' := [(qf, .inr (0, [.ref qb, .ref qe, .int od, .int ot, .int tm])), (qb, .inl (cA, 32, .inl b)), (qe, .inl (cE, 2, .inl g))]) [0, 1, 2] (by decide) rfl
  have hKc := hK.sub (tys' := [(cA, .int), (cE, .int)]) [0, 1] rfl
  have hFc := va_free (wc := [(qf, .inr (0, [.ref qb, .ref qe, .int od, .int ot, .int tm])), (qb, .inl (cA, 32, .inl b)), (qe, .inl (cE, 2, .inl g))]) hD hS hA [0, 1, 2] rfl
  refine va_calli (va_runV (As := []) (rest := []) ⟨hx, hb, hml, hown, hts⟩ (c_F_countOperation l dC dI cA cE qf qb qe s.heap.size b g od ot tm) (cwV 0 hts gX0_program_X0_countOperation rfl rfl rfl (by decide +kernel) ⟨Nat.le_of_ble_eq_true rfl, Nat.le_of_ble_eq_true rfl⟩) ⟨fun a U g mk q => by obtain ⟨q0, q1, qP, qK, qD⟩ := q; exact ⟨q0, q1, qP, va_K.moved (u := U) (U := U.calling g mk a) (Vm.Alike.refl U.vm) qK, qD⟩, va_recv hKc hPc (ci := 0) (q0 := 0) rfl rfl, fun U hU hW => ⟨rfl, by rw [hU], by rw [hU]; exact hPc, va_K.moved hW.alike hKc, hDc.weaken (fun _ _ _ _ => trivial)⟩⟩ rfl rfl hl.1 rfl (lv_room (Nat.le_of_ble_eq_true rfl)) dX0_program_1 ⟨(Nat.zero_le _), (Nat.zero_le _)⟩) hS (fun q _ h => hFc q h) hFc (fun r_1 u t H locs ht hvm hw hB hz1 hk1 hS => ?_)
  obtain ⟨b_1, g_1, od_1, ot_1, tm_1⟩ := u
  obtain ⟨hP1, hK1, hD1⟩ := hB
  have e_1 : tt_cnt (b, g, od, ot, tm) = (r_1, (b_1, g_1, od_1, ot_1, tm_1)) := hw
  rw [ht] at hP1
  obtain ⟨hP, hD⟩ := va_join (wr := []) (w1 := [(qf, .inr (0, [.ref qb, .ref qe, .int od_1, .int ot_1, .int tm_1])), (qb, .inl (cA, 32, .inl b_1)), (qe, .inl (cE, 2, .inl g_1))]) hP hD [0, 1, 2] [] rfl rfl (by decide) (by decide) hk1 hFc hP1 hD1
  have hP : va_P (dC, dI) ttCl [(qf, .inr (0, [.ref qb, .ref qe, .int od_1, .int ot_1, .int tm_1])), (qb, .inl (cA, 32, .inl b_1)), (qe, .inl (cE, 2, .inl g_1))] H := hP
  have hD : va_D A [(qf, .inr (0, [.ref qb, .ref qe, .int od_1, .int ot_1, .int tm_1])), (qb, .inl (cA, 32, .inl b_1)), (qe, .inl (cE, 2, .inl g_1))] := hD
  refine lv_istore (lv' := [(4, .int r_1), (0, .ref qf), (1, .int pg), (2, .int a), (3, .int v)]) hx hb dX0_program_4 hl (by decide) rfl (fun ls hl => ?_)
  refine lv_iload hx hb dX0_program_6 (lv_at hl 0 rfl) ?_
  refine lv_if_eq (tgt := 18) hx hb dX0_program_8 (by decide) (fun c_2 => ?_) (fun c_2 => ?_)
  · refine lv_sipush (v := 255) hx hb dX0_program_18 (by decide) ?_
    refine lv_istore (lv' := [(5, .int 255), (4, .int r_1), (0, .ref qf), (1, .int pg), (2, .int a), (3, .int v)]) hx hb dX0_program_21 hl (by decide) rfl (fun ls hl => ?_)
    refine lv_iload_n hx hb dX0_program_23 rfl (lv_at hl 3 rfl) ?_
    refine lv_bipush (v := 16) hx hb dX0_program_24 (by decide) ?_
    refine lv_imul hx hb dX0_program_26 ?_
    refine lv_iload_n hx hb dX0_program_27 rfl (lv_at hl 4 rfl) ?_
    refine lv_iadd hx hb dX0_program_28 ?_
    refine lv_istore (lv' := [(6, .int ((pg * 16) + a)), (5, .int 255), (4, .int r_1), (0, .ref qf), (1, .int pg), (2, .int a), (3, .int v)]) hx hb dX0_program_29 hl (by decide) rfl (fun ls hl => ?_)
    refine lv_iload hx hb dX0_program_31 (lv_at hl 0 rfl) ?_
    refine lv_if_lt (tgt := 62) hx hb dX0_program_33 (by decide) (fun c_3 => ?_) (fun c_3 => ?_)
    · refine lv_iload hx hb dX0_program_62 (lv_at hl 2 rfl) ?_
      refine lv_if_ne (tgt := 71) hx hb dX0_program_64 (by decide) (fun c_4 => ?_) (fun c_4 => ?_)
      · exact absurd c_2 c_4
      · refine lv_iconst (v := 1) hx hb dX0_program_67 (by decide) ?_
        refine lv_goto (tgt := 72) hx hb dX0_program_68 (by decide) ?_
        have hP9 := hP.sub (ws' := [(qf, .inr (0, [.ref qb, .ref qe, .int od_1, .int ot_1, .int tm_1])), (qb, .inl (cA, 32, .inl b_1)), (qe, .inl (cE, 2, .inl g_1))]) [0, 1, 2] rfl
        have hD9 := hD.sub (ws' := [(qf, .inr (0, [.ref qb, .ref qe, .int od_1, .int ot_1, .int tm_1])), (qb, .inl (cA, 32, .inl b_1)), (qe, .inl (cE, 2, .inl g_1))]) [0, 1, 2] (by decide) rfl
        have hK9 := hK.sub (tys' := [(cA, .int), (cE, .int)]) [0, 1] rfl
        exact W.zret (v := 1) hx hb hr (by first | rfl | decide) (fun t ht hW => ⟨⟨1, (b_1, g_1, od_1, ot_1, tm_1), rfl, (by first | (simp only [tt_prog, tt_pr, e_1, c_2, c_3, reduceIte, eq_self]; done) | (simp [tt_prog, tt_pr, e_1, c_2, c_3]; done)), by rw [ht]; exact hP9, va_K.moved hW.alike hK9, hD9⟩, hS.F ht⟩) hS.2.2 dX0_program_72
    · refine lv_iload hx hb dX0_program_36 (lv_at hl 0 rfl) ?_
      refine lv_aload_n hx hb dX0_program_38 rfl (lv_at hl 3 rfl) ?_
      refine va_get (D := (dC, dI)) (ci := 0) (v := .ref qb) (C := RX0) (T := TX0) (N := 5) hx hb hts (by decide +kernel) hown hK hP 0 rfl rfl 0 (by decide) (hts (.fieldLink RX0 9 "TornTryCounter$Flash" "bytes" "[I") (by decide +kernel)) (fun _ h9 => h9) rfl dX0_program_39 ?_
      refine va_alen (v := 32) hx hb hK hP 1 0 rfl rfl rfl dX0_program_42 ?_
      refine lv_icmp_ge (tgt := 62) hx hb dX0_program_43 (by decide) (fun c_5 => ?_) (fun c_5 => ?_)
      · refine lv_iload hx hb dX0_program_62 (lv_at hl 2 rfl) ?_
        refine lv_if_ne (tgt := 71) hx hb dX0_program_64 (by decide) (fun c_6 => ?_) (fun c_6 => ?_)
        · exact absurd c_2 c_6
        · refine lv_iconst (v := 1) hx hb dX0_program_67 (by decide) ?_
          refine lv_goto (tgt := 72) hx hb dX0_program_68 (by decide) ?_
          have hP9 := hP.sub (ws' := [(qf, .inr (0, [.ref qb, .ref qe, .int od_1, .int ot_1, .int tm_1])), (qb, .inl (cA, 32, .inl b_1)), (qe, .inl (cE, 2, .inl g_1))]) [0, 1, 2] rfl
          have hD9 := hD.sub (ws' := [(qf, .inr (0, [.ref qb, .ref qe, .int od_1, .int ot_1, .int tm_1])), (qb, .inl (cA, 32, .inl b_1)), (qe, .inl (cE, 2, .inl g_1))]) [0, 1, 2] (by decide) rfl
          have hK9 := hK.sub (tys' := [(cA, .int), (cE, .int)]) [0, 1] rfl
          exact W.zret (v := 1) hx hb hr (by first | rfl | decide) (fun t ht hW => ⟨⟨1, (b_1, g_1, od_1, ot_1, tm_1), rfl, (by first | (simp only [tt_prog, tt_pr, e_1, c_2, c_3, c_5, reduceIte, eq_self]; done) | (simp [tt_prog, tt_pr, e_1, c_2, c_3, c_5]; done)), by rw [ht]; exact hP9, va_K.moved hW.alike hK9, hD9⟩, hS.F ht⟩) hS.2.2 dX0_program_72
      · refine lv_aload_n hx hb dX0_program_46 rfl (lv_at hl 3 rfl) ?_
        refine va_get (D := (dC, dI)) (ci := 0) (v := .ref qb) (C := RX0) (T := TX0) (N := 5) hx hb hts (by decide +kernel) hown hK hP 0 rfl rfl 0 (by decide) (hts (.fieldLink RX0 9 "TornTryCounter$Flash" "bytes" "[I") (by decide +kernel)) (fun _ h9 => h9) rfl dX0_program_47 ?_
        refine lv_iload hx hb dX0_program_50 (lv_at hl 0 rfl) ?_
        refine lv_dup2_11 hx hb dX0_program_52 rfl rfl ?_
        refine va_iald hx hb hK hP 1 0 rfl rfl (tt_in32 c_3 c_5) dX0_program_53 ?_
        refine lv_iload_n hx hb dX0_program_54 rfl (lv_at hl 6 rfl) ?_
        refine lv_iload hx hb dX0_program_55 (lv_at hl 1 rfl) ?_
        refine lv_iconst (v := (-1)) hx hb dX0_program_57 (by decide) ?_
        refine lv_ixor hx hb dX0_program_58 ?_
        refine lv_ior hx hb dX0_program_59 ?_
        refine lv_iand hx hb dX0_program_60 ?_
        refine va_iast hx hb hK hP hD hS 1 0 rfl rfl (tt_in32 c_3 c_5) dX0_program_61 (fun H locs hP hD hS => ?_)
        have hP : va_P (dC, dI) ttCl [(qf, .inr (0, [.ref qb, .ref qe, .int od_1, .int ot_1, .int tm_1])), (qb, .inl (cA, 32, .inl (upd b_1 ((pg * 16) + a).toNatClampNeg ((b_1 ((pg * 16) + a).toNatClampNeg) &&& (v ||| (255 ^^^ (-1))))))), (qe, .inl (cE, 2, .inl g_1))] H := hP
        have hD : va_D A [(qf, .inr (0, [.ref qb, .ref qe, .int od_1, .int ot_1, .int tm_1])), (qb, .inl (cA, 32, .inl (upd b_1 ((pg * 16) + a).toNatClampNeg ((b_1 ((pg * 16) + a).toNatClampNeg) &&& (v ||| (255 ^^^ (-1))))))), (qe, .inl (cE, 2, .inl g_1))] := hD
        refine lv_iload hx hb dX0_program_62 (lv_at hl 2 rfl) ?_
        refine lv_if_ne (tgt := 71) hx hb dX0_program_64 (by decide) (fun c_7 => ?_) (fun c_7 => ?_)
        · exact absurd c_2 c_7
        · refine lv_iconst (v := 1) hx hb dX0_program_67 (by decide) ?_
          refine lv_goto (tgt := 72) hx hb dX0_program_68 (by decide) ?_
          have hP9 := hP.sub (ws' := [(qf, .inr (0, [.ref qb, .ref qe, .int od_1, .int ot_1, .int tm_1])), (qb, .inl (cA, 32, .inl (upd b_1 ((pg * 16) + a).toNatClampNeg ((b_1 ((pg * 16) + a).toNatClampNeg) &&& (v ||| (255 ^^^ (-1))))))), (qe, .inl (cE, 2, .inl g_1))]) [0, 1, 2] rfl
          have hD9 := hD.sub (ws' := [(qf, .inr (0, [.ref qb, .ref qe, .int od_1, .int ot_1, .int tm_1])), (qb, .inl (cA, 32, .inl (upd b_1 ((pg * 16) + a).toNatClampNeg ((b_1 ((pg * 16) + a).toNatClampNeg) &&& (v ||| (255 ^^^ (-1))))))), (qe, .inl (cE, 2, .inl g_1))]) [0, 1, 2] (by decide) rfl
          have hK9 := hK.sub (tys' := [(cA, .int), (cE, .int)]) [0, 1] rfl
          exact W.zret (v := 1) hx hb hr (by first | rfl | decide) (fun t ht hW => ⟨⟨1, (upd b_1 ((pg * 16) + a).toNatClampNeg ((b_1 ((pg * 16) + a).toNatClampNeg) &&& (v ||| (255 ^^^ (-1)))), g_1, od_1, ot_1, tm_1), rfl, (by first | (simp only [tt_prog, tt_pr, e_1, c_2, c_3, c_5, reduceIte, eq_self]; done) | (simp [tt_prog, tt_pr, e_1, c_2, c_3, c_5]; done)), by rw [ht]; exact hP9, va_K.moved hW.alike hK9, hD9⟩, hS.F ht⟩) hS.2.2 dX0_program_72
  · refine lv_aload_n hx hb dX0_program_11 rfl (lv_at hl 1 rfl) ?_
    refine va_get (D := (dC, dI)) (ci := 0) (v := .int tm_1) (C := RX0) (T := TX0) (N := 5) hx hb hts (by decide +kernel) hown hK hP 0 rfl rfl 4 (by decide) (hts (.fieldLink RX0 23 "TornTryCounter$Flash" "tearMask" "I") (by decide +kernel)) (fun _ h9 => h9) rfl dX0_program_12 ?_
    refine lv_goto (tgt := 21) hx hb dX0_program_15 (by decide) ?_
    refine lv_istore (lv' := [(5, .int tm_1), (4, .int r_1), (0, .ref qf), (1, .int pg), (2, .int a), (3, .int v)]) hx hb dX0_program_21 hl (by decide) rfl (fun ls hl => ?_)
    refine lv_iload_n hx hb dX0_program_23 rfl (lv_at hl 3 rfl) ?_
    refine lv_bipush (v := 16) hx hb dX0_program_24 (by decide) ?_
    refine lv_imul hx hb dX0_program_26 ?_
    refine lv_iload_n hx hb dX0_program_27 rfl (lv_at hl 4 rfl) ?_
    refine lv_iadd hx hb dX0_program_28 ?_
    refine lv_istore (lv' := [(6, .int ((pg * 16) + a)), (5, .int tm_1), (4, .int r_1), (0, .ref qf), (1, .int pg), (2, .int a), (3, .int v)]) hx hb dX0_program_29 hl (by decide) rfl (fun ls hl => ?_)
    refine lv_iload hx hb dX0_program_31 (lv_at hl 0 rfl) ?_
    refine lv_if_lt (tgt := 62) hx hb dX0_program_33 (by decide) (fun c_8 => ?_) (fun c_8 => ?_)
    · refine lv_iload hx hb dX0_program_62 (lv_at hl 2 rfl) ?_
      refine lv_if_ne (tgt := 71) hx hb dX0_program_64 (by decide) (fun c_9 => ?_) (fun c_9 => ?_)
      · refine lv_iconst (v := 0) hx hb dX0_program_71 (by decide) ?_
        have hP9 := hP.sub (ws' := [(qf, .inr (0, [.ref qb, .ref qe, .int od_1, .int ot_1, .int tm_1])), (qb, .inl (cA, 32, .inl b_1)), (qe, .inl (cE, 2, .inl g_1))]) [0, 1, 2] rfl
        have hD9 := hD.sub (ws' := [(qf, .inr (0, [.ref qb, .ref qe, .int od_1, .int ot_1, .int tm_1])), (qb, .inl (cA, 32, .inl b_1)), (qe, .inl (cE, 2, .inl g_1))]) [0, 1, 2] (by decide) rfl
        have hK9 := hK.sub (tys' := [(cA, .int), (cE, .int)]) [0, 1] rfl
        exact W.zret (v := 0) hx hb hr (by first | rfl | decide) (fun t ht hW => ⟨⟨0, (b_1, g_1, od_1, ot_1, tm_1), rfl, (by first | (simp only [tt_prog, tt_pr, e_1, c_2, c_8, reduceIte, eq_self]; done) | (simp [tt_prog, tt_pr, e_1, c_2, c_8]; done)), by rw [ht]; exact hP9, va_K.moved hW.alike hK9, hD9⟩, hS.F ht⟩) hS.2.2 dX0_program_72
      · exact absurd c_9 c_2
    · refine lv_iload hx hb dX0_program_36 (lv_at hl 0 rfl) ?_
      refine lv_aload_n hx hb dX0_program_38 rfl (lv_at hl 3 rfl) ?_
      refine va_get (D := (dC, dI)) (ci := 0) (v := .ref qb) (C := RX0) (T := TX0) (N := 5) hx hb hts (by decide +kernel) hown hK hP 0 rfl rfl 0 (by decide) (hts (.fieldLink RX0 9 "TornTryCounter$Flash" "bytes" "[I") (by decide +kernel)) (fun _ h9 => h9) rfl dX0_program_39 ?_
      refine va_alen (v := 32) hx hb hK hP 1 0 rfl rfl rfl dX0_program_42 ?_
      refine lv_icmp_ge (tgt := 62) hx hb dX0_program_43 (by decide) (fun c_10 => ?_) (fun c_10 => ?_)
      · refine lv_iload hx hb dX0_program_62 (lv_at hl 2 rfl) ?_
        refine lv_if_ne (tgt := 71) hx hb dX0_program_64 (by decide) (fun c_11 => ?_) (fun c_11 => ?_)
        · refine lv_iconst (v := 0) hx hb dX0_program_71 (by decide) ?_
          have hP9 := hP.sub (ws' := [(qf, .inr (0, [.ref qb, .ref qe, .int od_1, .int ot_1, .int tm_1])), (qb, .inl (cA, 32, .inl b_1)), (qe, .inl (cE, 2, .inl g_1))]) [0, 1, 2] rfl
          have hD9 := hD.sub (ws' := [(qf, .inr (0, [.ref qb, .ref qe, .int od_1, .int ot_1, .int tm_1])), (qb, .inl (cA, 32, .inl b_1)), (qe, .inl (cE, 2, .inl g_1))]) [0, 1, 2] (by decide) rfl
          have hK9 := hK.sub (tys' := [(cA, .int), (cE, .int)]) [0, 1] rfl
          exact W.zret (v := 0) hx hb hr (by first | rfl | decide) (fun t ht hW => ⟨⟨0, (b_1, g_1, od_1, ot_1, tm_1), rfl, (by first | (simp only [tt_prog, tt_pr, e_1, c_2, c_8, c_10, reduceIte, eq_self]; done) | (simp [tt_prog, tt_pr, e_1, c_2, c_8, c_10]; done)), by rw [ht]; exact hP9, va_K.moved hW.alike hK9, hD9⟩, hS.F ht⟩) hS.2.2 dX0_program_72
        · exact absurd c_11 c_2
      · refine lv_aload_n hx hb dX0_program_46 rfl (lv_at hl 3 rfl) ?_
        refine va_get (D := (dC, dI)) (ci := 0) (v := .ref qb) (C := RX0) (T := TX0) (N := 5) hx hb hts (by decide +kernel) hown hK hP 0 rfl rfl 0 (by decide) (hts (.fieldLink RX0 9 "TornTryCounter$Flash" "bytes" "[I") (by decide +kernel)) (fun _ h9 => h9) rfl dX0_program_47 ?_
        refine lv_iload hx hb dX0_program_50 (lv_at hl 0 rfl) ?_
        refine lv_dup2_11 hx hb dX0_program_52 rfl rfl ?_
        refine va_iald hx hb hK hP 1 0 rfl rfl (tt_in32 c_8 c_10) dX0_program_53 ?_
        refine lv_iload_n hx hb dX0_program_54 rfl (lv_at hl 6 rfl) ?_
        refine lv_iload hx hb dX0_program_55 (lv_at hl 1 rfl) ?_
        refine lv_iconst (v := (-1)) hx hb dX0_program_57 (by decide) ?_
        refine lv_ixor hx hb dX0_program_58 ?_
        refine lv_ior hx hb dX0_program_59 ?_
        refine lv_iand hx hb dX0_program_60 ?_
        refine va_iast hx hb hK hP hD hS 1 0 rfl rfl (tt_in32 c_8 c_10) dX0_program_61 (fun H locs hP hD hS => ?_)
        have hP : va_P (dC, dI) ttCl [(qf, .inr (0, [.ref qb, .ref qe, .int od_1, .int ot_1, .int tm_1])), (qb, .inl (cA, 32, .inl (upd b_1 ((pg * 16) + a).toNatClampNeg ((b_1 ((pg * 16) + a).toNatClampNeg) &&& (v ||| (tm_1 ^^^ (-1))))))), (qe, .inl (cE, 2, .inl g_1))] H := hP
        have hD : va_D A [(qf, .inr (0, [.ref qb, .ref qe, .int od_1, .int ot_1, .int tm_1])), (qb, .inl (cA, 32, .inl (upd b_1 ((pg * 16) + a).toNatClampNeg ((b_1 ((pg * 16) + a).toNatClampNeg) &&& (v ||| (tm_1 ^^^ (-1))))))), (qe, .inl (cE, 2, .inl g_1))] := hD
        refine lv_iload hx hb dX0_program_62 (lv_at hl 2 rfl) ?_
        refine lv_if_ne (tgt := 71) hx hb dX0_program_64 (by decide) (fun c_12 => ?_) (fun c_12 => ?_)
        · refine lv_iconst (v := 0) hx hb dX0_program_71 (by decide) ?_
          have hP9 := hP.sub (ws' := [(qf, .inr (0, [.ref qb, .ref qe, .int od_1, .int ot_1, .int tm_1])), (qb, .inl (cA, 32, .inl (upd b_1 ((pg * 16) + a).toNatClampNeg ((b_1 ((pg * 16) + a).toNatClampNeg) &&& (v ||| (tm_1 ^^^ (-1))))))), (qe, .inl (cE, 2, .inl g_1))]) [0, 1, 2] rfl
          have hD9 := hD.sub (ws' := [(qf, .inr (0, [.ref qb, .ref qe, .int od_1, .int ot_1, .int tm_1])), (qb, .inl (cA, 32, .inl (upd b_1 ((pg * 16) + a).toNatClampNeg ((b_1 ((pg * 16) + a).toNatClampNeg) &&& (v ||| (tm_1 ^^^ (-1))))))), (qe, .inl (cE, 2, .inl g_1))]) [0, 1, 2] (by decide) rfl
          have hK9 := hK.sub (tys' := [(cA, .int), (cE, .int)]) [0, 1] rfl
          exact W.zret (v := 0) hx hb hr (by first | rfl | decide) (fun t ht hW => ⟨⟨0, (upd b_1 ((pg * 16) + a).toNatClampNeg ((b_1 ((pg * 16) + a).toNatClampNeg) &&& (v ||| (tm_1 ^^^ (-1)))), g_1, od_1, ot_1, tm_1), rfl, (by first | (simp only [tt_prog, tt_pr, e_1, c_2, c_8, c_10, reduceIte, eq_self]; done) | (simp [tt_prog, tt_pr, e_1, c_2, c_8, c_10]; done)), by rw [ht]; exact hP9, va_K.moved hW.alike hK9, hD9⟩, hS.F ht⟩) hS.2.2 dX0_program_72
        · exact absurd c_12 c_2
set_option maxHeartbeats 4000000 in
set_option maxRecDepth 100000 in
theorem c_F_tearLater (l : Launch) (dC : Nat → ClassId) (dI : Nat → Nat → Nat) (cA cE : ClassId) (qf qb qe : Nat) (sz : Nat) (b g : Nat → Int32) (od ot tm : Int32) (n1 m1 : Int32) : Met l yX0_tearLater wsX0_tearLater ({ frames := 0, cells := 0, slots := 0, locals := 0 }) (va_Pc [.ref qf, .int n1, .int m1] (fun U => U.heap.size = sz ∧ va_P (dC, dI) ttCl [(qf, .inr (0, [.ref qb, .ref qe, .int od, .int ot, .int tm])), (qb, .inl (cA, 32, .inl b)), (qe, .inl (cE, 2, .inl g))] U.heap ∧ va_K (dC, dI) ttCl [(cA, .int), (cE, .int)] U ∧ va_D (fun _ => True) [(qf, .inr (0, [.ref qb, .ref qe, .int od, .int ot, .int tm])), (qb, .inl (cA, 32, .inl b)), (qe, .inl (cE, 2, .inl g))])) (va_Qv (fun (u : tt_F) => (b, g, od, n1, m1) = u) (fun (u : tt_F) (t : State) => at_F dC dI cA cE (va_A [(qf, .inr (0, [.ref qb, .ref qe, .int od, .int ot, .int tm])), (qb, .inl (cA, 32, .inl b)), (qe, .inl (cE, 2, .inl g))] sz) qf qb qe u t) (va_A [(qf, .inr (0, [.ref qb, .ref qe, .int od, .int ot, .int tm])), (qb, .inl (cA, 32, .inl b)), (qe, .inl (cE, 2, .inl g))] sz)) 0 0 (va_A [(qf, .inr (0, [.ref qb, .ref qe, .int od, .int ot, .int tm])), (qb, .inl (cA, 32, .inl b)), (qe, .inl (cE, 2, .inl g))] sz) := by
  refine Met.ofW (cc := cX0_tearLater) (maxL := 3) (ret := none) (by decide) rfl ?_
  intro p e s m args below meth c s₁ B hml hv
  obtain ⟨rfl, hsz, hP, hK, hD0⟩ := hv
  have hx := B.exec
  have hb := B.bytes
  have hr := B.returns
  have hts := atoms_spec (ws := wsX0_tearLater) B.pre
  have hown : s.vm.findClass RX0 = some m.cls := findClass_of_methodNamed B.named
  have hlocks := B.notSynchronized
  subst hsz
  have hD := hD0.self (sz := s.heap.size)
  generalize hAe : va_A [(qf, .inr (0, [.ref qb, .ref qe, .int od, .int ot, .int tm])), (qb, .inl (cA, 32, .inl b)), (qe, .inl (cE, 2, .inl g))] s.heap.size = A at hD ⊢
  have hA : ∀ q : Nat, s.heap.size ≤ q → A q := fun q h => by rw [← hAe]; exact Or.inr h
  have hS : va_S A s.heap s.heap [] := va_S.rf
  have hP : va_P (dC, dI) ttCl [(qf, .inr (0, [.ref qb, .ref qe, .int od, .int ot, .int tm])), (qb, .inl (cA, 32, .inl b)), (qe, .inl (cE, 2, .inl g))] s.heap := hP
  have hl := lv_entry ([.ref qf, .int n1, .int m1]) (n := 3) (Nat.le_of_ble_eq_true rfl)
  rw [lg_entry_eq]
  generalize (lg_sl ([.ref qf, .int n1, .int m1]) ++ List.replicate (3 - (lg_sl ([.ref qf, .int n1, .int m1])).length) Slot.unset).toArray = ls at hl ⊢
  have hl : lv_has ls 3 [(0, .ref qf), (1, .int n1), (2, .int m1)] := hl
  refine lv_aload_n hx hb dX0_tearLater_0 rfl (lv_at hl 0 rfl) ?_
  refine lv_iload_n hx hb dX0_tearLater_1 rfl (lv_at hl 1 rfl) ?_
  refine va_put (D := (dC, dI)) (ci := 0) (v := .int n1) (ty := .int) (C := RX0) (T := TX0) (N := 5) hx hb hts (by decide +kernel) tyX0 tyX0_ok nmX0 hown hK hP hD hS 0 rfl rfl 3 (by decide) (hts (.fieldLink RX0 20 "TornTryCounter$Flash" "operationsToTear" "I") (by decide +kernel)) (fun _ h9 => h9) rfl (by decide +kernel) rfl rfl (Nat.le_of_ble_eq_true rfl) dX0_tearLater_2 (fun H locs hP hD hS => ?_)
  have hP : va_P (dC, dI) ttCl [(qf, .inr (0, [.ref qb, .ref qe, .int od, .int n1, .int tm])), (qb, .inl (cA, 32, .inl b)), (qe, .inl (cE, 2, .inl g))] H := hP
  have hD : va_D A [(qf, .inr (0, [.ref qb, .ref qe, .int od, .int n1, .int tm])), (qb, .inl (cA, 32, .inl b)), (qe, .inl (cE, 2, .inl g))] := hD
  refine lv_aload_n hx hb dX0_tearLater_5 rfl (lv_at hl 0 rfl) ?_
  refine lv_iload_n hx hb dX0_tearLater_6 rfl (lv_at hl 2 rfl) ?_
  refine va_put (D := (dC, dI)) (ci := 0) (v := .int m1) (ty := .int) (C := RX0) (T := TX0) (N := 5) hx hb hts (by decide +kernel) tyX0 tyX0_ok nmX0 hown hK hP hD hS 0 rfl rfl 4 (by decide) (hts (.fieldLink RX0 23 "TornTryCounter$Flash" "tearMask" "I") (by decide +kernel)) (fun _ h9 => h9) rfl (by decide +kernel) rfl rfl (Nat.le_of_ble_eq_true rfl) dX0_tearLater_7 (fun H locs hP hD hS => ?_)
  have hP : va_P (dC, dI) ttCl [(qf, .inr (0, [.ref qb, .ref qe, .int od, .int n1, .int m1])), (qb, .inl (cA, 32, .inl b)), (qe, .inl (cE, 2, .inl g))] H := hP
  have hD : va_D A [(qf, .inr (0, [.ref qb, .ref qe, .int od, .int n1, .int m1])), (qb, .inl (cA, 32, .inl b)), (qe, .inl (cE, 2, .inl g))] := hD
  have hP9 := hP.sub (ws' := [(qf, .inr (0, [.ref qb, .ref qe, .int od, .int n1, .int m1])), (qb, .inl (cA, 32, .inl b)), (qe, .inl (cE, 2, .inl g))]) [0, 1, 2] rfl
  have hD9 := hD.sub (ws' := [(qf, .inr (0, [.ref qb, .ref qe, .int od, .int n1, .int m1])), (qb, .inl (cA, 32, .inl b)), (qe, .inl (cE, 2, .inl g))]) [0, 1, 2] (by decide) rfl
  have hK9 := hK.sub (tys' := [(cA, .int), (cE, .int)]) [0, 1] rfl
  exact W.vret hx hb hr (fun t ht hW => ⟨⟨(b, g, od, n1, m1), rfl, rfl, by rw [ht]; exact hP9, va_K.moved hW.alike hK9, hD9⟩, hS.F ht⟩) hS.2.2 dX0_tearLater_10
set_option maxHeartbeats 4000000 in
set_option maxRecDepth 100000 in
theorem c_F_operationCount (l : Launch) (dC : Nat → ClassId) (dI : Nat → Nat → Nat) (cA cE : ClassId) (qf qb qe : Nat) (sz : Nat) (b g : Nat → Int32) (od ot tm : Int32) : Met l yX0_operationCount wsX0_operationCount ({ frames := 0, cells := 0, slots := 0, locals := 0 }) (va_Pc [.ref qf] (fun U => U.heap.size = sz ∧ va_P (dC, dI) ttCl [(qf, .inr (0, [.ref qb, .ref qe, .int od, .int ot, .int tm])), (qb, .inl (cA, 32, .inl b)), (qe, .inl (cE, 2, .inl g))] U.heap ∧ va_K (dC, dI) ttCl [(cA, .int), (cE, .int)] U ∧ va_D (fun _ => True) [(qf, .inr (0, [.ref qb, .ref qe, .int od, .int ot, .int tm])), (qb, .inl (cA, 32, .inl b)), (qe, .inl (cE, 2, .inl g))])) (va_Qi (fun (r : Int32) (_ : Unit) => r = od) (fun (_ : Unit) (t : State) => at_F dC dI cA cE (va_A [(qf, .inr (0, [.ref qb, .ref qe, .int od, .int ot, .int tm])), (qb, .inl (cA, 32, .inl b)), (qe, .inl (cE, 2, .inl g))] sz) qf qb qe (b, g, od, ot, tm) t) (va_A [(qf, .inr (0, [.ref qb, .ref qe, .int od, .int ot, .int tm])), (qb, .inl (cA, 32, .inl b)), (qe, .inl (cE, 2, .inl g))] sz)) 0 0 (va_A [(qf, .inr (0, [.ref qb, .ref qe, .int od, .int ot, .int tm])), (qb, .inl (cA, 32, .inl b)), (qe, .inl (cE, 2, .inl g))] sz) := by
  refine Met.ofW (cc := cX0_operationCount) (maxL := 1) (ret := (some .int)) (by decide) rfl ?_
  intro p e s m args below meth c s₁ B hml hv
  obtain ⟨rfl, hsz, hP, hK, hD0⟩ := hv
  have hx := B.exec
  have hb := B.bytes
  have hr := B.returns
  have hts := atoms_spec (ws := wsX0_operationCount) B.pre
  have hown : s.vm.findClass RX0 = some m.cls := findClass_of_methodNamed B.named
  have hlocks := B.notSynchronized
  subst hsz
  have hD := hD0.self (sz := s.heap.size)
  generalize hAe : va_A [(qf, .inr (0, [.ref qb, .ref qe, .int od, .int ot, .int tm])), (qb, .inl (cA, 32, .inl b)), (qe, .inl (cE, 2, .inl g))] s.heap.size = A at hD ⊢
  have hA : ∀ q : Nat, s.heap.size ≤ q → A q := fun q h => by rw [← hAe]; exact Or.inr h
  have hS : va_S A s.heap s.heap [] := va_S.rf
  have hP : va_P (dC, dI) ttCl [(qf, .inr (0, [.ref qb, .ref qe, .int od, .int ot, .int tm])), (qb, .inl (cA, 32, .inl b)), (qe, .inl (cE, 2, .inl g))] s.heap := hP
  have hl := lv_entry ([.ref qf]) (n := 1) (Nat.le_of_ble_eq_true rfl)
  rw [lg_entry_eq]
  generalize (lg_sl ([.ref qf]) ++ List.replicate (1 - (lg_sl ([.ref qf])).length) Slot.unset).toArray = ls at hl ⊢
  have hl : lv_has ls 1 [(0, .ref qf)] := hl
  refine lv_aload_n hx hb dX0_operationCount_0 rfl (lv_at hl 0 rfl) ?_
  refine va_get (D := (dC, dI)) (ci := 0) (v := .int od) (C := RX0) (T := TX0) (N := 5) hx hb hts (by decide +kernel) hown hK hP 0 rfl rfl 2 (by decide) (hts (.fieldLink RX0 16 "TornTryCounter$Flash" "operationsDone" "I") (by decide +kernel)) (fun _ h9 => h9) rfl dX0_operationCount_1 ?_
  have hP9 := hP.sub (ws' := [(qf, .inr (0, [.ref qb, .ref qe, .int od, .int ot, .int tm])), (qb, .inl (cA, 32, .inl b)), (qe, .inl (cE, 2, .inl g))]) [0, 1, 2] rfl
  have hD9 := hD.sub (ws' := [(qf, .inr (0, [.ref qb, .ref qe, .int od, .int ot, .int tm])), (qb, .inl (cA, 32, .inl b)), (qe, .inl (cE, 2, .inl g))]) [0, 1, 2] (by decide) rfl
  have hK9 := hK.sub (tys' := [(cA, .int), (cE, .int)]) [0, 1] rfl
  exact W.iret (v := od) hx hb hr (fun t ht hW => ⟨⟨od, (), rfl, rfl, by rw [ht]; exact hP9, va_K.moved hW.alike hK9, hD9⟩, hS.F ht⟩) hS.2.2 dX0_operationCount_4
set_option maxHeartbeats 4000000 in
set_option maxRecDepth 100000 in
theorem c_F_eraseCount (l : Launch) (dC : Nat → ClassId) (dI : Nat → Nat → Nat) (cA cE : ClassId) (qf qb qe : Nat) (sz : Nat) (b g : Nat → Int32) (od ot tm : Int32) (pg : Int32) : Met l yX0_eraseCount wsX0_eraseCount ({ frames := 1, cells := 0, slots := 0, locals := 20 }) (va_Pc [.ref qf, .int pg] (fun U => U.heap.size = sz ∧ va_P (dC, dI) ttCl [(qf, .inr (0, [.ref qb, .ref qe, .int od, .int ot, .int tm])), (qb, .inl (cA, 32, .inl b)), (qe, .inl (cE, 2, .inl g))] U.heap ∧ va_K (dC, dI) ttCl [(cA, .int), (cE, .int)] U ∧ va_D (fun _ => True) [(qf, .inr (0, [.ref qb, .ref qe, .int od, .int ot, .int tm])), (qb, .inl (cA, 32, .inl b)), (qe, .inl (cE, 2, .inl g))])) (va_Qi (fun (r : Int32) (_ : Unit) => r = tt_ec g pg) (fun (_ : Unit) (t : State) => at_F dC dI cA cE (va_A [(qf, .inr (0, [.ref qb, .ref qe, .int od, .int ot, .int tm])), (qb, .inl (cA, 32, .inl b)), (qe, .inl (cE, 2, .inl g))] sz) qf qb qe (b, g, od, ot, tm) t) (va_A [(qf, .inr (0, [.ref qb, .ref qe, .int od, .int ot, .int tm])), (qb, .inl (cA, 32, .inl b)), (qe, .inl (cE, 2, .inl g))] sz)) 0 0 (va_A [(qf, .inr (0, [.ref qb, .ref qe, .int od, .int ot, .int tm])), (qb, .inl (cA, 32, .inl b)), (qe, .inl (cE, 2, .inl g))] sz) := by
  refine Met.ofW (cc := cX0_eraseCount) (maxL := 2) (ret := (some .int)) (by decide) rfl ?_
  intro p e s m args below meth c s₁ B hml hv
  obtain ⟨rfl, hsz, hP, hK, hD0⟩ := hv
  have hx := B.exec
  have hb := B.bytes
  have hr := B.returns
  have hts := atoms_spec (ws := wsX0_eraseCount) B.pre
  have hown : s.vm.findClass RX0 = some m.cls := findClass_of_methodNamed B.named
  have hlocks := B.notSynchronized
  subst hsz
  have hD := hD0.self (sz := s.heap.size)
  generalize hAe : va_A [(qf, .inr (0, [.ref qb, .ref qe, .int od, .int ot, .int tm])), (qb, .inl (cA, 32, .inl b)), (qe, .inl (cE, 2, .inl g))] s.heap.size = A at hD ⊢
  have hA : ∀ q : Nat, s.heap.size ≤ q → A q := fun q h => by rw [← hAe]; exact Or.inr h
  have hS : va_S A s.heap s.heap [] := va_S.rf
  have hP : va_P (dC, dI) ttCl [(qf, .inr (0, [.ref qb, .ref qe, .int od, .int ot, .int tm])), (qb, .inl (cA, 32, .inl b)), (qe, .inl (cE, 2, .inl g))] s.heap := hP
  have hl := lv_entry ([.ref qf, .int pg]) (n := 2) (Nat.le_of_ble_eq_true rfl)
  rw [lg_entry_eq]
  generalize (lg_sl ([.ref qf, .int pg]) ++ List.replicate (2 - (lg_sl ([.ref qf, .int pg])).length) Slot.unset).toArray = ls at hl ⊢
  have hl : lv_has ls 2 [(0, .ref qf), (1, .int pg)] := hl
  refine lv_iload_n hx hb dX0_eraseCount_0 rfl (lv_at hl 1 rfl) ?_
  have hPc := hP.sub (ws' := []) [] rfl
  have hDc := hD.sub (ws' := []) [] (by decide) rfl
  have hKc := hK.sub (tys' := []) [] rfl
  have hFc := va_free (wc := []) hD hS hA [] rfl
  refine va_calli (va_runS (As := [.int pg]) (rest := []) ⟨hx, hb, hml, hown, hts⟩ (c_F_isPage l dC dI s.heap.size pg) (va_cwS 1 hts gX0_eraseCount_X0_isPage rfl rfl rfl (by decide +kernel) ⟨Nat.le_of_ble_eq_true rfl, Nat.le_of_ble_eq_true rfl⟩) ⟨fun a U g mk q => by obtain ⟨q0, q1, qP, qK, qD⟩ := q; exact ⟨q0, q1, qP, va_K.moved (u := U) (U := U.calling g mk a) (Vm.Alike.refl U.vm) qK, qD⟩, fun U hU hW => ⟨rfl, by rw [hU], by rw [hU]; exact hPc, va_K.moved hW.alike hKc, hDc.weaken (fun _ _ _ _ => trivial)⟩⟩ rfl rfl hl.1 rfl (lv_room (Nat.le_of_ble_eq_true rfl)) dX0_eraseCount_1 ⟨(Nat.zero_le _), (Nat.zero_le _)⟩) hS (fun q _ h => hFc q h) hFc (fun r_1 u t H locs ht hvm hw hB hz1 hk1 hS => ?_)
  have hw : tt_ip pg = r_1 := hw.symm
  subst hw
  obtain ⟨hP1, hK1, hD1⟩ := hB
  rw [ht] at hP1
  obtain ⟨hP, hD⟩ := va_join (wr := [(qf, .inr (0, [.ref qb, .ref qe, .int od, .int ot, .int tm])), (qb, .inl (cA, 32, .inl b)), (qe, .inl (cE, 2, .inl g))]) (w1 := []) hP hD [] [0, 1, 2] rfl rfl (by decide) (by decide) hk1 hFc hP1 hD1
  have hP : va_P (dC, dI) ttCl [(qf, .inr (0, [.ref qb, .ref qe, .int od, .int ot, .int tm])), (qb, .inl (cA, 32, .inl b)), (qe, .inl (cE, 2, .inl g))] H := hP
  have hD : va_D A [(qf, .inr (0, [.ref qb, .ref qe, .int od, .int ot, .int tm])), (qb, .inl (cA, 32, .inl b)), (qe, .inl (cE, 2, .inl g))] := hD
  refine lv_if_eq (tgt := 16) hx hb dX0_eraseCount_4 (by decide) (fun c_2 => ?_) (fun c_2 => ?_)
  · refine lv_iconst (v := 0) hx hb dX0_eraseCount_16 (by decide) ?_
    have hP9 := hP.sub (ws' := [(qf, .inr (0, [.ref qb, .ref qe, .int od, .int ot, .int tm])), (qb, .inl (cA, 32, .inl b)), (qe, .inl (cE, 2, .inl g))]) [0, 1, 2] rfl
    have hD9 := hD.sub (ws' := [(qf, .inr (0, [.ref qb, .ref qe, .int od, .int ot, .int tm])), (qb, .inl (cA, 32, .inl b)), (qe, .inl (cE, 2, .inl g))]) [0, 1, 2] (by decide) rfl
    have hK9 := hK.sub (tys' := [(cA, .int), (cE, .int)]) [0, 1] rfl
    exact W.iret (v := 0) hx hb hr (fun t ht hW => ⟨⟨0, (), rfl, (by first | (simp only [tt_ec, c_2, reduceIte, eq_self]; done) | (simp [tt_ec, c_2]; done)), by rw [ht]; exact hP9, va_K.moved hW.alike hK9, hD9⟩, hS.F ht⟩) hS.2.2 dX0_eraseCount_17
  · refine lv_aload_n hx hb dX0_eraseCount_7 rfl (lv_at hl 0 rfl) ?_
    refine va_get (D := (dC, dI)) (ci := 0) (v := .ref qe) (C := RX0) (T := TX0) (N := 5) hx hb hts (by decide +kernel) hown hK hP 0 rfl rfl 1 (by decide) (hts (.fieldLink RX0 13 "TornTryCounter$Flash" "erases" "[I") (by decide +kernel)) (fun _ h9 => h9) rfl dX0_eraseCount_8 ?_
    refine lv_iload_n hx hb dX0_eraseCount_11 rfl (lv_at hl 1 rfl) ?_
    refine va_iald hx hb hK hP 2 1 rfl rfl (tt_inP c_2) dX0_eraseCount_12 ?_
    refine lv_goto (tgt := 17) hx hb dX0_eraseCount_13 (by decide) ?_
    have hP9 := hP.sub (ws' := [(qf, .inr (0, [.ref qb, .ref qe, .int od, .int ot, .int tm])), (qb, .inl (cA, 32, .inl b)), (qe, .inl (cE, 2, .inl g))]) [0, 1, 2] rfl
    have hD9 := hD.sub (ws' := [(qf, .inr (0, [.ref qb, .ref qe, .int od, .int ot, .int tm])), (qb, .inl (cA, 32, .inl b)), (qe, .inl (cE, 2, .inl g))]) [0, 1, 2] (by decide) rfl
    have hK9 := hK.sub (tys' := [(cA, .int), (cE, .int)]) [0, 1] rfl
    exact W.iret (v := g pg.toNatClampNeg) hx hb hr (fun t ht hW => ⟨⟨g pg.toNatClampNeg, (), rfl, (by first | (simp only [tt_ec, c_2, reduceIte, eq_self]; done) | (simp [tt_ec, c_2]; done)), by rw [ht]; exact hP9, va_K.moved hW.alike hK9, hD9⟩, hS.F ht⟩) hS.2.2 dX0_eraseCount_17
end
section
set_option maxHeartbeats 4000000 in
set_option maxRecDepth 100000 in
theorem c_F_erase (l : Launch) (dC : Nat → ClassId) (dI : Nat → Nat → Nat) (cA cE : ClassId) (qf qb qe : Nat) (sz : Nat) (b g : Nat → Int32) (od ot tm : Int32) (pg : Int32) : Met l yX0_erase wsX0_erase ({ frames := 1, cells := 0, slots := 0, locals := 20 }) (va_Pc [.ref qf, .int pg] (fun U => U.heap.size = sz ∧ va_P (dC, dI) ttCl [(qf, .inr (0, [.ref qb, .ref qe, .int od, .int ot, .int tm])), (qb, .inl (cA, 32, .inl b)), (qe, .inl (cE, 2, .inl g))] U.heap ∧ va_K (dC, dI) ttCl [(cA, .int), (cE, .int)] U ∧ va_D (fun _ => True) [(qf, .inr (0, [.ref qb, .ref qe, .int od, .int ot, .int tm])), (qb, .inl (cA, 32, .inl b)), (qe, .inl (cE, 2, .inl g))])) (va_Qi (fun (r : Int32) (u : tt_F) => tt_erase (b, g, od, ot, tm) pg = (r, u)) (fun (u : tt_F) (t : State) => at_F dC dI cA cE (va_A [(qf, .inr (0, [.ref qb, .ref qe, .int od, .int ot, .int tm])), (qb, .inl (cA, 32, .inl b)), (qe, .inl (cE, 2, .inl g))] sz) qf qb qe u t) (va_A [(qf, .inr (0, [.ref qb, .ref qe, .int od, .int ot, .int tm])), (qb, .inl (cA, 32, .inl b)), (qe, .inl (cE, 2, .inl g))] sz)) 0 0 (va_A [(qf, .inr (0, [.ref qb, .ref qe, .int od, .int ot, .int tm])), (qb, .inl (cA, 32, .inl b)), (qe, .inl (cE, 2, .inl g))] sz) := by
  refine Met.ofW (cc := cX0_erase) (maxL := 5) (ret := (some .boolean)) (by decide) rfl ?_
  intro p e s m args below meth c s₁ B hml hv
  obtain ⟨rfl, hsz, hP, hK, hD0⟩ := hv
  have hx := B.exec
  have hb := B.bytes
  have hr := B.returns
  have hts := atoms_spec (ws := wsX0_erase) B.pre
  have hown : s.vm.findClass RX0 = some m.cls := findClass_of_methodNamed B.named
  have hlocks := B.notSynchronized
  subst hsz
  have hD := hD0.self (sz := s.heap.size)
  generalize hAe : va_A [(qf, .inr (0, [.ref qb, .ref qe, .int od, .int ot, .int tm])), (qb, .inl (cA, 32, .inl b)), (qe, .inl (cE, 2, .inl g))] s.heap.size = A at hD ⊢
  have hA : ∀ q : Nat, s.heap.size ≤ q → A q := fun q h => by rw [← hAe]; exact Or.inr h
  have hS : va_S A s.heap s.heap [] := va_S.rf
  have hP : va_P (dC, dI) ttCl [(qf, .inr (0, [.ref qb, .ref qe, .int od, .int ot, .int tm])), (qb, .inl (cA, 32, .inl b)), (qe, .inl (cE, 2, .inl g))] s.heap := hP
  have hl := lv_entry ([.ref qf, .int pg]) (n := 5) (Nat.le_of_ble_eq_true rfl)
  rw [lg_entry_eq]
  generalize (lg_sl ([.ref qf, .int pg]) ++ List.replicate (5 - (lg_sl ([.ref qf, .int pg])).length) Slot.unset).toArray = ls at hl ⊢
  have hl : lv_has ls 5 [(0, .ref qf), (1, .int pg)] := hl
  refine lv_aload_n hx hb dX0_erase_0 rfl (lv_at hl 0 rfl) ?_
  have hPc := hP.sub (ws' := [(qf, .inr (0, [.ref qb, .ref qe, .int od, .int ot, .int tm])), (qb, .inl (cA, 32, .inl b)), (qe, .inl (cE, 2, .inl g))]) [0, 1, 2] rfl
  have hDc := hD.sub (ws' := [(qf, .inr (0, [.ref qb, .ref qe, .int od, .int ot, .int tm])), (qb, .inl (cA, 32, .inl b)), (qe, .inl (cE, 2, .inl g))]) [0, 1, 2] (by decide) rfl
  have hKc := hK.sub (tys' := [(cA, .int), (cE, .int)]) [0, 1] rfl
  have hFc := va_free (wc := [(qf, .inr (0, [.ref qb, .ref qe, .int od, .int ot, .int tm])), (qb, .inl (cA, 32, .inl b)), (qe, .inl (cE, 2, .inl g))]) hD hS hA [0, 1, 2] rfl
  refine va_calli (va_runV (As := []) (rest := []) ⟨hx, hb, hml, hown, hts⟩ (c_F_countOperation l dC dI cA cE qf qb qe s.heap.size b g od ot tm) (cwV 0 hts gX0_erase_X0_countOperation rfl rfl rfl (by decide +kernel) ⟨Nat.le_of_ble_eq_true rfl, Nat.le_of_ble_eq_true rfl⟩) ⟨fun a U g mk q => by obtain ⟨q0, q1, qP, qK, qD⟩ := q; exact ⟨q0, q1, qP, va_K.moved (u := U) (U := U.calling g mk a) (Vm.Alike.refl U.vm) qK, qD⟩, va_recv hKc hPc (ci := 0) (q0 := 0) rfl rfl, fun U hU hW => ⟨rfl, by rw [hU], by rw [hU]; exact hPc, va_K.moved hW.alike hKc, hDc.weaken (fun _ _ _ _ => trivial)⟩⟩ rfl rfl hl.1 rfl (lv_room (Nat.le_of_ble_eq_true rfl)) dX0_erase_1 ⟨(Nat.zero_le _), (Nat.zero_le _)⟩) hS (fun q _ h => hFc q h) hFc (fun r_1 u t H locs ht hvm hw hB hz1 hk1 hS => ?_)
  obtain ⟨b_1, g_1, od_1, ot_1, tm_1⟩ := u
  obtain ⟨hP1, hK1, hD1⟩ := hB
  have e_1 : tt_cnt (b, g, od, ot, tm) = (r_1, (b_1, g_1, od_1, ot_1, tm_1)) := hw
  rw [ht] at hP1
  obtain ⟨hP, hD⟩ := va_join (wr := []) (w1 := [(qf, .inr (0, [.ref qb, .ref qe, .int od_1, .int ot_1, .int tm_1])), (qb, .inl (cA, 32, .inl b_1)), (qe, .inl (cE, 2, .inl g_1))]) hP hD [0, 1, 2] [] rfl rfl (by decide) (by decide) hk1 hFc hP1 hD1
  have hP : va_P (dC, dI) ttCl [(qf, .inr (0, [.ref qb, .ref qe, .int od_1, .int ot_1, .int tm_1])), (qb, .inl (cA, 32, .inl b_1)), (qe, .inl (cE, 2, .inl g_1))] H := hP
  have hD : va_D A [(qf, .inr (0, [.ref qb, .ref qe, .int od_1, .int ot_1, .int tm_1])), (qb, .inl (cA, 32, .inl b_1)), (qe, .inl (cE, 2, .inl g_1))] := hD
  refine lv_istore_n (lv' := [(2, .int r_1), (0, .ref qf), (1, .int pg)]) hx hb dX0_erase_4 rfl hl (by decide) rfl (fun ls hl => ?_)
  refine lv_iload_n hx hb dX0_erase_5 rfl (lv_at hl 0 rfl) ?_
  refine lv_if_eq (tgt := 16) hx hb dX0_erase_6 (by decide) (fun c_2 => ?_) (fun c_2 => ?_)
  · refine lv_sipush (v := 255) hx hb dX0_erase_16 (by decide) ?_
    refine lv_istore_n (lv' := [(3, .int 255), (2, .int r_1), (0, .ref qf), (1, .int pg)]) hx hb dX0_erase_19 rfl hl (by decide) rfl (fun ls hl => ?_)
    refine lv_iload_n hx hb dX0_erase_20 rfl (lv_at hl 3 rfl) ?_
    have hPc := hP.sub (ws' := []) [] rfl
    have hDc := hD.sub (ws' := []) [] (by decide) rfl
    have hKc := hK.sub (tys' := []) [] rfl
    have hFc := va_free (wc := []) hD hS hA [] rfl
    refine va_calli (va_runS (As := [.int pg]) (rest := []) ⟨hx, hb, hml, hown, hts⟩ (c_F_isPage l dC dI H.size pg) (va_cwS 1 hts gX0_erase_X0_isPage rfl rfl rfl (by decide +kernel) ⟨Nat.le_of_ble_eq_true rfl, Nat.le_of_ble_eq_true rfl⟩) ⟨fun a U g mk q => by obtain ⟨q0, q1, qP, qK, qD⟩ := q; exact ⟨q0, q1, qP, va_K.moved (u := U) (U := U.calling g mk a) (Vm.Alike.refl U.vm) qK, qD⟩, fun U hU hW => ⟨rfl, by rw [hU], by rw [hU]; exact hPc, va_K.moved hW.alike hKc, hDc.weaken (fun _ _ _ _ => trivial)⟩⟩ rfl rfl hl.1 rfl (lv_room (Nat.le_of_ble_eq_true rfl)) dX0_erase_21 ⟨(Nat.zero_le _), (Nat.zero_le _)⟩) hS (fun q _ h => hFc q h) hFc (fun r_3 u t H locs ht hvm hw hB hz1 hk1 hS => ?_)
    have hw : tt_ip pg = r_3 := hw.symm
    subst hw
    obtain ⟨hP1, hK1, hD1⟩ := hB
    rw [ht] at hP1
    obtain ⟨hP, hD⟩ := va_join (wr := [(qf, .inr (0, [.ref qb, .ref qe, .int od_1, .int ot_1, .int tm_1])), (qb, .inl (cA, 32, .inl b_1)), (qe, .inl (cE, 2, .inl g_1))]) (w1 := []) hP hD [] [0, 1, 2] rfl rfl (by decide) (by decide) hk1 hFc hP1 hD1
    have hP : va_P (dC, dI) ttCl [(qf, .inr (0, [.ref qb, .ref qe, .int od_1, .int ot_1, .int tm_1])), (qb, .inl (cA, 32, .inl b_1)), (qe, .inl (cE, 2, .inl g_1))] H := hP
    have hD : va_D A [(qf, .inr (0, [.ref qb, .ref qe, .int od_1, .int ot_1, .int tm_1])), (qb, .inl (cA, 32, .inl b_1)), (qe, .inl (cE, 2, .inl g_1))] := hD
    refine lv_if_eq (tgt := 81) hx hb dX0_erase_24 (by decide) (fun c_4 => ?_) (fun c_4 => ?_)
    · refine lv_iload_n hx hb dX0_erase_81 rfl (lv_at hl 1 rfl) ?_
      refine lv_if_ne (tgt := 89) hx hb dX0_erase_82 (by decide) (fun c_5 => ?_) (fun c_5 => ?_)
      · exact absurd c_2 c_5
      · refine lv_iconst (v := 1) hx hb dX0_erase_85 (by decide) ?_
        refine lv_goto (tgt := 90) hx hb dX0_erase_86 (by decide) ?_
        have hP9 := hP.sub (ws' := [(qf, .inr (0, [.ref qb, .ref qe, .int od_1, .int ot_1, .int tm_1])), (qb, .inl (cA, 32, .inl b_1)), (qe, .inl (cE, 2, .inl g_1))]) [0, 1, 2] rfl
        have hD9 := hD.sub (ws' := [(qf, .inr (0, [.ref qb, .ref qe, .int od_1, .int ot_1, .int tm_1])), (qb, .inl (cA, 32, .inl b_1)), (qe, .inl (cE, 2, .inl g_1))]) [0, 1, 2] (by decide) rfl
        have hK9 := hK.sub (tys' := [(cA, .int), (cE, .int)]) [0, 1] rfl
        exact W.zret (v := 1) hx hb hr (by first | rfl | decide) (fun t ht hW => ⟨⟨1, (b_1, g_1, od_1, ot_1, tm_1), rfl, (by first | (simp only [tt_erase, e_1, c_2, c_4, reduceIte, eq_self]; done) | (simp [tt_erase, e_1, c_2, c_4]; done)), by rw [ht]; exact hP9, va_K.moved hW.alike hK9, hD9⟩, hS.F ht⟩) hS.2.2 dX0_erase_90
    · refine lv_aload_n hx hb dX0_erase_27 rfl (lv_at hl 2 rfl) ?_
      refine va_get (D := (dC, dI)) (ci := 0) (v := .ref qe) (C := RX0) (T := TX0) (N := 5) hx hb hts (by decide +kernel) hown hK hP 0 rfl rfl 1 (by decide) (hts (.fieldLink RX0 13 "TornTryCounter$Flash" "erases" "[I") (by decide +kernel)) (fun _ h9 => h9) rfl dX0_erase_28 ?_
      refine lv_iload_n hx hb dX0_erase_31 rfl (lv_at hl 3 rfl) ?_
      refine lv_dup2_11 hx hb dX0_erase_32 rfl rfl ?_
      refine va_iald hx hb hK hP 2 1 rfl rfl (tt_inP c_4) dX0_erase_33 ?_
      refine lv_iconst (v := 1) hx hb dX0_erase_34 (by decide) ?_
      refine lv_iadd hx hb dX0_erase_35 ?_
      refine va_iast hx hb hK hP hD hS 2 1 rfl rfl (tt_inP c_4) dX0_erase_36 (fun H locs hP hD hS => ?_)
      have hP : va_P (dC, dI) ttCl [(qf, .inr (0, [.ref qb, .ref qe, .int od_1, .int ot_1, .int tm_1])), (qb, .inl (cA, 32, .inl b_1)), (qe, .inl (cE, 2, .inl (upd g_1 pg.toNatClampNeg ((g_1 pg.toNatClampNeg) + 1))))] H := hP
      have hD : va_D A [(qf, .inr (0, [.ref qb, .ref qe, .int od_1, .int ot_1, .int tm_1])), (qb, .inl (cA, 32, .inl b_1)), (qe, .inl (cE, 2, .inl (upd g_1 pg.toNatClampNeg ((g_1 pg.toNatClampNeg) + 1))))] := hD
      refine lv_iconst (v := 0) hx hb dX0_erase_37 (by decide) ?_
      refine lv_istore (lv' := [(4, .int 0), (3, .int 255), (2, .int r_1), (0, .ref qf), (1, .int pg)]) hx hb dX0_erase_38 hl (by decide) rfl (fun ls hl => ?_)
      refine W.widen (k := 0) (n := 0) (by omega) (by omega) ?_
      refine tt_rec (pc := 40) (I := fun n H locs ls => ∃ i : Nat, i + n = 16 ∧ va_P (dC, dI) ttCl [(qf, .inr (0, [.ref qb, .ref qe, .int od_1, .int ot_1, .int tm_1])), (qb, .inl (cA, 32, .inl (tt_er b_1 pg 255 i))), (qe, .inl (cE, 2, .inl (upd g_1 pg.toNatClampNeg ((g_1 pg.toNatClampNeg) + 1))))] H ∧ va_D A [(qf, .inr (0, [.ref qb, .ref qe, .int od_1, .int ot_1, .int tm_1])), (qb, .inl (cA, 32, .inl (tt_er b_1 pg 255 i))), (qe, .inl (cE, 2, .inl (upd g_1 pg.toNatClampNeg ((g_1 pg.toNatClampNeg) + 1))))] ∧ va_S A s.heap H locs ∧ lv_has ls 5 [(0, .ref qf), (1, .int pg), (2, .int r_1), (3, .int 255), (4, .int (nI i))]) ?_ 16 ⟨0, rfl, hP, hD, hS, lv_sub hl [3, 4, 2, 1, 0] rfl⟩
      intro n H locs ls ih hI
      obtain ⟨i, hi, hP, hD, hS, hl⟩ := hI
      refine lv_iload hx hb dX0_erase_40 (lv_at hl 4 rfl) ?_
      refine lv_bipush (v := 16) hx hb dX0_erase_42 (by decide) ?_
      refine lv_icmp_ge (tgt := 81) hx hb dX0_erase_44 (by decide) (fun c_6 => ?_) (fun c_6 => ?_)
      · have hie : i = 16 := (tt_c16 i (by omega)).1 c_6
        refine lv_iload_n hx hb dX0_erase_81 rfl (lv_at hl 2 rfl) ?_
        refine lv_if_ne (tgt := 89) hx hb dX0_erase_82 (by decide) (fun c_7 => ?_) (fun c_7 => ?_)
        · exact absurd c_2 c_7
        · refine lv_iconst (v := 1) hx hb dX0_erase_85 (by decide) ?_
          refine lv_goto (tgt := 90) hx hb dX0_erase_86 (by decide) ?_
          have hP9 := hP.sub (ws' := [(qf, .inr (0, [.ref qb, .ref qe, .int od_1, .int ot_1, .int tm_1])), (qb, .inl (cA, 32, .inl (tt_er b_1 pg 255 i))), (qe, .inl (cE, 2, .inl (upd g_1 pg.toNatClampNeg ((g_1 pg.toNatClampNeg) + 1))))]) [0, 1, 2] rfl
          have hD9 := hD.sub (ws' := [(qf, .inr (0, [.ref qb, .ref qe, .int od_1, .int ot_1, .int tm_1])), (qb, .inl (cA, 32, .inl (tt_er b_1 pg 255 i))), (qe, .inl (cE, 2, .inl (upd g_1 pg.toNatClampNeg ((g_1 pg.toNatClampNeg) + 1))))]) [0, 1, 2] (by decide) rfl
          have hK9 := hK.sub (tys' := [(cA, .int), (cE, .int)]) [0, 1] rfl
          exact W.zret (v := 1) hx hb hr (by first | rfl | decide) (fun t ht hW => ⟨⟨1, (tt_er b_1 pg 255 i, upd g_1 pg.toNatClampNeg ((g_1 pg.toNatClampNeg) + 1), od_1, ot_1, tm_1), rfl, (by first | (simp only [tt_erase, e_1, c_2, c_4, c_6, hie, reduceIte, eq_self]; done) | (simp [tt_erase, e_1, c_2, c_4, c_6, hie]; done)), by rw [ht]; exact hP9, va_K.moved hW.alike hK9, hD9⟩, hS.F ht⟩) hS.2.2 dX0_erase_90
      · have hlt : i < 16 := (tt_c16 i (by omega)).2 c_6
        refine lv_iload_n hx hb dX0_erase_47 rfl (lv_at hl 3 rfl) ?_
        refine lv_iload hx hb dX0_erase_48 (lv_at hl 4 rfl) ?_
        refine lv_bipush (v := 7) hx hb dX0_erase_50 (by decide) ?_
        refine lv_iand hx hb dX0_erase_52 ?_
        refine lv_ishr hx hb dX0_erase_53 ?_
        refine lv_iconst (v := 1) hx hb dX0_erase_54 (by decide) ?_
        refine lv_iand hx hb dX0_erase_55 ?_
        refine lv_iconst (v := 1) hx hb dX0_erase_56 (by decide) ?_
        refine lv_icmp_ne (tgt := 75) hx hb dX0_erase_57 (by decide) (fun c_8 => ?_) (fun c_8 => ?_)
        · refine lv_iinc (v := (nI i) + 1) (lv' := [(4, .int ((nI i) + 1)), (0, .ref qf), (1, .int pg), (2, .int r_1), (3, .int 255)]) hx hb dX0_erase_75 hl (k := 4) rfl rfl (by decide) rfl (fun ls hl => ?_)
          refine lv_goto (tgt := 40) hx hb dX0_erase_78 (by decide) ?_
          refine ih (n - 1) (by omega) _ _ _ ⟨i + 1, by omega, ?_, ?_, hS, ?_⟩
          · rw [show tt_er b_1 pg 255 (i + 1) = tt_er b_1 pg 255 i from (by simp only [tt_er, tt_er1, c_2, c_4, c_6, c_8, reduceIte])]; exact hP.sub [0, 1, 2] rfl
          · rw [show tt_er b_1 pg 255 (i + 1) = tt_er b_1 pg 255 i from (by simp only [tt_er, tt_er1, c_2, c_4, c_6, c_8, reduceIte])]; exact hD.sub [0, 1, 2] (by decide) rfl
          · rw [show nI (i + 1) = (nI i) + 1 from (nI_1 i).symm]; exact lv_sub hl [1, 2, 3, 4, 0] rfl
        · refine lv_aload_n hx hb dX0_erase_60 rfl (lv_at hl 0 rfl) ?_
          refine va_get (D := (dC, dI)) (ci := 0) (v := .ref qb) (C := RX0) (T := TX0) (N := 5) hx hb hts (by decide +kernel) hown hK hP 0 rfl rfl 0 (by decide) (hts (.fieldLink RX0 9 "TornTryCounter$Flash" "bytes" "[I") (by decide +kernel)) (fun _ h9 => h9) rfl dX0_erase_61 ?_
          refine lv_iload_n hx hb dX0_erase_64 rfl (lv_at hl 1 rfl) ?_
          refine lv_bipush (v := 16) hx hb dX0_erase_65 (by decide) ?_
          refine lv_imul hx hb dX0_erase_67 ?_
          refine lv_iload hx hb dX0_erase_68 (lv_at hl 4 rfl) ?_
          refine lv_iadd hx hb dX0_erase_70 ?_
          refine lv_sipush (v := 255) hx hb dX0_erase_71 (by decide) ?_
          refine va_iast hx hb hK hP hD hS 1 0 rfl rfl (tt_inE c_4 hlt) dX0_erase_74 (fun H locs hP hD hS => ?_)
          have hP : va_P (dC, dI) ttCl [(qf, .inr (0, [.ref qb, .ref qe, .int od_1, .int ot_1, .int tm_1])), (qb, .inl (cA, 32, .inl (upd (tt_er b_1 pg 255 i) ((pg * 16) + (nI i)).toNatClampNeg 255))), (qe, .inl (cE, 2, .inl (upd g_1 pg.toNatClampNeg ((g_1 pg.toNatClampNeg) + 1))))] H := hP
          have hD : va_D A [(qf, .inr (0, [.ref qb, .ref qe, .int od_1, .int ot_1, .int tm_1])), (qb, .inl (cA, 32, .inl (upd (tt_er b_1 pg 255 i) ((pg * 16) + (nI i)).toNatClampNeg 255))), (qe, .inl (cE, 2, .inl (upd g_1 pg.toNatClampNeg ((g_1 pg.toNatClampNeg) + 1))))] := hD
          refine lv_iinc (v := (nI i) + 1) (lv' := [(4, .int ((nI i) + 1)), (0, .ref qf), (1, .int pg), (2, .int r_1), (3, .int 255)]) hx hb dX0_erase_75 hl (k := 4) rfl rfl (by decide) rfl (fun ls hl => ?_)
          refine lv_goto (tgt := 40) hx hb dX0_erase_78 (by decide) ?_
          refine ih (n - 1) (by omega) _ _ _ ⟨i + 1, by omega, ?_, ?_, hS, ?_⟩
          · rw [show tt_er b_1 pg 255 (i + 1) = upd (tt_er b_1 pg 255 i) ((pg * 16) + (nI i)).toNatClampNeg 255 from (by simp only [tt_er, tt_er1, c_2, c_4, c_6, c_8, reduceIte])]; exact hP.sub [0, 1, 2] rfl
          · rw [show tt_er b_1 pg 255 (i + 1) = upd (tt_er b_1 pg 255 i) ((pg * 16) + (nI i)).toNatClampNeg 255 from (by simp only [tt_er, tt_er1, c_2, c_4, c_6, c_8, reduceIte])]; exact hD.sub [0, 1, 2] (by decide) rfl
          · rw [show nI (i + 1) = (nI i) + 1 from (nI_1 i).symm]; exact lv_sub hl [1, 2, 3, 4, 0] rfl
  · refine lv_aload_n hx hb dX0_erase_9 rfl (lv_at hl 1 rfl) ?_
    refine va_get (D := (dC, dI)) (ci := 0) (v := .int tm_1) (C := RX0) (T := TX0) (N := 5) hx hb hts (by decide +kernel) hown hK hP 0 rfl rfl 4 (by decide) (hts (.fieldLink RX0 23 "TornTryCounter$Flash" "tearMask" "I") (by decide +kernel)) (fun _ h9 => h9) rfl dX0_erase_10 ?_
    refine lv_goto (tgt := 19) hx hb dX0_erase_13 (by decide) ?_
    refine lv_istore_n (lv' := [(3, .int tm_1), (2, .int r_1), (0, .ref qf), (1, .int pg)]) hx hb dX0_erase_19 rfl hl (by decide) rfl (fun ls hl => ?_)
    refine lv_iload_n hx hb dX0_erase_20 rfl (lv_at hl 3 rfl) ?_
    have hPc := hP.sub (ws' := []) [] rfl
    have hDc := hD.sub (ws' := []) [] (by decide) rfl
    have hKc := hK.sub (tys' := []) [] rfl
    have hFc := va_free (wc := []) hD hS hA [] rfl
    refine va_calli (va_runS (As := [.int pg]) (rest := []) ⟨hx, hb, hml, hown, hts⟩ (c_F_isPage l dC dI H.size pg) (va_cwS 1 hts gX0_erase_X0_isPage rfl rfl rfl (by decide +kernel) ⟨Nat.le_of_ble_eq_true rfl, Nat.le_of_ble_eq_true rfl⟩) ⟨fun a U g mk q => by obtain ⟨q0, q1, qP, qK, qD⟩ := q; exact ⟨q0, q1, qP, va_K.moved (u := U) (U := U.calling g mk a) (Vm.Alike.refl U.vm) qK, qD⟩, fun U hU hW => ⟨rfl, by rw [hU], by rw [hU]; exact hPc, va_K.moved hW.alike hKc, hDc.weaken (fun _ _ _ _ => trivial)⟩⟩ rfl rfl hl.1 rfl (lv_room (Nat.le_of_ble_eq_true rfl)) dX0_erase_21 ⟨(Nat.zero_le _), (Nat.zero_le _)⟩) hS (fun q _ h => hFc q h) hFc (fun r_9 u t H locs ht hvm hw hB hz1 hk1 hS => ?_)
    have hw : tt_ip pg = r_9 := hw.symm
    subst hw
    obtain ⟨hP1, hK1, hD1⟩ := hB
    rw [ht] at hP1
    obtain ⟨hP, hD⟩ := va_join (wr := [(qf, .inr (0, [.ref qb, .ref qe, .int od_1, .int ot_1, .int tm_1])), (qb, .inl (cA, 32, .inl b_1)), (qe, .inl (cE, 2, .inl g_1))]) (w1 := []) hP hD [] [0, 1, 2] rfl rfl (by decide) (by decide) hk1 hFc hP1 hD1
    have hP : va_P (dC, dI) ttCl [(qf, .inr (0, [.ref qb, .ref qe, .int od_1, .int ot_1, .int tm_1])), (qb, .inl (cA, 32, .inl b_1)), (qe, .inl (cE, 2, .inl g_1))] H := hP
    have hD : va_D A [(qf, .inr (0, [.ref qb, .ref qe, .int od_1, .int ot_1, .int tm_1])), (qb, .inl (cA, 32, .inl b_1)), (qe, .inl (cE, 2, .inl g_1))] := hD
    refine lv_if_eq (tgt := 81) hx hb dX0_erase_24 (by decide) (fun c_10 => ?_) (fun c_10 => ?_)
    · refine lv_iload_n hx hb dX0_erase_81 rfl (lv_at hl 1 rfl) ?_
      refine lv_if_ne (tgt := 89) hx hb dX0_erase_82 (by decide) (fun c_11 => ?_) (fun c_11 => ?_)
      · refine lv_iconst (v := 0) hx hb dX0_erase_89 (by decide) ?_
        have hP9 := hP.sub (ws' := [(qf, .inr (0, [.ref qb, .ref qe, .int od_1, .int ot_1, .int tm_1])), (qb, .inl (cA, 32, .inl b_1)), (qe, .inl (cE, 2, .inl g_1))]) [0, 1, 2] rfl
        have hD9 := hD.sub (ws' := [(qf, .inr (0, [.ref qb, .ref qe, .int od_1, .int ot_1, .int tm_1])), (qb, .inl (cA, 32, .inl b_1)), (qe, .inl (cE, 2, .inl g_1))]) [0, 1, 2] (by decide) rfl
        have hK9 := hK.sub (tys' := [(cA, .int), (cE, .int)]) [0, 1] rfl
        exact W.zret (v := 0) hx hb hr (by first | rfl | decide) (fun t ht hW => ⟨⟨0, (b_1, g_1, od_1, ot_1, tm_1), rfl, (by first | (simp only [tt_erase, e_1, c_2, c_10, reduceIte, eq_self]; done) | (simp [tt_erase, e_1, c_2, c_10]; done)), by rw [ht]; exact hP9, va_K.moved hW.alike hK9, hD9⟩, hS.F ht⟩) hS.2.2 dX0_erase_90
      · exact absurd c_11 c_2
    · refine lv_aload_n hx hb dX0_erase_27 rfl (lv_at hl 2 rfl) ?_
      refine va_get (D := (dC, dI)) (ci := 0) (v := .ref qe) (C := RX0) (T := TX0) (N := 5) hx hb hts (by decide +kernel) hown hK hP 0 rfl rfl 1 (by decide) (hts (.fieldLink RX0 13 "TornTryCounter$Flash" "erases" "[I") (by decide +kernel)) (fun _ h9 => h9) rfl dX0_erase_28 ?_
      refine lv_iload_n hx hb dX0_erase_31 rfl (lv_at hl 3 rfl) ?_
      refine lv_dup2_11 hx hb dX0_erase_32 rfl rfl ?_
      refine va_iald hx hb hK hP 2 1 rfl rfl (tt_inP c_10) dX0_erase_33 ?_
      refine lv_iconst (v := 1) hx hb dX0_erase_34 (by decide) ?_
      refine lv_iadd hx hb dX0_erase_35 ?_
      refine va_iast hx hb hK hP hD hS 2 1 rfl rfl (tt_inP c_10) dX0_erase_36 (fun H locs hP hD hS => ?_)
      have hP : va_P (dC, dI) ttCl [(qf, .inr (0, [.ref qb, .ref qe, .int od_1, .int ot_1, .int tm_1])), (qb, .inl (cA, 32, .inl b_1)), (qe, .inl (cE, 2, .inl (upd g_1 pg.toNatClampNeg ((g_1 pg.toNatClampNeg) + 1))))] H := hP
      have hD : va_D A [(qf, .inr (0, [.ref qb, .ref qe, .int od_1, .int ot_1, .int tm_1])), (qb, .inl (cA, 32, .inl b_1)), (qe, .inl (cE, 2, .inl (upd g_1 pg.toNatClampNeg ((g_1 pg.toNatClampNeg) + 1))))] := hD
      refine lv_iconst (v := 0) hx hb dX0_erase_37 (by decide) ?_
      refine lv_istore (lv' := [(4, .int 0), (3, .int tm_1), (2, .int r_1), (0, .ref qf), (1, .int pg)]) hx hb dX0_erase_38 hl (by decide) rfl (fun ls hl => ?_)
      refine W.widen (k := 0) (n := 0) (by omega) (by omega) ?_
      refine tt_rec (pc := 40) (I := fun n H locs ls => ∃ i : Nat, i + n = 16 ∧ va_P (dC, dI) ttCl [(qf, .inr (0, [.ref qb, .ref qe, .int od_1, .int ot_1, .int tm_1])), (qb, .inl (cA, 32, .inl (tt_er b_1 pg tm_1 i))), (qe, .inl (cE, 2, .inl (upd g_1 pg.toNatClampNeg ((g_1 pg.toNatClampNeg) + 1))))] H ∧ va_D A [(qf, .inr (0, [.ref qb, .ref qe, .int od_1, .int ot_1, .int tm_1])), (qb, .inl (cA, 32, .inl (tt_er b_1 pg tm_1 i))), (qe, .inl (cE, 2, .inl (upd g_1 pg.toNatClampNeg ((g_1 pg.toNatClampNeg) + 1))))] ∧ va_S A s.heap H locs ∧ lv_has ls 5 [(0, .ref qf), (1, .int pg), (2, .int r_1), (3, .int tm_1), (4, .int (nI i))]) ?_ 16 ⟨0, rfl, hP, hD, hS, lv_sub hl [3, 4, 2, 1, 0] rfl⟩
      intro n H locs ls ih hI
      obtain ⟨i, hi, hP, hD, hS, hl⟩ := hI
      refine lv_iload hx hb dX0_erase_40 (lv_at hl 4 rfl) ?_
      refine lv_bipush (v := 16) hx hb dX0_erase_42 (by decide) ?_
      refine lv_icmp_ge (tgt := 81) hx hb dX0_erase_44 (by decide) (fun c_12 => ?_) (fun c_12 => ?_)
      · have hie : i = 16 := (tt_c16 i (by omega)).1 c_12
        refine lv_iload_n hx hb dX0_erase_81 rfl (lv_at hl 2 rfl) ?_
        refine lv_if_ne (tgt := 89) hx hb dX0_erase_82 (by decide) (fun c_13 => ?_) (fun c_13 => ?_)
        · refine lv_iconst (v := 0) hx hb dX0_erase_89 (by decide) ?_
          have hP9 := hP.sub (ws' := [(qf, .inr (0, [.ref qb, .ref qe, .int od_1, .int ot_1, .int tm_1])), (qb, .inl (cA, 32, .inl (tt_er b_1 pg tm_1 i))), (qe, .inl (cE, 2, .inl (upd g_1 pg.toNatClampNeg ((g_1 pg.toNatClampNeg) + 1))))]) [0, 1, 2] rfl
          have hD9 := hD.sub (ws' := [(qf, .inr (0, [.ref qb, .ref qe, .int od_1, .int ot_1, .int tm_1])), (qb, .inl (cA, 32, .inl (tt_er b_1 pg tm_1 i))), (qe, .inl (cE, 2, .inl (upd g_1 pg.toNatClampNeg ((g_1 pg.toNatClampNeg) + 1))))]) [0, 1, 2] (by decide) rfl
          have hK9 := hK.sub (tys' := [(cA, .int), (cE, .int)]) [0, 1] rfl
          exact W.zret (v := 0) hx hb hr (by first | rfl | decide) (fun t ht hW => ⟨⟨0, (tt_er b_1 pg tm_1 i, upd g_1 pg.toNatClampNeg ((g_1 pg.toNatClampNeg) + 1), od_1, ot_1, tm_1), rfl, (by first | (simp only [tt_erase, e_1, c_2, c_10, c_12, hie, reduceIte, eq_self]; done) | (simp [tt_erase, e_1, c_2, c_10, c_12, hie]; done)), by rw [ht]; exact hP9, va_K.moved hW.alike hK9, hD9⟩, hS.F ht⟩) hS.2.2 dX0_erase_90
        · exact absurd c_13 c_2
      · have hlt : i < 16 := (tt_c16 i (by omega)).2 c_12
        refine lv_iload_n hx hb dX0_erase_47 rfl (lv_at hl 3 rfl) ?_
        refine lv_iload hx hb dX0_erase_48 (lv_at hl 4 rfl) ?_
        refine lv_bipush (v := 7) hx hb dX0_erase_50 (by decide) ?_
        refine lv_iand hx hb dX0_erase_52 ?_
        refine lv_ishr hx hb dX0_erase_53 ?_
        refine lv_iconst (v := 1) hx hb dX0_erase_54 (by decide) ?_
        refine lv_iand hx hb dX0_erase_55 ?_
        refine lv_iconst (v := 1) hx hb dX0_erase_56 (by decide) ?_
        refine lv_icmp_ne (tgt := 75) hx hb dX0_erase_57 (by decide) (fun c_14 => ?_) (fun c_14 => ?_)
        · refine lv_iinc (v := (nI i) + 1) (lv' := [(4, .int ((nI i) + 1)), (0, .ref qf), (1, .int pg), (2, .int r_1), (3, .int tm_1)]) hx hb dX0_erase_75 hl (k := 4) rfl rfl (by decide) rfl (fun ls hl => ?_)
          refine lv_goto (tgt := 40) hx hb dX0_erase_78 (by decide) ?_
          refine ih (n - 1) (by omega) _ _ _ ⟨i + 1, by omega, ?_, ?_, hS, ?_⟩
          · rw [show tt_er b_1 pg tm_1 (i + 1) = tt_er b_1 pg tm_1 i from (by simp only [tt_er, tt_er1, c_2, c_10, c_12, c_14, reduceIte])]; exact hP.sub [0, 1, 2] rfl
          · rw [show tt_er b_1 pg tm_1 (i + 1) = tt_er b_1 pg tm_1 i from (by simp only [tt_er, tt_er1, c_2, c_10, c_12, c_14, reduceIte])]; exact hD.sub [0, 1, 2] (by decide) rfl
          · rw [show nI (i + 1) = (nI i) + 1 from (nI_1 i).symm]; exact lv_sub hl [1, 2, 3, 4, 0] rfl
        · refine lv_aload_n hx hb dX0_erase_60 rfl (lv_at hl 0 rfl) ?_
          refine va_get (D := (dC, dI)) (ci := 0) (v := .ref qb) (C := RX0) (T := TX0) (N := 5) hx hb hts (by decide +kernel) hown hK hP 0 rfl rfl 0 (by decide) (hts (.fieldLink RX0 9 "TornTryCounter$Flash" "bytes" "[I") (by decide +kernel)) (fun _ h9 => h9) rfl dX0_erase_61 ?_
          refine lv_iload_n hx hb dX0_erase_64 rfl (lv_at hl 1 rfl) ?_
          refine lv_bipush (v := 16) hx hb dX0_erase_65 (by decide) ?_
          refine lv_imul hx hb dX0_erase_67 ?_
          refine lv_iload hx hb dX0_erase_68 (lv_at hl 4 rfl) ?_
          refine lv_iadd hx hb dX0_erase_70 ?_
          refine lv_sipush (v := 255) hx hb dX0_erase_71 (by decide) ?_
          refine va_iast hx hb hK hP hD hS 1 0 rfl rfl (tt_inE c_10 hlt) dX0_erase_74 (fun H locs hP hD hS => ?_)
          have hP : va_P (dC, dI) ttCl [(qf, .inr (0, [.ref qb, .ref qe, .int od_1, .int ot_1, .int tm_1])), (qb, .inl (cA, 32, .inl (upd (tt_er b_1 pg tm_1 i) ((pg * 16) + (nI i)).toNatClampNeg 255))), (qe, .inl (cE, 2, .inl (upd g_1 pg.toNatClampNeg ((g_1 pg.toNatClampNeg) + 1))))] H := hP
          have hD : va_D A [(qf, .inr (0, [.ref qb, .ref qe, .int od_1, .int ot_1, .int tm_1])), (qb, .inl (cA, 32, .inl (upd (tt_er b_1 pg tm_1 i) ((pg * 16) + (nI i)).toNatClampNeg 255))), (qe, .inl (cE, 2, .inl (upd g_1 pg.toNatClampNeg ((g_1 pg.toNatClampNeg) + 1))))] := hD
          refine lv_iinc (v := (nI i) + 1) (lv' := [(4, .int ((nI i) + 1)), (0, .ref qf), (1, .int pg), (2, .int r_1), (3, .int tm_1)]) hx hb dX0_erase_75 hl (k := 4) rfl rfl (by decide) rfl (fun ls hl => ?_)
          refine lv_goto (tgt := 40) hx hb dX0_erase_78 (by decide) ?_
          refine ih (n - 1) (by omega) _ _ _ ⟨i + 1, by omega, ?_, ?_, hS, ?_⟩
          · rw [show tt_er b_1 pg tm_1 (i + 1) = upd (tt_er b_1 pg tm_1 i) ((pg * 16) + (nI i)).toNatClampNeg 255 from (by simp only [tt_er, tt_er1, c_2, c_10, c_12, c_14, reduceIte])]; exact hP.sub [0, 1, 2] rfl
          · rw [show tt_er b_1 pg tm_1 (i + 1) = upd (tt_er b_1 pg tm_1 i) ((pg * 16) + (nI i)).toNatClampNeg 255 from (by simp only [tt_er, tt_er1, c_2, c_10, c_12, c_14, reduceIte])]; exact hD.sub [0, 1, 2] (by decide) rfl
          · rw [show nI (i + 1) = (nI i) + 1 from (nI_1 i).symm]; exact lv_sub hl [1, 2, 3, 4, 0] rfl
end
section
set_option maxHeartbeats 4000000 in
set_option maxRecDepth 100000 in
theorem c_P_isGood (l : Launch) (dC : Nat → ClassId) (dI : Nat → Nat → Nat) (cA cE : ClassId) (qp qf qb qe : Nat) (sz : Nat) (b g : Nat → Int32) (od ot tm : Int32) (pg : Int32) : Met l yX1_isGood wsX1_isGood ({ frames := 1, cells := 0, slots := 0, locals := 23 }) (va_Pc [.ref qp, .int pg] (fun U => U.heap.size = sz ∧ va_P (dC, dI) ttCl [(qp, .inr (1, [.ref qf])), (qf, .inr (0, [.ref qb, .ref qe, .int od, .int ot, .int tm])), (qb, .inl (cA, 32, .inl b)), (qe, .inl (cE, 2, .inl g))] U.heap ∧ va_K (dC, dI) ttCl [(cA, .int), (cE, .int)] U ∧ va_D (fun _ => True) [(qp, .inr (1, [.ref qf])), (qf, .inr (0, [.ref qb, .ref qe, .int od, .int ot, .int tm])), (qb, .inl (cA, 32, .inl b)), (qe, .inl (cE, 2, .inl g))])) (va_Qi (fun (r : Int32) (_ : Unit) => r = tt_gd b pg) (fun (_ : Unit) (t : State) => at_P dC dI cA cE (va_A [(qp, .inr (1, [.ref qf])), (qf, .inr (0, [.ref qb, .ref qe, .int od, .int ot, .int tm])), (qb, .inl (cA, 32, .inl b)), (qe, .inl (cE, 2, .inl g))] sz) qp qf qb qe (b, g, od, ot, tm) t) (va_A [(qp, .inr (1, [.ref qf])), (qf, .inr (0, [.ref qb, .ref qe, .int od, .int ot, .int tm])), (qb, .inl (cA, 32, .inl b)), (qe, .inl (cE, 2, .inl g))] sz)) 0 0 (va_A [(qp, .inr (1, [.ref qf])), (qf, .inr (0, [.ref qb, .ref qe, .int od, .int ot, .int tm])), (qb, .inl (cA, 32, .inl b)), (qe, .inl (cE, 2, .inl g))] sz) := by
  refine Met.ofW (cc := cX1_isGood) (maxL := 2) (ret := (some .boolean)) (by decide) rfl ?_
  intro p e s m args below meth c s₁ B hml hv
  obtain ⟨rfl, hsz, hP, hK, hD0⟩ := hv
  have hx := B.exec
  have hb := B.bytes
  have hr := B.returns
  have hts := atoms_spec (ws := wsX1_isGood) B.pre
  have hown : s.vm.findClass RX1 = some m.cls := findClass_of_methodNamed B.named
  have hlocks := B.notSynchronized
  subst hsz
  have hD := hD0.self (sz := s.heap.size)
  generalize hAe : va_A [(qp, .inr (1, [.ref qf])), (qf, .inr (0, [.ref qb, .ref qe, .int od, .int ot, .int tm])), (qb, .inl (cA, 32, .inl b)), (qe, .inl (cE, 2, .inl g))] s.heap.size = A at hD ⊢
  have hA : ∀ q : Nat, s.heap.size ≤ q → A q := fun q h => by rw [← hAe]; exact Or.inr h
  have hS : va_S A s.heap s.heap [] := va_S.rf
  have hP : va_P (dC, dI) ttCl [(qp, .inr (1, [.ref qf])), (qf, .inr (0, [.ref qb, .ref qe, .int od, .int ot, .int tm])), (qb, .inl (cA, 32, .inl b)), (qe, .inl (cE, 2, .inl g))] s.heap := hP
  have hl := lv_entry ([.ref qp, .int pg]) (n := 2) (Nat.le_of_ble_eq_true rfl)
  rw [lg_entry_eq]
  generalize (lg_sl ([.ref qp, .int pg]) ++ List.replicate (2 - (lg_sl ([.ref qp, .int pg])).length) Slot.unset).toArray = ls at hl ⊢
  have hl : lv_has ls 2 [(0, .ref qp), (1, .int pg)] := hl
  refine lv_aload_n hx hb dX1_isGood_0 rfl (lv_at hl 0 rfl) ?_
  refine va_get (D := (dC, dI)) (ci := 1) (v := .ref qf) (C := RX1) (T := TX1) (N := 1) hx hb hts (by decide +kernel) hown hK hP 0 rfl rfl 0 (by decide) (hts (.fieldLink RX1 7 "TornTryCounter$Pages" "flash" "LTornTryCounter$Flash;") (by decide +kernel)) (fun _ h9 => h9) rfl dX1_isGood_1 ?_
  refine lv_iload_n hx hb dX1_isGood_4 rfl (lv_at hl 1 rfl) ?_
  refine lv_iconst (v := 0) hx hb dX1_isGood_5 (by decide) ?_
  have hPc := hP.sub (ws' := [(qf, .inr (0, [.ref qb, .ref qe, .int od, .int ot, .int tm])), (qb, .inl (cA, 32, .inl b)), (qe, .inl (cE, 2, .inl g))]) [1, 2, 3] rfl
  have hDc := hD.sub (ws' := [(qf, .inr (0, [.ref qb, .ref qe, .int od, .int ot, .int tm])), (qb, .inl (cA, 32, .inl b)), (qe, .inl (cE, 2, .inl g))]) [1, 2, 3] (by decide) rfl
  have hKc := hK.sub (tys' := [(cA, .int), (cE, .int)]) [0, 1] rfl
  have hFc := va_free (wc := [(qf, .inr (0, [.ref qb, .ref qe, .int od, .int ot, .int tm])), (qb, .inl (cA, 32, .inl b)), (qe, .inl (cE, 2, .inl g))]) hD hS hA [1, 2, 3] rfl
  refine va_calli (va_runV (As := [.int pg, .int 0]) (rest := []) ⟨hx, hb, hml, hown, hts⟩ (c_F_read l dC dI cA cE qf qb qe s.heap.size b g od ot tm pg 0) (cwV 2 hts gX1_isGood_X0_read rfl rfl rfl (by decide +kernel) ⟨Nat.le_of_ble_eq_true rfl, Nat.le_of_ble_eq_true rfl⟩) ⟨fun a U g mk q => by obtain ⟨q0, q1, qP, qK, qD⟩ := q; exact ⟨q0, q1, qP, va_K.moved (u := U) (U := U.calling g mk a) (Vm.Alike.refl U.vm) qK, qD⟩, va_recv hKc hPc (ci := 0) (q0 := 0) rfl rfl, fun U hU hW => ⟨rfl, by rw [hU], by rw [hU]; exact hPc, va_K.moved hW.alike hKc, hDc.weaken (fun _ _ _ _ => trivial)⟩⟩ rfl rfl hl.1 rfl (lv_room (Nat.le_of_ble_eq_true rfl)) dX1_isGood_6 ⟨(Nat.zero_le _), (Nat.zero_le _)⟩) hS (fun q _ h => hFc q h) hFc (fun r_1 u t H locs ht hvm hw hB hz1 hk1 hS => ?_)
  have hw : tt_rd b pg 0 = r_1 := hw.symm
  subst hw
  obtain ⟨hP1, hK1, hD1⟩ := hB
  rw [ht] at hP1
  obtain ⟨hP, hD⟩ := va_join (wr := [(qp, .inr (1, [.ref qf]))]) (w1 := [(qf, .inr (0, [.ref qb, .ref qe, .int od, .int ot, .int tm])), (qb, .inl (cA, 32, .inl b)), (qe, .inl (cE, 2, .inl g))]) hP hD [1, 2, 3] [0] rfl rfl (by decide) (by decide) hk1 hFc hP1 hD1
  have hP : va_P (dC, dI) ttCl [(qp, .inr (1, [.ref qf])), (qf, .inr (0, [.ref qb, .ref qe, .int od, .int ot, .int tm])), (qb, .inl (cA, 32, .inl b)), (qe, .inl (cE, 2, .inl g))] H := hP
  have hD : va_D A [(qp, .inr (1, [.ref qf])), (qf, .inr (0, [.ref qb, .ref qe, .int od, .int ot, .int tm])), (qb, .inl (cA, 32, .inl b)), (qe, .inl (cE, 2, .inl g))] := hD
  refine lv_bipush (v := 90) hx hb dX1_isGood_9 (by decide) ?_
  refine lv_icmp_ne (tgt := 18) hx hb dX1_isGood_11 (by decide) (fun c_2 => ?_) (fun c_2 => ?_)
  · refine lv_iconst (v := 0) hx hb dX1_isGood_18 (by decide) ?_
    have hP9 := hP.sub (ws' := [(qp, .inr (1, [.ref qf])), (qf, .inr (0, [.ref qb, .ref qe, .int od, .int ot, .int tm])), (qb, .inl (cA, 32, .inl b)), (qe, .inl (cE, 2, .inl g))]) [0, 1, 2, 3] rfl
    have hD9 := hD.sub (ws' := [(qp, .inr (1, [.ref qf])), (qf, .inr (0, [.ref qb, .ref qe, .int od, .int ot, .int tm])), (qb, .inl (cA, 32, .inl b)), (qe, .inl (cE, 2, .inl g))]) [0, 1, 2, 3] (by decide) rfl
    have hK9 := hK.sub (tys' := [(cA, .int), (cE, .int)]) [0, 1] rfl
    exact W.zret (v := 0) hx hb hr (by first | rfl | decide) (fun t ht hW => ⟨⟨0, (), rfl, (by first | (simp only [tt_gd, c_2, reduceIte, eq_self]; done) | (simp [tt_gd, c_2]; done)), by rw [ht]; exact hP9, va_K.moved hW.alike hK9, hD9⟩, hS.F ht⟩) hS.2.2 dX1_isGood_19
  · refine lv_iconst (v := 1) hx hb dX1_isGood_14 (by decide) ?_
    refine lv_goto (tgt := 19) hx hb dX1_isGood_15 (by decide) ?_
    have hP9 := hP.sub (ws' := [(qp, .inr (1, [.ref qf])), (qf, .inr (0, [.ref qb, .ref qe, .int od, .int ot, .int tm])), (qb, .inl (cA, 32, .inl b)), (qe, .inl (cE, 2, .inl g))]) [0, 1, 2, 3] rfl
    have hD9 := hD.sub (ws' := [(qp, .inr (1, [.ref qf])), (qf, .inr (0, [.ref qb, .ref qe, .int od, .int ot, .int tm])), (qb, .inl (cA, 32, .inl b)), (qe, .inl (cE, 2, .inl g))]) [0, 1, 2, 3] (by decide) rfl
    have hK9 := hK.sub (tys' := [(cA, .int), (cE, .int)]) [0, 1] rfl
    exact W.zret (v := 1) hx hb hr (by first | rfl | decide) (fun t ht hW => ⟨⟨1, (), rfl, (by first | (simp only [tt_gd, c_2, reduceIte, eq_self]; done) | (simp [tt_gd, c_2]; done)), by rw [ht]; exact hP9, va_K.moved hW.alike hK9, hD9⟩, hS.F ht⟩) hS.2.2 dX1_isGood_19
set_option maxHeartbeats 4000000 in
set_option maxRecDepth 100000 in
theorem c_P_generationAfter (l : Launch) (dC : Nat → ClassId) (dI : Nat → Nat → Nat) (cA cE : ClassId) (qp qf qb qe : Nat) (sz : Nat) (b g : Nat → Int32) (od ot tm : Int32) (pg : Int32) : Met l yX1_generationAfter wsX1_generationAfter ({ frames := 1, cells := 0, slots := 0, locals := 23 }) (va_Pc [.ref qp, .int pg] (fun U => U.heap.size = sz ∧ va_P (dC, dI) ttCl [(qp, .inr (1, [.ref qf])), (qf, .inr (0, [.ref qb, .ref qe, .int od, .int ot, .int tm])), (qb, .inl (cA, 32, .inl b)), (qe, .inl (cE, 2, .inl g))] U.heap ∧ va_K (dC, dI) ttCl [(cA, .int), (cE, .int)] U ∧ va_D (fun _ => True) [(qp, .inr (1, [.ref qf])), (qf, .inr (0, [.ref qb, .ref qe, .int od, .int ot, .int tm])), (qb, .inl (cA, 32, .inl b)), (qe, .inl (cE, 2, .inl g))])) (va_Qi (fun (r : Int32) (_ : Unit) => r = tt_ga b pg) (fun (_ : Unit) (t : State) => at_P dC dI cA cE (va_A [(qp, .inr (1, [.ref qf])), (qf, .inr (0, [.ref qb, .ref qe, .int od, .int ot, .int tm])), (qb, .inl (cA, 32, .inl b)), (qe, .inl (cE, 2, .inl g))] sz) qp qf qb qe (b, g, od, ot, tm) t) (va_A [(qp, .inr (1, [.ref qf])), (qf, .inr (0, [.ref qb, .ref qe, .int od, .int ot, .int tm])), (qb, .inl (cA, 32, .inl b)), (qe, .inl (cE, 2, .inl g))] sz)) 0 0 (va_A [(qp, .inr (1, [.ref qf])), (qf, .inr (0, [.ref qb, .ref qe, .int od, .int ot, .int tm])), (qb, .inl (cA, 32, .inl b)), (qe, .inl (cE, 2, .inl g))] sz) := by
  refine Met.ofW (cc := cX1_generationAfter) (maxL := 2) (ret := (some .int)) (by decide) rfl ?_
  intro p e s m args below meth c s₁ B hml hv
  obtain ⟨rfl, hsz, hP, hK, hD0⟩ := hv
  have hx := B.exec
  have hb := B.bytes
  have hr := B.returns
  have hts := atoms_spec (ws := wsX1_generationAfter) B.pre
  have hown : s.vm.findClass RX1 = some m.cls := findClass_of_methodNamed B.named
  have hlocks := B.notSynchronized
  subst hsz
  have hD := hD0.self (sz := s.heap.size)
  generalize hAe : va_A [(qp, .inr (1, [.ref qf])), (qf, .inr (0, [.ref qb, .ref qe, .int od, .int ot, .int tm])), (qb, .inl (cA, 32, .inl b)), (qe, .inl (cE, 2, .inl g))] s.heap.size = A at hD ⊢
  have hA : ∀ q : Nat, s.heap.size ≤ q → A q := fun q h => by rw [← hAe]; exact Or.inr h
  have hS : va_S A s.heap s.heap [] := va_S.rf
  have hP : va_P (dC, dI) ttCl [(qp, .inr (1, [.ref qf])), (qf, .inr (0, [.ref qb, .ref qe, .int od, .int ot, .int tm])), (qb, .inl (cA, 32, .inl b)), (qe, .inl (cE, 2, .inl g))] s.heap := hP
  have hl := lv_entry ([.ref qp, .int pg]) (n := 2) (Nat.le_of_ble_eq_true rfl)
  rw [lg_entry_eq]
  generalize (lg_sl ([.ref qp, .int pg]) ++ List.replicate (2 - (lg_sl ([.ref qp, .int pg])).length) Slot.unset).toArray = ls at hl ⊢
  have hl : lv_has ls 2 [(0, .ref qp), (1, .int pg)] := hl
  refine lv_aload_n hx hb dX1_generationAfter_0 rfl (lv_at hl 0 rfl) ?_
  refine va_get (D := (dC, dI)) (ci := 1) (v := .ref qf) (C := RX1) (T := TX1) (N := 1) hx hb hts (by decide +kernel) hown hK hP 0 rfl rfl 0 (by decide) (hts (.fieldLink RX1 7 "TornTryCounter$Pages" "flash" "LTornTryCounter$Flash;") (by decide +kernel)) (fun _ h9 => h9) rfl dX1_generationAfter_1 ?_
  refine lv_iload_n hx hb dX1_generationAfter_4 rfl (lv_at hl 1 rfl) ?_
  refine lv_iconst (v := 1) hx hb dX1_generationAfter_5 (by decide) ?_
  have hPc := hP.sub (ws' := [(qf, .inr (0, [.ref qb, .ref qe, .int od, .int ot, .int tm])), (qb, .inl (cA, 32, .inl b)), (qe, .inl (cE, 2, .inl g))]) [1, 2, 3] rfl
  have hDc := hD.sub (ws' := [(qf, .inr (0, [.ref qb, .ref qe, .int od, .int ot, .int tm])), (qb, .inl (cA, 32, .inl b)), (qe, .inl (cE, 2, .inl g))]) [1, 2, 3] (by decide) rfl
  have hKc := hK.sub (tys' := [(cA, .int), (cE, .int)]) [0, 1] rfl
  have hFc := va_free (wc := [(qf, .inr (0, [.ref qb, .ref qe, .int od, .int ot, .int tm])), (qb, .inl (cA, 32, .inl b)), (qe, .inl (cE, 2, .inl g))]) hD hS hA [1, 2, 3] rfl
  refine va_calli (va_runV (As := [.int pg, .int 1]) (rest := []) ⟨hx, hb, hml, hown, hts⟩ (c_F_read l dC dI cA cE qf qb qe s.heap.size b g od ot tm pg 1) (cwV 2 hts gX1_generationAfter_X0_read rfl rfl rfl (by decide +kernel) ⟨Nat.le_of_ble_eq_true rfl, Nat.le_of_ble_eq_true rfl⟩) ⟨fun a U g mk q => by obtain ⟨q0, q1, qP, qK, qD⟩ := q; exact ⟨q0, q1, qP, va_K.moved (u := U) (U := U.calling g mk a) (Vm.Alike.refl U.vm) qK, qD⟩, va_recv hKc hPc (ci := 0) (q0 := 0) rfl rfl, fun U hU hW => ⟨rfl, by rw [hU], by rw [hU]; exact hPc, va_K.moved hW.alike hKc, hDc.weaken (fun _ _ _ _ => trivial)⟩⟩ rfl rfl hl.1 rfl (lv_room (Nat.le_of_ble_eq_true rfl)) dX1_generationAfter_6 ⟨(Nat.zero_le _), (Nat.zero_le _)⟩) hS (fun q _ h => hFc q h) hFc (fun r_1 u t H locs ht hvm hw hB hz1 hk1 hS => ?_)
  have hw : tt_rd b pg 1 = r_1 := hw.symm
  subst hw
  obtain ⟨hP1, hK1, hD1⟩ := hB
  rw [ht] at hP1
  obtain ⟨hP, hD⟩ := va_join (wr := [(qp, .inr (1, [.ref qf]))]) (w1 := [(qf, .inr (0, [.ref qb, .ref qe, .int od, .int ot, .int tm])), (qb, .inl (cA, 32, .inl b)), (qe, .inl (cE, 2, .inl g))]) hP hD [1, 2, 3] [0] rfl rfl (by decide) (by decide) hk1 hFc hP1 hD1
  have hP : va_P (dC, dI) ttCl [(qp, .inr (1, [.ref qf])), (qf, .inr (0, [.ref qb, .ref qe, .int od, .int ot, .int tm])), (qb, .inl (cA, 32, .inl b)), (qe, .inl (cE, 2, .inl g))] H := hP
  have hD : va_D A [(qp, .inr (1, [.ref qf])), (qf, .inr (0, [.ref qb, .ref qe, .int od, .int ot, .int tm])), (qb, .inl (cA, 32, .inl b)), (qe, .inl (cE, 2, .inl g))] := hD
  refine lv_iconst (v := 1) hx hb dX1_generationAfter_9 (by decide) ?_
  refine lv_iadd hx hb dX1_generationAfter_10 ?_
  refine lv_sipush (v := 255) hx hb dX1_generationAfter_11 (by decide) ?_
  refine lv_iand hx hb dX1_generationAfter_14 ?_
  have hP9 := hP.sub (ws' := [(qp, .inr (1, [.ref qf])), (qf, .inr (0, [.ref qb, .ref qe, .int od, .int ot, .int tm])), (qb, .inl (cA, 32, .inl b)), (qe, .inl (cE, 2, .inl g))]) [0, 1, 2, 3] rfl
  have hD9 := hD.sub (ws' := [(qp, .inr (1, [.ref qf])), (qf, .inr (0, [.ref qb, .ref qe, .int od, .int ot, .int tm])), (qb, .inl (cA, 32, .inl b)), (qe, .inl (cE, 2, .inl g))]) [0, 1, 2, 3] (by decide) rfl
  have hK9 := hK.sub (tys' := [(cA, .int), (cE, .int)]) [0, 1] rfl
  exact W.iret (v := ((tt_rd b pg 1) + 1) &&& 255) hx hb hr (fun t ht hW => ⟨⟨((tt_rd b pg 1) + 1) &&& 255, (), rfl, (by first | (simp only [tt_ga, reduceIte, eq_self]; done) | (simp [tt_ga]; done)), by rw [ht]; exact hP9, va_K.moved hW.alike hK9, hD9⟩, hS.F ht⟩) hS.2.2 dX1_generationAfter_15
set_option maxHeartbeats 4000000 in
set_option maxRecDepth 100000 in
theorem c_P_active (l : Launch) (dC : Nat → ClassId) (dI : Nat → Nat → Nat) (cA cE : ClassId) (qp qf qb qe : Nat) (sz : Nat) (b g : Nat → Int32) (od ot tm : Int32) : Met l yX1_active wsX1_active ({ frames := 2, cells := 0, slots := 0, locals := 44 }) (va_Pc [.ref qp] (fun U => U.heap.size = sz ∧ va_P (dC, dI) ttCl [(qp, .inr (1, [.ref qf])), (qf, .inr (0, [.ref qb, .ref qe, .int od, .int ot, .int tm])), (qb, .inl (cA, 32, .inl b)), (qe, .inl (cE, 2, .inl g))] U.heap ∧ va_K (dC, dI) ttCl [(cA, .int), (cE, .int)] U ∧ va_D (fun _ => True) [(qp, .inr (1, [.ref qf])), (qf, .inr (0, [.ref qb, .ref qe, .int od, .int ot, .int tm])), (qb, .inl (cA, 32, .inl b)), (qe, .inl (cE, 2, .inl g))])) (va_Qi (fun (r : Int32) (_ : Unit) => r = tt_ac b) (fun (_ : Unit) (t : State) => at_P dC dI cA cE (va_A [(qp, .inr (1, [.ref qf])), (qf, .inr (0, [.ref qb, .ref qe, .int od, .int ot, .int tm])), (qb, .inl (cA, 32, .inl b)), (qe, .inl (cE, 2, .inl g))] sz) qp qf qb qe (b, g, od, ot, tm) t) (va_A [(qp, .inr (1, [.ref qf])), (qf, .inr (0, [.ref qb, .ref qe, .int od, .int ot, .int tm])), (qb, .inl (cA, 32, .inl b)), (qe, .inl (cE, 2, .inl g))] sz)) 0 0 (va_A [(qp, .inr (1, [.ref qf])), (qf, .inr (0, [.ref qb, .ref qe, .int od, .int ot, .int tm])), (qb, .inl (cA, 32, .inl b)), (qe, .inl (cE, 2, .inl g))] sz) := by
  refine Met.ofW (cc := cX1_active) (maxL := 1) (ret := (some .int)) (by decide) rfl ?_
  intro p e s m args below meth c s₁ B hml hv
  obtain ⟨rfl, hsz, hP, hK, hD0⟩ := hv
  have hx := B.exec
  have hb := B.bytes
  have hr := B.returns
  have hts := atoms_spec (ws := wsX1_active) B.pre
  have hown : s.vm.findClass RX1 = some m.cls := findClass_of_methodNamed B.named
  have hlocks := B.notSynchronized
  subst hsz
  have hD := hD0.self (sz := s.heap.size)
  generalize hAe : va_A [(qp, .inr (1, [.ref qf])), (qf, .inr (0, [.ref qb, .ref qe, .int od, .int ot, .int tm])), (qb, .inl (cA, 32, .inl b)), (qe, .inl (cE, 2, .inl g))] s.heap.size = A at hD ⊢
  have hA : ∀ q : Nat, s.heap.size ≤ q → A q := fun q h => by rw [← hAe]; exact Or.inr h
  have hS : va_S A s.heap s.heap [] := va_S.rf
  have hP : va_P (dC, dI) ttCl [(qp, .inr (1, [.ref qf])), (qf, .inr (0, [.ref qb, .ref qe, .int od, .int ot, .int tm])), (qb, .inl (cA, 32, .inl b)), (qe, .inl (cE, 2, .inl g))] s.heap := hP
  have hl := lv_entry ([.ref qp]) (n := 1) (Nat.le_of_ble_eq_true rfl)
  rw [lg_entry_eq]
  generalize (lg_sl ([.ref qp]) ++ List.replicate (1 - (lg_sl ([.ref qp])).length) Slot.unset).toArray = ls at hl ⊢
  have hl : lv_has ls 1 [(0, .ref qp)] := hl
  refine lv_aload_n hx hb dX1_active_0 rfl (lv_at hl 0 rfl) ?_
  refine lv_iconst (v := 1) hx hb dX1_active_1 (by decide) ?_
  have hPc := hP.sub (ws' := [(qp, .inr (1, [.ref qf])), (qf, .inr (0, [.ref qb, .ref qe, .int od, .int ot, .int tm])), (qb, .inl (cA, 32, .inl b)), (qe, .inl (cE, 2, .inl g))]) [0, 1, 2, 3] rfl
  have hDc := hD.sub (ws' := [(qp, .inr (1, [.ref qf])), (qf, .inr (0, [.ref qb, .ref qe, .int od, .int ot, .int tm])), (qb, .inl (cA, 32, .inl b)), (qe, .inl (cE, 2, .inl g))]) [0, 1, 2, 3] (by decide) rfl
  have hKc := hK.sub (tys' := [(cA, .int), (cE, .int)]) [0, 1] rfl
  have hFc := va_free (wc := [(qp, .inr (1, [.ref qf])), (qf, .inr (0, [.ref qb, .ref qe, .int od, .int ot, .int tm])), (qb, .inl (cA, 32, .inl b)), (qe, .inl (cE, 2, .inl g))]) hD hS hA [0, 1, 2, 3] rfl
  refine va_calli (va_runV (As := [.int 1]) (rest := []) ⟨hx, hb, hml, hown, hts⟩ (c_P_isGood l dC dI cA cE qp qf qb qe s.heap.size b g od ot tm 1) (cwV 1 hts gX1_active_X1_isGood rfl rfl rfl (by decide +kernel) ⟨Nat.le_of_ble_eq_true rfl, Nat.le_of_ble_eq_true rfl⟩) ⟨fun a U g mk q => by obtain ⟨q0, q1, qP, qK, qD⟩ := q; exact ⟨q0, q1, qP, va_K.moved (u := U) (U := U.calling g mk a) (Vm.Alike.refl U.vm) qK, qD⟩, va_recv hKc hPc (ci := 1) (q0 := 0) rfl rfl, fun U hU hW => ⟨rfl, by rw [hU], by rw [hU]; exact hPc, va_K.moved hW.alike hKc, hDc.weaken (fun _ _ _ _ => trivial)⟩⟩ rfl rfl hl.1 rfl (lv_room (Nat.le_of_ble_eq_true rfl)) dX1_active_2 ⟨(Nat.zero_le _), (Nat.zero_le _)⟩) hS (fun q _ h => hFc q h) hFc (fun r_1 u t H locs ht hvm hw hB hz1 hk1 hS => ?_)
  have hw : tt_gd b 1 = r_1 := hw.symm
  subst hw
  obtain ⟨hP1, hK1, hD1⟩ := hB
  rw [ht] at hP1
  obtain ⟨hP, hD⟩ := va_join (wr := []) (w1 := [(qp, .inr (1, [.ref qf])), (qf, .inr (0, [.ref qb, .ref qe, .int od, .int ot, .int tm])), (qb, .inl (cA, 32, .inl b)), (qe, .inl (cE, 2, .inl g))]) hP hD [0, 1, 2, 3] [] rfl rfl (by decide) (by decide) hk1 hFc hP1 hD1
  have hP : va_P (dC, dI) ttCl [(qp, .inr (1, [.ref qf])), (qf, .inr (0, [.ref qb, .ref qe, .int od, .int ot, .int tm])), (qb, .inl (cA, 32, .inl b)), (qe, .inl (cE, 2, .inl g))] H := hP
  have hD : va_D A [(qp, .inr (1, [.ref qf])), (qf, .inr (0, [.ref qb, .ref qe, .int od, .int ot, .int tm])), (qb, .inl (cA, 32, .inl b)), (qe, .inl (cE, 2, .inl g))] := hD
  refine lv_if_ne (tgt := 10) hx hb dX1_active_5 (by decide) (fun c_2 => ?_) (fun c_2 => ?_)
  · refine lv_aload_n hx hb dX1_active_10 rfl (lv_at hl 0 rfl) ?_
    refine lv_iconst (v := 0) hx hb dX1_active_11 (by decide) ?_
    have hPc := hP.sub (ws' := [(qp, .inr (1, [.ref qf])), (qf, .inr (0, [.ref qb, .ref qe, .int od, .int ot, .int tm])), (qb, .inl (cA, 32, .inl b)), (qe, .inl (cE, 2, .inl g))]) [0, 1, 2, 3] rfl
    have hDc := hD.sub (ws' := [(qp, .inr (1, [.ref qf])), (qf, .inr (0, [.ref qb, .ref qe, .int od, .int ot, .int tm])), (qb, .inl (cA, 32, .inl b)), (qe, .inl (cE, 2, .inl g))]) [0, 1, 2, 3] (by decide) rfl
    have hKc := hK.sub (tys' := [(cA, .int), (cE, .int)]) [0, 1] rfl
    have hFc := va_free (wc := [(qp, .inr (1, [.ref qf])), (qf, .inr (0, [.ref qb, .ref qe, .int od, .int ot, .int tm])), (qb, .inl (cA, 32, .inl b)), (qe, .inl (cE, 2, .inl g))]) hD hS hA [0, 1, 2, 3] rfl
    refine va_calli (va_runV (As := [.int 0]) (rest := []) ⟨hx, hb, hml, hown, hts⟩ (c_P_isGood l dC dI cA cE qp qf qb qe H.size b g od ot tm 0) (cwV 1 hts gX1_active_X1_isGood rfl rfl rfl (by decide +kernel) ⟨Nat.le_of_ble_eq_true rfl, Nat.le_of_ble_eq_true rfl⟩) ⟨fun a U g mk q => by obtain ⟨q0, q1, qP, qK, qD⟩ := q; exact ⟨q0, q1, qP, va_K.moved (u := U) (U := U.calling g mk a) (Vm.Alike.refl U.vm) qK, qD⟩, va_recv hKc hPc (ci := 1) (q0 := 0) rfl rfl, fun U hU hW => ⟨rfl, by rw [hU], by rw [hU]; exact hPc, va_K.moved hW.alike hKc, hDc.weaken (fun _ _ _ _ => trivial)⟩⟩ rfl rfl hl.1 rfl (lv_room (Nat.le_of_ble_eq_true rfl)) dX1_active_12 ⟨(Nat.zero_le _), (Nat.zero_le _)⟩) hS (fun q _ h => hFc q h) hFc (fun r_3 u t H locs ht hvm hw hB hz1 hk1 hS => ?_)
    have hw : tt_gd b 0 = r_3 := hw.symm
    subst hw
    obtain ⟨hP1, hK1, hD1⟩ := hB
    rw [ht] at hP1
    obtain ⟨hP, hD⟩ := va_join (wr := []) (w1 := [(qp, .inr (1, [.ref qf])), (qf, .inr (0, [.ref qb, .ref qe, .int od, .int ot, .int tm])), (qb, .inl (cA, 32, .inl b)), (qe, .inl (cE, 2, .inl g))]) hP hD [0, 1, 2, 3] [] rfl rfl (by decide) (by decide) hk1 hFc hP1 hD1
    have hP : va_P (dC, dI) ttCl [(qp, .inr (1, [.ref qf])), (qf, .inr (0, [.ref qb, .ref qe, .int od, .int ot, .int tm])), (qb, .inl (cA, 32, .inl b)), (qe, .inl (cE, 2, .inl g))] H := hP
    have hD : va_D A [(qp, .inr (1, [.ref qf])), (qf, .inr (0, [.ref qb, .ref qe, .int od, .int ot, .int tm])), (qb, .inl (cA, 32, .inl b)), (qe, .inl (cE, 2, .inl g))] := hD
    refine lv_if_ne (tgt := 20) hx hb dX1_active_15 (by decide) (fun c_4 => ?_) (fun c_4 => ?_)
    · refine lv_aload_n hx hb dX1_active_20 rfl (lv_at hl 0 rfl) ?_
      refine va_get (D := (dC, dI)) (ci := 1) (v := .ref qf) (C := RX1) (T := TX1) (N := 1) hx hb hts (by decide +kernel) hown hK hP 0 rfl rfl 0 (by decide) (hts (.fieldLink RX1 7 "TornTryCounter$Pages" "flash" "LTornTryCounter$Flash;") (by decide +kernel)) (fun _ h9 => h9) rfl dX1_active_21 ?_
      refine lv_iconst (v := 1) hx hb dX1_active_24 (by decide) ?_
      refine lv_iconst (v := 1) hx hb dX1_active_25 (by decide) ?_
      have hPc := hP.sub (ws' := [(qf, .inr (0, [.ref qb, .ref qe, .int od, .int ot, .int tm])), (qb, .inl (cA, 32, .inl b)), (qe, .inl (cE, 2, .inl g))]) [1, 2, 3] rfl
      have hDc := hD.sub (ws' := [(qf, .inr (0, [.ref qb, .ref qe, .int od, .int ot, .int tm])), (qb, .inl (cA, 32, .inl b)), (qe, .inl (cE, 2, .inl g))]) [1, 2, 3] (by decide) rfl
      have hKc := hK.sub (tys' := [(cA, .int), (cE, .int)]) [0, 1] rfl
      have hFc := va_free (wc := [(qf, .inr (0, [.ref qb, .ref qe, .int od, .int ot, .int tm])), (qb, .inl (cA, 32, .inl b)), (qe, .inl (cE, 2, .inl g))]) hD hS hA [1, 2, 3] rfl
      refine va_calli (va_runV (As := [.int 1, .int 1]) (rest := []) ⟨hx, hb, hml, hown, hts⟩ (c_F_read l dC dI cA cE qf qb qe H.size b g od ot tm 1 1) (cwV 2 hts gX1_active_X0_read rfl rfl rfl (by decide +kernel) ⟨Nat.le_of_ble_eq_true rfl, Nat.le_of_ble_eq_true rfl⟩) ⟨fun a U g mk q => by obtain ⟨q0, q1, qP, qK, qD⟩ := q; exact ⟨q0, q1, qP, va_K.moved (u := U) (U := U.calling g mk a) (Vm.Alike.refl U.vm) qK, qD⟩, va_recv hKc hPc (ci := 0) (q0 := 0) rfl rfl, fun U hU hW => ⟨rfl, by rw [hU], by rw [hU]; exact hPc, va_K.moved hW.alike hKc, hDc.weaken (fun _ _ _ _ => trivial)⟩⟩ rfl rfl hl.1 rfl (lv_room (Nat.le_of_ble_eq_true rfl)) dX1_active_26 ⟨(Nat.zero_le _), (Nat.zero_le _)⟩) hS (fun q _ h => hFc q h) hFc (fun r_5 u t H locs ht hvm hw hB hz1 hk1 hS => ?_)
      have hw : tt_rd b 1 1 = r_5 := hw.symm
      subst hw
      obtain ⟨hP1, hK1, hD1⟩ := hB
      rw [ht] at hP1
      obtain ⟨hP, hD⟩ := va_join (wr := [(qp, .inr (1, [.ref qf]))]) (w1 := [(qf, .inr (0, [.ref qb, .ref qe, .int od, .int ot, .int tm])), (qb, .inl (cA, 32, .inl b)), (qe, .inl (cE, 2, .inl g))]) hP hD [1, 2, 3] [0] rfl rfl (by decide) (by decide) hk1 hFc hP1 hD1
      have hP : va_P (dC, dI) ttCl [(qp, .inr (1, [.ref qf])), (qf, .inr (0, [.ref qb, .ref qe, .int od, .int ot, .int tm])), (qb, .inl (cA, 32, .inl b)), (qe, .inl (cE, 2, .inl g))] H := hP
      have hD : va_D A [(qp, .inr (1, [.ref qf])), (qf, .inr (0, [.ref qb, .ref qe, .int od, .int ot, .int tm])), (qb, .inl (cA, 32, .inl b)), (qe, .inl (cE, 2, .inl g))] := hD
      refine lv_aload_n hx hb dX1_active_29 rfl (lv_at hl 0 rfl) ?_
      refine lv_iconst (v := 0) hx hb dX1_active_30 (by decide) ?_
      have hPc := hP.sub (ws' := [(qp, .inr (1, [.ref qf])), (qf, .inr (0, [.ref qb, .ref qe, .int od, .int ot, .int tm])), (qb, .inl (cA, 32, .inl b)), (qe, .inl (cE, 2, .inl g))]) [0, 1, 2, 3] rfl
      have hDc := hD.sub (ws' := [(qp, .inr (1, [.ref qf])), (qf, .inr (0, [.ref qb, .ref qe, .int od, .int ot, .int tm])), (qb, .inl (cA, 32, .inl b)), (qe, .inl (cE, 2, .inl g))]) [0, 1, 2, 3] (by decide) rfl
      have hKc := hK.sub (tys' := [(cA, .int), (cE, .int)]) [0, 1] rfl
      have hFc := va_free (wc := [(qp, .inr (1, [.ref qf])), (qf, .inr (0, [.ref qb, .ref qe, .int od, .int ot, .int tm])), (qb, .inl (cA, 32, .inl b)), (qe, .inl (cE, 2, .inl g))]) hD hS hA [0, 1, 2, 3] rfl
      refine va_calli (va_runV (As := [.int 0]) (rest := [.int (tt_rd b 1 1)]) ⟨hx, hb, hml, hown, hts⟩ (c_P_generationAfter l dC dI cA cE qp qf qb qe H.size b g od ot tm 0) (cwV 1 hts gX1_active_X1_generationAfter rfl rfl rfl (by decide +kernel) ⟨Nat.le_of_ble_eq_true rfl, Nat.le_of_ble_eq_true rfl⟩) ⟨fun a U g mk q => by obtain ⟨q0, q1, qP, qK, qD⟩ := q; exact ⟨q0, q1, qP, va_K.moved (u := U) (U := U.calling g mk a) (Vm.Alike.refl U.vm) qK, qD⟩, va_recv hKc hPc (ci := 1) (q0 := 0) rfl rfl, fun U hU hW => ⟨rfl, by rw [hU], by rw [hU]; exact hPc, va_K.moved hW.alike hKc, hDc.weaken (fun _ _ _ _ => trivial)⟩⟩ rfl rfl hl.1 rfl (lv_room (Nat.le_of_ble_eq_true rfl)) dX1_active_31 ⟨(Nat.zero_le _), (Nat.zero_le _)⟩) hS (fun q _ h => hFc q h) hFc (fun r_6 u t H locs ht hvm hw hB hz1 hk1 hS => ?_)
      have hw : tt_ga b 0 = r_6 := hw.symm
      subst hw
      obtain ⟨hP1, hK1, hD1⟩ := hB
      rw [ht] at hP1
      obtain ⟨hP, hD⟩ := va_join (wr := []) (w1 := [(qp, .inr (1, [.ref qf])), (qf, .inr (0, [.ref qb, .ref qe, .int od, .int ot, .int tm])), (qb, .inl (cA, 32, .inl b)), (qe, .inl (cE, 2, .inl g))]) hP hD [0, 1, 2, 3] [] rfl rfl (by decide) (by decide) hk1 hFc hP1 hD1
      have hP : va_P (dC, dI) ttCl [(qp, .inr (1, [.ref qf])), (qf, .inr (0, [.ref qb, .ref qe, .int od, .int ot, .int tm])), (qb, .inl (cA, 32, .inl b)), (qe, .inl (cE, 2, .inl g))] H := hP
      have hD : va_D A [(qp, .inr (1, [.ref qf])), (qf, .inr (0, [.ref qb, .ref qe, .int od, .int ot, .int tm])), (qb, .inl (cA, 32, .inl b)), (qe, .inl (cE, 2, .inl g))] := hD
      refine lv_icmp_ne (tgt := 41) hx hb dX1_active_34 (by decide) (fun c_7 => ?_) (fun c_7 => ?_)
      · refine lv_iconst (v := 0) hx hb dX1_active_41 (by decide) ?_
        have hP9 := hP.sub (ws' := [(qp, .inr (1, [.ref qf])), (qf, .inr (0, [.ref qb, .ref qe, .int od, .int ot, .int tm])), (qb, .inl (cA, 32, .inl b)), (qe, .inl (cE, 2, .inl g))]) [0, 1, 2, 3] rfl
        have hD9 := hD.sub (ws' := [(qp, .inr (1, [.ref qf])), (qf, .inr (0, [.ref qb, .ref qe, .int od, .int ot, .int tm])), (qb, .inl (cA, 32, .inl b)), (qe, .inl (cE, 2, .inl g))]) [0, 1, 2, 3] (by decide) rfl
        have hK9 := hK.sub (tys' := [(cA, .int), (cE, .int)]) [0, 1] rfl
        exact W.iret (v := 0) hx hb hr (fun t ht hW => ⟨⟨0, (), rfl, (by first | (simp only [tt_ac, c_2, c_4, c_7, reduceIte, eq_self]; done) | (simp [tt_ac, c_2, c_4, c_7]; done)), by rw [ht]; exact hP9, va_K.moved hW.alike hK9, hD9⟩, hS.F ht⟩) hS.2.2 dX1_active_42
      · refine lv_iconst (v := 1) hx hb dX1_active_37 (by decide) ?_
        refine lv_goto (tgt := 42) hx hb dX1_active_38 (by decide) ?_
        have hP9 := hP.sub (ws' := [(qp, .inr (1, [.ref qf])), (qf, .inr (0, [.ref qb, .ref qe, .int od, .int ot, .int tm])), (qb, .inl (cA, 32, .inl b)), (qe, .inl (cE, 2, .inl g))]) [0, 1, 2, 3] rfl
        have hD9 := hD.sub (ws' := [(qp, .inr (1, [.ref qf])), (qf, .inr (0, [.ref qb, .ref qe, .int od, .int ot, .int tm])), (qb, .inl (cA, 32, .inl b)), (qe, .inl (cE, 2, .inl g))]) [0, 1, 2, 3] (by decide) rfl
        have hK9 := hK.sub (tys' := [(cA, .int), (cE, .int)]) [0, 1] rfl
        exact W.iret (v := 1) hx hb hr (fun t ht hW => ⟨⟨1, (), rfl, (by first | (simp only [tt_ac, c_2, c_4, c_7, reduceIte, eq_self]; done) | (simp [tt_ac, c_2, c_4, c_7]; done)), by rw [ht]; exact hP9, va_K.moved hW.alike hK9, hD9⟩, hS.F ht⟩) hS.2.2 dX1_active_42
    · refine lv_iconst (v := 1) hx hb dX1_active_18 (by decide) ?_
      have hP9 := hP.sub (ws' := [(qp, .inr (1, [.ref qf])), (qf, .inr (0, [.ref qb, .ref qe, .int od, .int ot, .int tm])), (qb, .inl (cA, 32, .inl b)), (qe, .inl (cE, 2, .inl g))]) [0, 1, 2, 3] rfl
      have hD9 := hD.sub (ws' := [(qp, .inr (1, [.ref qf])), (qf, .inr (0, [.ref qb, .ref qe, .int od, .int ot, .int tm])), (qb, .inl (cA, 32, .inl b)), (qe, .inl (cE, 2, .inl g))]) [0, 1, 2, 3] (by decide) rfl
      have hK9 := hK.sub (tys' := [(cA, .int), (cE, .int)]) [0, 1] rfl
      exact W.iret (v := 1) hx hb hr (fun t ht hW => ⟨⟨1, (), rfl, (by first | (simp only [tt_ac, c_2, c_4, reduceIte, eq_self]; done) | (simp [tt_ac, c_2, c_4]; done)), by rw [ht]; exact hP9, va_K.moved hW.alike hK9, hD9⟩, hS.F ht⟩) hS.2.2 dX1_active_19
  · refine lv_iconst (v := 0) hx hb dX1_active_8 (by decide) ?_
    have hP9 := hP.sub (ws' := [(qp, .inr (1, [.ref qf])), (qf, .inr (0, [.ref qb, .ref qe, .int od, .int ot, .int tm])), (qb, .inl (cA, 32, .inl b)), (qe, .inl (cE, 2, .inl g))]) [0, 1, 2, 3] rfl
    have hD9 := hD.sub (ws' := [(qp, .inr (1, [.ref qf])), (qf, .inr (0, [.ref qb, .ref qe, .int od, .int ot, .int tm])), (qb, .inl (cA, 32, .inl b)), (qe, .inl (cE, 2, .inl g))]) [0, 1, 2, 3] (by decide) rfl
    have hK9 := hK.sub (tys' := [(cA, .int), (cE, .int)]) [0, 1] rfl
    exact W.iret (v := 0) hx hb hr (fun t ht hW => ⟨⟨0, (), rfl, (by first | (simp only [tt_ac, c_2, reduceIte, eq_self]; done) | (simp [tt_ac, c_2]; done)), by rw [ht]; exact hP9, va_K.moved hW.alike hK9, hD9⟩, hS.F ht⟩) hS.2.2 dX1_active_9
set_option maxHeartbeats 4000000 in
set_option maxRecDepth 100000 in
theorem c_P_activeGeneration (l : Launch) (dC : Nat → ClassId) (dI : Nat → Nat → Nat) (cA cE : ClassId) (qp qf qb qe : Nat) (sz : Nat) (b g : Nat → Int32) (od ot tm : Int32) : Met l yX1_activeGeneration wsX1_activeGeneration ({ frames := 3, cells := 0, slots := 0, locals := 64 }) (va_Pc [.ref qp] (fun U => U.heap.size = sz ∧ va_P (dC, dI) ttCl [(qp, .inr (1, [.ref qf])), (qf, .inr (0, [.ref qb, .ref qe, .int od, .int ot, .int tm])), (qb, .inl (cA, 32, .inl b)), (qe, .inl (cE, 2, .inl g))] U.heap ∧ va_K (dC, dI) ttCl [(cA, .int), (cE, .int)] U ∧ va_D (fun _ => True) [(qp, .inr (1, [.ref qf])), (qf, .inr (0, [.ref qb, .ref qe, .int od, .int ot, .int tm])), (qb, .inl (cA, 32, .inl b)), (qe, .inl (cE, 2, .inl g))])) (va_Qi (fun (r : Int32) (_ : Unit) => r = tt_rd b (tt_ac b) 1) (fun (_ : Unit) (t : State) => at_P dC dI cA cE (va_A [(qp, .inr (1, [.ref qf])), (qf, .inr (0, [.ref qb, .ref qe, .int od, .int ot, .int tm])), (qb, .inl (cA, 32, .inl b)), (qe, .inl (cE, 2, .inl g))] sz) qp qf qb qe (b, g, od, ot, tm) t) (va_A [(qp, .inr (1, [.ref qf])), (qf, .inr (0, [.ref qb, .ref qe, .int od, .int ot, .int tm])), (qb, .inl (cA, 32, .inl b)), (qe, .inl (cE, 2, .inl g))] sz)) 0 0 (va_A [(qp, .inr (1, [.ref qf])), (qf, .inr (0, [.ref qb, .ref qe, .int od, .int ot, .int tm])), (qb, .inl (cA, 32, .inl b)), (qe, .inl (cE, 2, .inl g))] sz) := by
  refine Met.ofW (cc := cX1_activeGeneration) (maxL := 1) (ret := (some .int)) (by decide) rfl ?_
  intro p e s m args below meth c s₁ B hml hv
  obtain ⟨rfl, hsz, hP, hK, hD0⟩ := hv
  have hx := B.exec
  have hb := B.bytes
  have hr := B.returns
  have hts := atoms_spec (ws := wsX1_activeGeneration) B.pre
  have hown : s.vm.findClass RX1 = some m.cls := findClass_of_methodNamed B.named
  have hlocks := B.notSynchronized
  subst hsz
  have hD := hD0.self (sz := s.heap.size)
  generalize hAe : va_A [(qp, .inr (1, [.ref qf])), (qf, .inr (0, [.ref qb, .ref qe, .int od, .int ot, .int tm])), (qb, .inl (cA, 32, .inl b)), (qe, .inl (cE, 2, .inl g))] s.heap.size = A at hD ⊢
  have hA : ∀ q : Nat, s.heap.size ≤ q → A q := fun q h => by rw [← hAe]; exact Or.inr h
  have hS : va_S A s.heap s.heap [] := va_S.rf
  have hP : va_P (dC, dI) ttCl [(qp, .inr (1, [.ref qf])), (qf, .inr (0, [.ref qb, .ref qe, .int od, .int ot, .int tm])), (qb, .inl (cA, 32, .inl b)), (qe, .inl (cE, 2, .inl g))] s.heap := hP
  have hl := lv_entry ([.ref qp]) (n := 1) (Nat.le_of_ble_eq_true rfl)
  rw [lg_entry_eq]
  generalize (lg_sl ([.ref qp]) ++ List.replicate (1 - (lg_sl ([.ref qp])).length) Slot.unset).toArray = ls at hl ⊢
  have hl : lv_has ls 1 [(0, .ref qp)] := hl
  refine lv_aload_n hx hb dX1_activeGeneration_0 rfl (lv_at hl 0 rfl) ?_
  refine va_get (D := (dC, dI)) (ci := 1) (v := .ref qf) (C := RX1) (T := TX1) (N := 1) hx hb hts (by decide +kernel) hown hK hP 0 rfl rfl 0 (by decide) (hts (.fieldLink RX1 7 "TornTryCounter$Pages" "flash" "LTornTryCounter$Flash;") (by decide +kernel)) (fun _ h9 => h9) rfl dX1_activeGeneration_1 ?_
  refine lv_aload_n hx hb dX1_activeGeneration_4 rfl (lv_at hl 0 rfl) ?_
  have hPc := hP.sub (ws' := [(qp, .inr (1, [.ref qf])), (qf, .inr (0, [.ref qb, .ref qe, .int od, .int ot, .int tm])), (qb, .inl (cA, 32, .inl b)), (qe, .inl (cE, 2, .inl g))]) [0, 1, 2, 3] rfl
  have hDc := hD.sub (ws' := [(qp, .inr (1, [.ref qf])), (qf, .inr (0, [.ref qb, .ref qe, .int od, .int ot, .int tm])), (qb, .inl (cA, 32, .inl b)), (qe, .inl (cE, 2, .inl g))]) [0, 1, 2, 3] (by decide) rfl
  have hKc := hK.sub (tys' := [(cA, .int), (cE, .int)]) [0, 1] rfl
  have hFc := va_free (wc := [(qp, .inr (1, [.ref qf])), (qf, .inr (0, [.ref qb, .ref qe, .int od, .int ot, .int tm])), (qb, .inl (cA, 32, .inl b)), (qe, .inl (cE, 2, .inl g))]) hD hS hA [0, 1, 2, 3] rfl
  refine va_calli (va_runV (As := []) (rest := [.ref qf]) ⟨hx, hb, hml, hown, hts⟩ (c_P_active l dC dI cA cE qp qf qb qe s.heap.size b g od ot tm) (cwV 0 hts gX1_activeGeneration_X1_active rfl rfl rfl (by decide +kernel) ⟨Nat.le_of_ble_eq_true rfl, Nat.le_of_ble_eq_true rfl⟩) ⟨fun a U g mk q => by obtain ⟨q0, q1, qP, qK, qD⟩ := q; exact ⟨q0, q1, qP, va_K.moved (u := U) (U := U.calling g mk a) (Vm.Alike.refl U.vm) qK, qD⟩, va_recv hKc hPc (ci := 1) (q0 := 0) rfl rfl, fun U hU hW => ⟨rfl, by rw [hU], by rw [hU]; exact hPc, va_K.moved hW.alike hKc, hDc.weaken (fun _ _ _ _ => trivial)⟩⟩ rfl rfl hl.1 rfl (lv_room (Nat.le_of_ble_eq_true rfl)) dX1_activeGeneration_5 ⟨(Nat.zero_le _), (Nat.zero_le _)⟩) hS (fun q _ h => hFc q h) hFc (fun r_1 u t H locs ht hvm hw hB hz1 hk1 hS => ?_)
  have hw : tt_ac b = r_1 := hw.symm
  subst hw
  obtain ⟨hP1, hK1, hD1⟩ := hB
  rw [ht] at hP1
  obtain ⟨hP, hD⟩ := va_join (wr := []) (w1 := [(qp, .inr (1, [.ref qf])), (qf, .inr (0, [.ref qb, .ref qe, .int od, .int ot, .int tm])), (qb, .inl (cA, 32, .inl b)), (qe, .inl (cE, 2, .inl g))]) hP hD [0, 1, 2, 3] [] rfl rfl (by decide) (by decide) hk1 hFc hP1 hD1
  have hP : va_P (dC, dI) ttCl [(qp, .inr (1, [.ref qf])), (qf, .inr (0, [.ref qb, .ref qe, .int od, .int ot, .int tm])), (qb, .inl (cA, 32, .inl b)), (qe, .inl (cE, 2, .inl g))] H := hP
  have hD : va_D A [(qp, .inr (1, [.ref qf])), (qf, .inr (0, [.ref qb, .ref qe, .int od, .int ot, .int tm])), (qb, .inl (cA, 32, .inl b)), (qe, .inl (cE, 2, .inl g))] := hD
  refine lv_iconst (v := 1) hx hb dX1_activeGeneration_8 (by decide) ?_
  have hPc := hP.sub (ws' := [(qf, .inr (0, [.ref qb, .ref qe, .int od, .int ot, .int tm])), (qb, .inl (cA, 32, .inl b)), (qe, .inl (cE, 2, .inl g))]) [1, 2, 3] rfl
  have hDc := hD.sub (ws' := [(qf, .inr (0, [.ref qb, .ref qe, .int od, .int ot, .int tm])), (qb, .inl (cA, 32, .inl b)), (qe, .inl (cE, 2, .inl g))]) [1, 2, 3] (by decide) rfl
  have hKc := hK.sub (tys' := [(cA, .int), (cE, .int)]) [0, 1] rfl
  have hFc := va_free (wc := [(qf, .inr (0, [.ref qb, .ref qe, .int od, .int ot, .int tm])), (qb, .inl (cA, 32, .inl b)), (qe, .inl (cE, 2, .inl g))]) hD hS hA [1, 2, 3] rfl
  refine va_calli (va_runV (As := [.int (tt_ac b), .int 1]) (rest := []) ⟨hx, hb, hml, hown, hts⟩ (c_F_read l dC dI cA cE qf qb qe H.size b g od ot tm (tt_ac b) 1) (cwV 2 hts gX1_activeGeneration_X0_read rfl rfl rfl (by decide +kernel) ⟨Nat.le_of_ble_eq_true rfl, Nat.le_of_ble_eq_true rfl⟩) ⟨fun a U g mk q => by obtain ⟨q0, q1, qP, qK, qD⟩ := q; exact ⟨q0, q1, qP, va_K.moved (u := U) (U := U.calling g mk a) (Vm.Alike.refl U.vm) qK, qD⟩, va_recv hKc hPc (ci := 0) (q0 := 0) rfl rfl, fun U hU hW => ⟨rfl, by rw [hU], by rw [hU]; exact hPc, va_K.moved hW.alike hKc, hDc.weaken (fun _ _ _ _ => trivial)⟩⟩ rfl rfl hl.1 rfl (lv_room (Nat.le_of_ble_eq_true rfl)) dX1_activeGeneration_9 ⟨(Nat.zero_le _), (Nat.zero_le _)⟩) hS (fun q _ h => hFc q h) hFc (fun r_2 u t H locs ht hvm hw hB hz1 hk1 hS => ?_)
  have hw : tt_rd b (tt_ac b) 1 = r_2 := hw.symm
  subst hw
  obtain ⟨hP1, hK1, hD1⟩ := hB
  rw [ht] at hP1
  obtain ⟨hP, hD⟩ := va_join (wr := [(qp, .inr (1, [.ref qf]))]) (w1 := [(qf, .inr (0, [.ref qb, .ref qe, .int od, .int ot, .int tm])), (qb, .inl (cA, 32, .inl b)), (qe, .inl (cE, 2, .inl g))]) hP hD [1, 2, 3] [0] rfl rfl (by decide) (by decide) hk1 hFc hP1 hD1
  have hP : va_P (dC, dI) ttCl [(qp, .inr (1, [.ref qf])), (qf, .inr (0, [.ref qb, .ref qe, .int od, .int ot, .int tm])), (qb, .inl (cA, 32, .inl b)), (qe, .inl (cE, 2, .inl g))] H := hP
  have hD : va_D A [(qp, .inr (1, [.ref qf])), (qf, .inr (0, [.ref qb, .ref qe, .int od, .int ot, .int tm])), (qb, .inl (cA, 32, .inl b)), (qe, .inl (cE, 2, .inl g))] := hD
  have hP9 := hP.sub (ws' := [(qp, .inr (1, [.ref qf])), (qf, .inr (0, [.ref qb, .ref qe, .int od, .int ot, .int tm])), (qb, .inl (cA, 32, .inl b)), (qe, .inl (cE, 2, .inl g))]) [0, 1, 2, 3] rfl
  have hD9 := hD.sub (ws' := [(qp, .inr (1, [.ref qf])), (qf, .inr (0, [.ref qb, .ref qe, .int od, .int ot, .int tm])), (qb, .inl (cA, 32, .inl b)), (qe, .inl (cE, 2, .inl g))]) [0, 1, 2, 3] (by decide) rfl
  have hK9 := hK.sub (tys' := [(cA, .int), (cE, .int)]) [0, 1] rfl
  exact W.iret (v := tt_rd b (tt_ac b) 1) hx hb hr (fun t ht hW => ⟨⟨tt_rd b (tt_ac b) 1, (), rfl, rfl, by rw [ht]; exact hP9, va_K.moved hW.alike hK9, hD9⟩, hS.F ht⟩) hS.2.2 dX1_activeGeneration_12
set_option maxHeartbeats 4000000 in
set_option maxRecDepth 100000 in
theorem c_P_pin (l : Launch) (dC : Nat → ClassId) (dI : Nat → Nat → Nat) (cA cE : ClassId) (qp qf qb qe : Nat) (sz : Nat) (b g : Nat → Int32) (od ot tm : Int32) : Met l yX1_pin wsX1_pin ({ frames := 3, cells := 0, slots := 0, locals := 64 }) (va_Pc [.ref qp] (fun U => U.heap.size = sz ∧ va_P (dC, dI) ttCl [(qp, .inr (1, [.ref qf])), (qf, .inr (0, [.ref qb, .ref qe, .int od, .int ot, .int tm])), (qb, .inl (cA, 32, .inl b)), (qe, .inl (cE, 2, .inl g))] U.heap ∧ va_K (dC, dI) ttCl [(cA, .int), (cE, .int)] U ∧ va_D (fun _ => True) [(qp, .inr (1, [.ref qf])), (qf, .inr (0, [.ref qb, .ref qe, .int od, .int ot, .int tm])), (qb, .inl (cA, 32, .inl b)), (qe, .inl (cE, 2, .inl g))])) (va_Qi (fun (r : Int32) (_ : Unit) => r = tt_pin b) (fun (_ : Unit) (t : State) => at_P dC dI cA cE (va_A [(qp, .inr (1, [.ref qf])), (qf, .inr (0, [.ref qb, .ref qe, .int od, .int ot, .int tm])), (qb, .inl (cA, 32, .inl b)), (qe, .inl (cE, 2, .inl g))] sz) qp qf qb qe (b, g, od, ot, tm) t) (va_A [(qp, .inr (1, [.ref qf])), (qf, .inr (0, [.ref qb, .ref qe, .int od, .int ot, .int tm])), (qb, .inl (cA, 32, .inl b)), (qe, .inl (cE, 2, .inl g))] sz)) 0 0 (va_A [(qp, .inr (1, [.ref qf])), (qf, .inr (0, [.ref qb, .ref qe, .int od, .int ot, .int tm])), (qb, .inl (cA, 32, .inl b)), (qe, .inl (cE, 2, .inl g))] sz) := by
  refine Met.ofW (cc := cX1_pin) (maxL := 2) (ret := (some .int)) (by decide) rfl ?_
  intro p e s m args below meth c s₁ B hml hv
  obtain ⟨rfl, hsz, hP, hK, hD0⟩ := hv
  have hx := B.exec
  have hb := B.bytes
  have hr := B.returns
  have hts := atoms_spec (ws := wsX1_pin) B.pre
  have hown : s.vm.findClass RX1 = some m.cls := findClass_of_methodNamed B.named
  have hlocks := B.notSynchronized
  subst hsz
  have hD := hD0.self (sz := s.heap.size)
  generalize hAe : va_A [(qp, .inr (1, [.ref qf])), (qf, .inr (0, [.ref qb, .ref qe, .int od, .int ot, .int tm])), (qb, .inl (cA, 32, .inl b)), (qe, .inl (cE, 2, .inl g))] s.heap.size = A at hD ⊢
  have hA : ∀ q : Nat, s.heap.size ≤ q → A q := fun q h => by rw [← hAe]; exact Or.inr h
  have hS : va_S A s.heap s.heap [] := va_S.rf
  have hP : va_P (dC, dI) ttCl [(qp, .inr (1, [.ref qf])), (qf, .inr (0, [.ref qb, .ref qe, .int od, .int ot, .int tm])), (qb, .inl (cA, 32, .inl b)), (qe, .inl (cE, 2, .inl g))] s.heap := hP
  have hl := lv_entry ([.ref qp]) (n := 2) (Nat.le_of_ble_eq_true rfl)
  rw [lg_entry_eq]
  generalize (lg_sl ([.ref qp]) ++ List.replicate (2 - (lg_sl ([.ref qp])).length) Slot.unset).toArray = ls at hl ⊢
  have hl : lv_has ls 2 [(0, .ref qp)] := hl
  refine lv_aload_n hx hb dX1_pin_0 rfl (lv_at hl 0 rfl) ?_
  have hPc := hP.sub (ws' := [(qp, .inr (1, [.ref qf])), (qf, .inr (0, [.ref qb, .ref qe, .int od, .int ot, .int tm])), (qb, .inl (cA, 32, .inl b)), (qe, .inl (cE, 2, .inl g))]) [0, 1, 2, 3] rfl
  have hDc := hD.sub (ws' := [(qp, .inr (1, [.ref qf])), (qf, .inr (0, [.ref qb, .ref qe, .int od, .int ot, .int tm])), (qb, .inl (cA, 32, .inl b)), (qe, .inl (cE, 2, .inl g))]) [0, 1, 2, 3] (by decide) rfl
  have hKc := hK.sub (tys' := [(cA, .int), (cE, .int)]) [0, 1] rfl
  have hFc := va_free (wc := [(qp, .inr (1, [.ref qf])), (qf, .inr (0, [.ref qb, .ref qe, .int od, .int ot, .int tm])), (qb, .inl (cA, 32, .inl b)), (qe, .inl (cE, 2, .inl g))]) hD hS hA [0, 1, 2, 3] rfl
  refine va_calli (va_runV (As := []) (rest := []) ⟨hx, hb, hml, hown, hts⟩ (c_P_active l dC dI cA cE qp qf qb qe s.heap.size b g od ot tm) (cwV 0 hts gX1_pin_X1_active rfl rfl rfl (by decide +kernel) ⟨Nat.le_of_ble_eq_true rfl, Nat.le_of_ble_eq_true rfl⟩) ⟨fun a U g mk q => by obtain ⟨q0, q1, qP, qK, qD⟩ := q; exact ⟨q0, q1, qP, va_K.moved (u := U) (U := U.calling g mk a) (Vm.Alike.refl U.vm) qK, qD⟩, va_recv hKc hPc (ci := 1) (q0 := 0) rfl rfl, fun U hU hW => ⟨rfl, by rw [hU], by rw [hU]; exact hPc, va_K.moved hW.alike hKc, hDc.weaken (fun _ _ _ _ => trivial)⟩⟩ rfl rfl hl.1 rfl (lv_room (Nat.le_of_ble_eq_true rfl)) dX1_pin_1 ⟨(Nat.zero_le _), (Nat.zero_le _)⟩) hS (fun q _ h => hFc q h) hFc (fun r_1 u t H locs ht hvm hw hB hz1 hk1 hS => ?_)
  have hw : tt_ac b = r_1 := hw.symm
  subst hw
  obtain ⟨hP1, hK1, hD1⟩ := hB
  rw [ht] at hP1
  obtain ⟨hP, hD⟩ := va_join (wr := []) (w1 := [(qp, .inr (1, [.ref qf])), (qf, .inr (0, [.ref qb, .ref qe, .int od, .int ot, .int tm])), (qb, .inl (cA, 32, .inl b)), (qe, .inl (cE, 2, .inl g))]) hP hD [0, 1, 2, 3] [] rfl rfl (by decide) (by decide) hk1 hFc hP1 hD1
  have hP : va_P (dC, dI) ttCl [(qp, .inr (1, [.ref qf])), (qf, .inr (0, [.ref qb, .ref qe, .int od, .int ot, .int tm])), (qb, .inl (cA, 32, .inl b)), (qe, .inl (cE, 2, .inl g))] H := hP
  have hD : va_D A [(qp, .inr (1, [.ref qf])), (qf, .inr (0, [.ref qb, .ref qe, .int od, .int ot, .int tm])), (qb, .inl (cA, 32, .inl b)), (qe, .inl (cE, 2, .inl g))] := hD
  refine lv_istore_n (lv' := [(1, .int (tt_ac b)), (0, .ref qp)]) hx hb dX1_pin_4 rfl hl (by decide) rfl (fun ls hl => ?_)
  refine lv_aload_n hx hb dX1_pin_5 rfl (lv_at hl 1 rfl) ?_
  refine va_get (D := (dC, dI)) (ci := 1) (v := .ref qf) (C := RX1) (T := TX1) (N := 1) hx hb hts (by decide +kernel) hown hK hP 0 rfl rfl 0 (by decide) (hts (.fieldLink RX1 7 "TornTryCounter$Pages" "flash" "LTornTryCounter$Flash;") (by decide +kernel)) (fun _ h9 => h9) rfl dX1_pin_6 ?_
  refine lv_iload_n hx hb dX1_pin_9 rfl (lv_at hl 0 rfl) ?_
  refine lv_iconst (v := 2) hx hb dX1_pin_10 (by decide) ?_
  have hPc := hP.sub (ws' := [(qf, .inr (0, [.ref qb, .ref qe, .int od, .int ot, .int tm])), (qb, .inl (cA, 32, .inl b)), (qe, .inl (cE, 2, .inl g))]) [1, 2, 3] rfl
  have hDc := hD.sub (ws' := [(qf, .inr (0, [.ref qb, .ref qe, .int od, .int ot, .int tm])), (qb, .inl (cA, 32, .inl b)), (qe, .inl (cE, 2, .inl g))]) [1, 2, 3] (by decide) rfl
  have hKc := hK.sub (tys' := [(cA, .int), (cE, .int)]) [0, 1] rfl
  have hFc := va_free (wc := [(qf, .inr (0, [.ref qb, .ref qe, .int od, .int ot, .int tm])), (qb, .inl (cA, 32, .inl b)), (qe, .inl (cE, 2, .inl g))]) hD hS hA [1, 2, 3] rfl
  refine va_calli (va_runV (As := [.int (tt_ac b), .int 2]) (rest := []) ⟨hx, hb, hml, hown, hts⟩ (c_F_read l dC dI cA cE qf qb qe H.size b g od ot tm (tt_ac b) 2) (cwV 2 hts gX1_pin_X0_read rfl rfl rfl (by decide +kernel) ⟨Nat.le_of_ble_eq_true rfl, Nat.le_of_ble_eq_true rfl⟩) ⟨fun a U g mk q => by obtain ⟨q0, q1, qP, qK, qD⟩ := q; exact ⟨q0, q1, qP, va_K.moved (u := U) (U := U.calling g mk a) (Vm.Alike.refl U.vm) qK, qD⟩, va_recv hKc hPc (ci := 0) (q0 := 0) rfl rfl, fun U hU hW => ⟨rfl, by rw [hU], by rw [hU]; exact hPc, va_K.moved hW.alike hKc, hDc.weaken (fun _ _ _ _ => trivial)⟩⟩ rfl rfl hl.1 rfl (lv_room (Nat.le_of_ble_eq_true rfl)) dX1_pin_11 ⟨(Nat.zero_le _), (Nat.zero_le _)⟩) hS (fun q _ h => hFc q h) hFc (fun r_2 u t H locs ht hvm hw hB hz1 hk1 hS => ?_)
  have hw : tt_rd b (tt_ac b) 2 = r_2 := hw.symm
  subst hw
  obtain ⟨hP1, hK1, hD1⟩ := hB
  rw [ht] at hP1
  obtain ⟨hP, hD⟩ := va_join (wr := [(qp, .inr (1, [.ref qf]))]) (w1 := [(qf, .inr (0, [.ref qb, .ref qe, .int od, .int ot, .int tm])), (qb, .inl (cA, 32, .inl b)), (qe, .inl (cE, 2, .inl g))]) hP hD [1, 2, 3] [0] rfl rfl (by decide) (by decide) hk1 hFc hP1 hD1
  have hP : va_P (dC, dI) ttCl [(qp, .inr (1, [.ref qf])), (qf, .inr (0, [.ref qb, .ref qe, .int od, .int ot, .int tm])), (qb, .inl (cA, 32, .inl b)), (qe, .inl (cE, 2, .inl g))] H := hP
  have hD : va_D A [(qp, .inr (1, [.ref qf])), (qf, .inr (0, [.ref qb, .ref qe, .int od, .int ot, .int tm])), (qb, .inl (cA, 32, .inl b)), (qe, .inl (cE, 2, .inl g))] := hD
  refine lv_bipush (v := 8) hx hb dX1_pin_14 (by decide) ?_
  refine lv_ishl hx hb dX1_pin_16 ?_
  refine lv_aload_n hx hb dX1_pin_17 rfl (lv_at hl 1 rfl) ?_
  refine va_get (D := (dC, dI)) (ci := 1) (v := .ref qf) (C := RX1) (T := TX1) (N := 1) hx hb hts (by decide +kernel) hown hK hP 0 rfl rfl 0 (by decide) (hts (.fieldLink RX1 7 "TornTryCounter$Pages" "flash" "LTornTryCounter$Flash;") (by decide +kernel)) (fun _ h9 => h9) rfl dX1_pin_18 ?_
  refine lv_iload_n hx hb dX1_pin_21 rfl (lv_at hl 0 rfl) ?_
  refine lv_iconst (v := 3) hx hb dX1_pin_22 (by decide) ?_
  have hPc := hP.sub (ws' := [(qf, .inr (0, [.ref qb, .ref qe, .int od, .int ot, .int tm])), (qb, .inl (cA, 32, .inl b)), (qe, .inl (cE, 2, .inl g))]) [1, 2, 3] rfl
  have hDc := hD.sub (ws' := [(qf, .inr (0, [.ref qb, .ref qe, .int od, .int ot, .int tm])), (qb, .inl (cA, 32, .inl b)), (qe, .inl (cE, 2, .inl g))]) [1, 2, 3] (by decide) rfl
  have hKc := hK.sub (tys' := [(cA, .int), (cE, .int)]) [0, 1] rfl
  have hFc := va_free (wc := [(qf, .inr (0, [.ref qb, .ref qe, .int od, .int ot, .int tm])), (qb, .inl (cA, 32, .inl b)), (qe, .inl (cE, 2, .inl g))]) hD hS hA [1, 2, 3] rfl
  refine va_calli (va_runV (As := [.int (tt_ac b), .int 3]) (rest := [.int ((tt_rd b (tt_ac b) 2) <<< ((8 : Int32) &&& 31))]) ⟨hx, hb, hml, hown, hts⟩ (c_F_read l dC dI cA cE qf qb qe H.size b g od ot tm (tt_ac b) 3) (cwV 2 hts gX1_pin_X0_read rfl rfl rfl (by decide +kernel) ⟨Nat.le_of_ble_eq_true rfl, Nat.le_of_ble_eq_true rfl⟩) ⟨fun a U g mk q => by obtain ⟨q0, q1, qP, qK, qD⟩ := q; exact ⟨q0, q1, qP, va_K.moved (u := U) (U := U.calling g mk a) (Vm.Alike.refl U.vm) qK, qD⟩, va_recv hKc hPc (ci := 0) (q0 := 0) rfl rfl, fun U hU hW => ⟨rfl, by rw [hU], by rw [hU]; exact hPc, va_K.moved hW.alike hKc, hDc.weaken (fun _ _ _ _ => trivial)⟩⟩ rfl rfl hl.1 rfl (lv_room (Nat.le_of_ble_eq_true rfl)) dX1_pin_23 ⟨(Nat.zero_le _), (Nat.zero_le _)⟩) hS (fun q _ h => hFc q h) hFc (fun r_3 u t H locs ht hvm hw hB hz1 hk1 hS => ?_)
  have hw : tt_rd b (tt_ac b) 3 = r_3 := hw.symm
  subst hw
  obtain ⟨hP1, hK1, hD1⟩ := hB
  rw [ht] at hP1
  obtain ⟨hP, hD⟩ := va_join (wr := [(qp, .inr (1, [.ref qf]))]) (w1 := [(qf, .inr (0, [.ref qb, .ref qe, .int od, .int ot, .int tm])), (qb, .inl (cA, 32, .inl b)), (qe, .inl (cE, 2, .inl g))]) hP hD [1, 2, 3] [0] rfl rfl (by decide) (by decide) hk1 hFc hP1 hD1
  have hP : va_P (dC, dI) ttCl [(qp, .inr (1, [.ref qf])), (qf, .inr (0, [.ref qb, .ref qe, .int od, .int ot, .int tm])), (qb, .inl (cA, 32, .inl b)), (qe, .inl (cE, 2, .inl g))] H := hP
  have hD : va_D A [(qp, .inr (1, [.ref qf])), (qf, .inr (0, [.ref qb, .ref qe, .int od, .int ot, .int tm])), (qb, .inl (cA, 32, .inl b)), (qe, .inl (cE, 2, .inl g))] := hD
  refine lv_ior hx hb dX1_pin_26 ?_
  have hP9 := hP.sub (ws' := [(qp, .inr (1, [.ref qf])), (qf, .inr (0, [.ref qb, .ref qe, .int od, .int ot, .int tm])), (qb, .inl (cA, 32, .inl b)), (qe, .inl (cE, 2, .inl g))]) [0, 1, 2, 3] rfl
  have hD9 := hD.sub (ws' := [(qp, .inr (1, [.ref qf])), (qf, .inr (0, [.ref qb, .ref qe, .int od, .int ot, .int tm])), (qb, .inl (cA, 32, .inl b)), (qe, .inl (cE, 2, .inl g))]) [0, 1, 2, 3] (by decide) rfl
  have hK9 := hK.sub (tys' := [(cA, .int), (cE, .int)]) [0, 1] rfl
  exact W.iret (v := ((tt_rd b (tt_ac b) 2) <<< ((8 : Int32) &&& 31)) ||| (tt_rd b (tt_ac b) 3)) hx hb hr (fun t ht hW => ⟨⟨((tt_rd b (tt_ac b) 2) <<< ((8 : Int32) &&& 31)) ||| (tt_rd b (tt_ac b) 3), (), rfl, (by first | (simp only [tt_pin, reduceIte, eq_self]; done) | (simp [tt_pin]; done)), by rw [ht]; exact hP9, va_K.moved hW.alike hK9, hD9⟩, hS.F ht⟩) hS.2.2 dX1_pin_27
set_option maxHeartbeats 4000000 in
set_option maxRecDepth 100000 in
theorem c_P_remark (l : Launch) (dC : Nat → ClassId) (dI : Nat → Nat → Nat) (cA cE : ClassId) (qp qf qb qe : Nat) (sz : Nat) (b g : Nat → Int32) (od ot tm : Int32) (a v : Int32) : Met l yX1_remark wsX1_remark ({ frames := 3, cells := 0, slots := 0, locals := 64 }) (va_Pc [.ref qp, .int a, .int v] (fun U => U.heap.size = sz ∧ va_P (dC, dI) ttCl [(qp, .inr (1, [.ref qf])), (qf, .inr (0, [.ref qb, .ref qe, .int od, .int ot, .int tm])), (qb, .inl (cA, 32, .inl b)), (qe, .inl (cE, 2, .inl g))] U.heap ∧ va_K (dC, dI) ttCl [(cA, .int), (cE, .int)] U ∧ va_D (fun _ => True) [(qp, .inr (1, [.ref qf])), (qf, .inr (0, [.ref qb, .ref qe, .int od, .int ot, .int tm])), (qb, .inl (cA, 32, .inl b)), (qe, .inl (cE, 2, .inl g))])) (va_Qi (fun (r : Int32) (u : tt_F) => tt_prog (b, g, od, ot, tm) (tt_ac b) a v = (r, u)) (fun (u : tt_F) (t : State) => at_P dC dI cA cE (va_A [(qp, .inr (1, [.ref qf])), (qf, .inr (0, [.ref qb, .ref qe, .int od, .int ot, .int tm])), (qb, .inl (cA, 32, .inl b)), (qe, .inl (cE, 2, .inl g))] sz) qp qf qb qe u t) (va_A [(qp, .inr (1, [.ref qf])), (qf, .inr (0, [.ref qb, .ref qe, .int od, .int ot, .int tm])), (qb, .inl (cA, 32, .inl b)), (qe, .inl (cE, 2, .inl g))] sz)) 0 0 (va_A [(qp, .inr (1, [.ref qf])), (qf, .inr (0, [.ref qb, .ref qe, .int od, .int ot, .int tm])), (qb, .inl (cA, 32, .inl b)), (qe, .inl (cE, 2, .inl g))] sz) := by
  refine Met.ofW (cc := cX1_remark) (maxL := 3) (ret := (some .boolean)) (by decide) rfl ?_
  intro p e s m args below meth c s₁ B hml hv
  obtain ⟨rfl, hsz, hP, hK, hD0⟩ := hv
  have hx := B.exec
  have hb := B.bytes
  have hr := B.returns
  have hts := atoms_spec (ws := wsX1_remark) B.pre
  have hown : s.vm.findClass RX1 = some m.cls := findClass_of_methodNamed B.named
  have hlocks := B.notSynchronized
  subst hsz
  have hD := hD0.self (sz := s.heap.size)
  generalize hAe : va_A [(qp, .inr (1, [.ref qf])), (qf, .inr (0, [.ref qb, .ref qe, .int od, .int ot, .int tm])), (qb, .inl (cA, 32, .inl b)), (qe, .inl (cE, 2, .inl g))] s.heap.size = A at hD ⊢
  have hA : ∀ q : Nat, s.heap.size ≤ q → A q := fun q h => by rw [← hAe]; exact Or.inr h
  have hS : va_S A s.heap s.heap [] := va_S.rf
  have hP : va_P (dC, dI) ttCl [(qp, .inr (1, [.ref qf])), (qf, .inr (0, [.ref qb, .ref qe, .int od, .int ot, .int tm])), (qb, .inl (cA, 32, .inl b)), (qe, .inl (cE, 2, .inl g))] s.heap := hP
  have hl := lv_entry ([.ref qp, .int a, .int v]) (n := 3) (Nat.le_of_ble_eq_true rfl)
  rw [lg_entry_eq]
  generalize (lg_sl ([.ref qp, .int a, .int v]) ++ List.replicate (3 - (lg_sl ([.ref qp, .int a, .int v])).length) Slot.unset).toArray = ls at hl ⊢
  have hl : lv_has ls 3 [(0, .ref qp), (1, .int a), (2, .int v)] := hl
  refine lv_aload_n hx hb dX1_remark_0 rfl (lv_at hl 0 rfl) ?_
  refine va_get (D := (dC, dI)) (ci := 1) (v := .ref qf) (C := RX1) (T := TX1) (N := 1) hx hb hts (by decide +kernel) hown hK hP 0 rfl rfl 0 (by decide) (hts (.fieldLink RX1 7 "TornTryCounter$Pages" "flash" "LTornTryCounter$Flash;") (by decide +kernel)) (fun _ h9 => h9) rfl dX1_remark_1 ?_
  refine lv_aload_n hx hb dX1_remark_4 rfl (lv_at hl 0 rfl) ?_
  have hPc := hP.sub (ws' := [(qp, .inr (1, [.ref qf])), (qf, .inr (0, [.ref qb, .ref qe, .int od, .int ot, .int tm])), (qb, .inl (cA, 32, .inl b)), (qe, .inl (cE, 2, .inl g))]) [0, 1, 2, 3] rfl
  have hDc := hD.sub (ws' := [(qp, .inr (1, [.ref qf])), (qf, .inr (0, [.ref qb, .ref qe, .int od, .int ot, .int tm])), (qb, .inl (cA, 32, .inl b)), (qe, .inl (cE, 2, .inl g))]) [0, 1, 2, 3] (by decide) rfl
  have hKc := hK.sub (tys' := [(cA, .int), (cE, .int)]) [0, 1] rfl
  have hFc := va_free (wc := [(qp, .inr (1, [.ref qf])), (qf, .inr (0, [.ref qb, .ref qe, .int od, .int ot, .int tm])), (qb, .inl (cA, 32, .inl b)), (qe, .inl (cE, 2, .inl g))]) hD hS hA [0, 1, 2, 3] rfl
  refine va_calli (va_runV (As := []) (rest := [.ref qf]) ⟨hx, hb, hml, hown, hts⟩ (c_P_active l dC dI cA cE qp qf qb qe s.heap.size b g od ot tm) (cwV 0 hts gX1_remark_X1_active rfl rfl rfl (by decide +kernel) ⟨Nat.le_of_ble_eq_true rfl, Nat.le_of_ble_eq_true rfl⟩) ⟨fun a U g mk q => by obtain ⟨q0, q1, qP, qK, qD⟩ := q; exact ⟨q0, q1, qP, va_K.moved (u := U) (U := U.calling g mk a) (Vm.Alike.refl U.vm) qK, qD⟩, va_recv hKc hPc (ci := 1) (q0 := 0) rfl rfl, fun U hU hW => ⟨rfl, by rw [hU], by rw [hU]; exact hPc, va_K.moved hW.alike hKc, hDc.weaken (fun _ _ _ _ => trivial)⟩⟩ rfl rfl hl.1 rfl (lv_room (Nat.le_of_ble_eq_true rfl)) dX1_remark_5 ⟨(Nat.zero_le _), (Nat.zero_le _)⟩) hS (fun q _ h => hFc q h) hFc (fun r_1 u t H locs ht hvm hw hB hz1 hk1 hS => ?_)
  have hw : tt_ac b = r_1 := hw.symm
  subst hw
  obtain ⟨hP1, hK1, hD1⟩ := hB
  rw [ht] at hP1
  obtain ⟨hP, hD⟩ := va_join (wr := []) (w1 := [(qp, .inr (1, [.ref qf])), (qf, .inr (0, [.ref qb, .ref qe, .int od, .int ot, .int tm])), (qb, .inl (cA, 32, .inl b)), (qe, .inl (cE, 2, .inl g))]) hP hD [0, 1, 2, 3] [] rfl rfl (by decide) (by decide) hk1 hFc hP1 hD1
  have hP : va_P (dC, dI) ttCl [(qp, .inr (1, [.ref qf])), (qf, .inr (0, [.ref qb, .ref qe, .int od, .int ot, .int tm])), (qb, .inl (cA, 32, .inl b)), (qe, .inl (cE, 2, .inl g))] H := hP
  have hD : va_D A [(qp, .inr (1, [.ref qf])), (qf, .inr (0, [.ref qb, .ref qe, .int od, .int ot, .int tm])), (qb, .inl (cA, 32, .inl b)), (qe, .inl (cE, 2, .inl g))] := hD
  refine lv_iload_n hx hb dX1_remark_8 rfl (lv_at hl 1 rfl) ?_
  refine lv_iload_n hx hb dX1_remark_9 rfl (lv_at hl 2 rfl) ?_
  have hPc := hP.sub (ws' := [(qf, .inr (0, [.ref qb, .ref qe, .int od, .int ot, .int tm])), (qb, .inl (cA, 32, .inl b)), (qe, .inl (cE, 2, .inl g))]) [1, 2, 3] rfl
  have hDc := hD.sub (ws' := [(qf, .inr (0, [.ref qb, .ref qe, .int od, .int ot, .int tm])), (qb, .inl (cA, 32, .inl b)), (qe, .inl (cE, 2, .inl g))]) [1, 2, 3] (by decide) rfl
  have hKc := hK.sub (tys' := [(cA, .int), (cE, .int)]) [0, 1] rfl
  have hFc := va_free (wc := [(qf, .inr (0, [.ref qb, .ref qe, .int od, .int ot, .int tm])), (qb, .inl (cA, 32, .inl b)), (qe, .inl (cE, 2, .inl g))]) hD hS hA [1, 2, 3] rfl
  refine va_calli (va_runV (As := [.int (tt_ac b), .int a, .int v]) (rest := []) ⟨hx, hb, hml, hown, hts⟩ (c_F_program l dC dI cA cE qf qb qe H.size b g od ot tm (tt_ac b) a v) (cwV 3 hts gX1_remark_X0_program rfl rfl rfl (by decide +kernel) ⟨Nat.le_of_ble_eq_true rfl, Nat.le_of_ble_eq_true rfl⟩) ⟨fun a U g mk q => by obtain ⟨q0, q1, qP, qK, qD⟩ := q; exact ⟨q0, q1, qP, va_K.moved (u := U) (U := U.calling g mk a) (Vm.Alike.refl U.vm) qK, qD⟩, va_recv hKc hPc (ci := 0) (q0 := 0) rfl rfl, fun U hU hW => ⟨rfl, by rw [hU], by rw [hU]; exact hPc, va_K.moved hW.alike hKc, hDc.weaken (fun _ _ _ _ => trivial)⟩⟩ rfl rfl hl.1 rfl (lv_room (Nat.le_of_ble_eq_true rfl)) dX1_remark_10 ⟨(Nat.zero_le _), (Nat.zero_le _)⟩) hS (fun q _ h => hFc q h) hFc (fun r_2 u t H locs ht hvm hw hB hz1 hk1 hS => ?_)
  obtain ⟨b_2, g_2, od_2, ot_2, tm_2⟩ := u
  obtain ⟨hP1, hK1, hD1⟩ := hB
  have e_2 : tt_prog (b, g, od, ot, tm) (tt_ac b) a v = (r_2, (b_2, g_2, od_2, ot_2, tm_2)) := hw
  rw [ht] at hP1
  obtain ⟨hP, hD⟩ := va_join (wr := [(qp, .inr (1, [.ref qf]))]) (w1 := [(qf, .inr (0, [.ref qb, .ref qe, .int od_2, .int ot_2, .int tm_2])), (qb, .inl (cA, 32, .inl b_2)), (qe, .inl (cE, 2, .inl g_2))]) hP hD [1, 2, 3] [0] rfl rfl (by decide) (by decide) hk1 hFc hP1 hD1
  have hP : va_P (dC, dI) ttCl [(qp, .inr (1, [.ref qf])), (qf, .inr (0, [.ref qb, .ref qe, .int od_2, .int ot_2, .int tm_2])), (qb, .inl (cA, 32, .inl b_2)), (qe, .inl (cE, 2, .inl g_2))] H := hP
  have hD : va_D A [(qp, .inr (1, [.ref qf])), (qf, .inr (0, [.ref qb, .ref qe, .int od_2, .int ot_2, .int tm_2])), (qb, .inl (cA, 32, .inl b_2)), (qe, .inl (cE, 2, .inl g_2))] := hD
  have hP9 := hP.sub (ws' := [(qp, .inr (1, [.ref qf])), (qf, .inr (0, [.ref qb, .ref qe, .int od_2, .int ot_2, .int tm_2])), (qb, .inl (cA, 32, .inl b_2)), (qe, .inl (cE, 2, .inl g_2))]) [0, 1, 2, 3] rfl
  have hD9 := hD.sub (ws' := [(qp, .inr (1, [.ref qf])), (qf, .inr (0, [.ref qb, .ref qe, .int od_2, .int ot_2, .int tm_2])), (qb, .inl (cA, 32, .inl b_2)), (qe, .inl (cE, 2, .inl g_2))]) [0, 1, 2, 3] (by decide) rfl
  have hK9 := hK.sub (tys' := [(cA, .int), (cE, .int)]) [0, 1] rfl
  exact W.zret (v := r_2) hx hb hr (tt_prog_z e_2) (fun t ht hW => ⟨⟨r_2, (b_2, g_2, od_2, ot_2, tm_2), rfl, (by first | (simp only [e_2, reduceIte, eq_self]; done) | (simp [e_2]; done)), by rw [ht]; exact hP9, va_K.moved hW.alike hK9, hD9⟩, hS.F ht⟩) hS.2.2 dX1_remark_13
end
section
set_option maxHeartbeats 4000000 in
set_option maxRecDepth 100000 in
theorem c_P_pinTriesUsed (l : Launch) (dC : Nat → ClassId) (dI : Nat → Nat → Nat) (cA cE : ClassId) (qp qf qb qe : Nat) (sz : Nat) (b g : Nat → Int32) (od ot tm : Int32) : Met l yX1_pinTriesUsed wsX1_pinTriesUsed ({ frames := 3, cells := 0, slots := 0, locals := 64 }) (va_Pc [.ref qp] (fun U => U.heap.size = sz ∧ va_P (dC, dI) ttCl [(qp, .inr (1, [.ref qf])), (qf, .inr (0, [.ref qb, .ref qe, .int od, .int ot, .int tm])), (qb, .inl (cA, 32, .inl b)), (qe, .inl (cE, 2, .inl g))] U.heap ∧ va_K (dC, dI) ttCl [(cA, .int), (cE, .int)] U ∧ va_D (fun _ => True) [(qp, .inr (1, [.ref qf])), (qf, .inr (0, [.ref qb, .ref qe, .int od, .int ot, .int tm])), (qb, .inl (cA, 32, .inl b)), (qe, .inl (cE, 2, .inl g))])) (va_Qi (fun (r : Int32) (_ : Unit) => r = tt_pu b) (fun (_ : Unit) (t : State) => at_P dC dI cA cE (va_A [(qp, .inr (1, [.ref qf])), (qf, .inr (0, [.ref qb, .ref qe, .int od, .int ot, .int tm])), (qb, .inl (cA, 32, .inl b)), (qe, .inl (cE, 2, .inl g))] sz) qp qf qb qe (b, g, od, ot, tm) t) (va_A [(qp, .inr (1, [.ref qf])), (qf, .inr (0, [.ref qb, .ref qe, .int od, .int ot, .int tm])), (qb, .inl (cA, 32, .inl b)), (qe, .inl (cE, 2, .inl g))] sz)) 0 0 (va_A [(qp, .inr (1, [.ref qf])), (qf, .inr (0, [.ref qb, .ref qe, .int od, .int ot, .int tm])), (qb, .inl (cA, 32, .inl b)), (qe, .inl (cE, 2, .inl g))] sz) := by
  refine Met.ofW (cc := cX1_pinTriesUsed) (maxL := 5) (ret := (some .int)) (by decide) rfl ?_
  intro p e s m args below meth c s₁ B hml hv
  obtain ⟨rfl, hsz, hP, hK, hD0⟩ := hv
  have hx := B.exec
  have hb := B.bytes
  have hr := B.returns
  have hts := atoms_spec (ws := wsX1_pinTriesUsed) B.pre
  have hown : s.vm.findClass RX1 = some m.cls := findClass_of_methodNamed B.named
  have hlocks := B.notSynchronized
  subst hsz
  have hD := hD0.self (sz := s.heap.size)
  generalize hAe : va_A [(qp, .inr (1, [.ref qf])), (qf, .inr (0, [.ref qb, .ref qe, .int od, .int ot, .int tm])), (qb, .inl (cA, 32, .inl b)), (qe, .inl (cE, 2, .inl g))] s.heap.size = A at hD ⊢
  have hA : ∀ q : Nat, s.heap.size ≤ q → A q := fun q h => by rw [← hAe]; exact Or.inr h
  have hS : va_S A s.heap s.heap [] := va_S.rf
  have hP : va_P (dC, dI) ttCl [(qp, .inr (1, [.ref qf])), (qf, .inr (0, [.ref qb, .ref qe, .int od, .int ot, .int tm])), (qb, .inl (cA, 32, .inl b)), (qe, .inl (cE, 2, .inl g))] s.heap := hP
  have hl := lv_entry ([.ref qp]) (n := 5) (Nat.le_of_ble_eq_true rfl)
  rw [lg_entry_eq]
  generalize (lg_sl ([.ref qp]) ++ List.replicate (5 - (lg_sl ([.ref qp])).length) Slot.unset).toArray = ls at hl ⊢
  have hl : lv_has ls 5 [(0, .ref qp)] := hl
  refine lv_aload_n hx hb dX1_pinTriesUsed_0 rfl (lv_at hl 0 rfl) ?_
  have hPc := hP.sub (ws' := [(qp, .inr (1, [.ref qf])), (qf, .inr (0, [.ref qb, .ref qe, .int od, .int ot, .int tm])), (qb, .inl (cA, 32, .inl b)), (qe, .inl (cE, 2, .inl g))]) [0, 1, 2, 3] rfl
  have hDc := hD.sub (ws' := [(qp, .inr (1, [.ref qf])), (qf, .inr (0, [.ref qb, .ref qe, .int od, .int ot, .int tm])), (qb, .inl (cA, 32, .inl b)), (qe, .inl (cE, 2, .inl g))]) [0, 1, 2, 3] (by decide) rfl
  have hKc := hK.sub (tys' := [(cA, .int), (cE, .int)]) [0, 1] rfl
  have hFc := va_free (wc := [(qp, .inr (1, [.ref qf])), (qf, .inr (0, [.ref qb, .ref qe, .int od, .int ot, .int tm])), (qb, .inl (cA, 32, .inl b)), (qe, .inl (cE, 2, .inl g))]) hD hS hA [0, 1, 2, 3] rfl
  refine va_calli (va_runV (As := []) (rest := []) ⟨hx, hb, hml, hown, hts⟩ (c_P_active l dC dI cA cE qp qf qb qe s.heap.size b g od ot tm) (cwV 0 hts gX1_pinTriesUsed_X1_active rfl rfl rfl (by decide +kernel) ⟨Nat.le_of_ble_eq_true rfl, Nat.le_of_ble_eq_true rfl⟩) ⟨fun a U g mk q => by obtain ⟨q0, q1, qP, qK, qD⟩ := q; exact ⟨q0, q1, qP, va_K.moved (u := U) (U := U.calling g mk a) (Vm.Alike.refl U.vm) qK, qD⟩, va_recv hKc hPc (ci := 1) (q0 := 0) rfl rfl, fun U hU hW => ⟨rfl, by rw [hU], by rw [hU]; exact hPc, va_K.moved hW.alike hKc, hDc.weaken (fun _ _ _ _ => trivial)⟩⟩ rfl rfl hl.1 rfl (lv_room (Nat.le_of_ble_eq_true rfl)) dX1_pinTriesUsed_1 ⟨(Nat.zero_le _), (Nat.zero_le _)⟩) hS (fun q _ h => hFc q h) hFc (fun r_1 u t H locs ht hvm hw hB hz1 hk1 hS => ?_)
  have hw : tt_ac b = r_1 := hw.symm
  subst hw
  obtain ⟨hP1, hK1, hD1⟩ := hB
  rw [ht] at hP1
  obtain ⟨hP, hD⟩ := va_join (wr := []) (w1 := [(qp, .inr (1, [.ref qf])), (qf, .inr (0, [.ref qb, .ref qe, .int od, .int ot, .int tm])), (qb, .inl (cA, 32, .inl b)), (qe, .inl (cE, 2, .inl g))]) hP hD [0, 1, 2, 3] [] rfl rfl (by decide) (by decide) hk1 hFc hP1 hD1
  have hP : va_P (dC, dI) ttCl [(qp, .inr (1, [.ref qf])), (qf, .inr (0, [.ref qb, .ref qe, .int od, .int ot, .int tm])), (qb, .inl (cA, 32, .inl b)), (qe, .inl (cE, 2, .inl g))] H := hP
  have hD : va_D A [(qp, .inr (1, [.ref qf])), (qf, .inr (0, [.ref qb, .ref qe, .int od, .int ot, .int tm])), (qb, .inl (cA, 32, .inl b)), (qe, .inl (cE, 2, .inl g))] := hD
  refine lv_istore_n (lv' := [(1, .int (tt_ac b)), (0, .ref qp)]) hx hb dX1_pinTriesUsed_4 rfl hl (by decide) rfl (fun ls hl => ?_)
  refine lv_aload_n hx hb dX1_pinTriesUsed_5 rfl (lv_at hl 1 rfl) ?_
  refine va_get (D := (dC, dI)) (ci := 1) (v := .ref qf) (C := RX1) (T := TX1) (N := 1) hx hb hts (by decide +kernel) hown hK hP 0 rfl rfl 0 (by decide) (hts (.fieldLink RX1 7 "TornTryCounter$Pages" "flash" "LTornTryCounter$Flash;") (by decide +kernel)) (fun _ h9 => h9) rfl dX1_pinTriesUsed_6 ?_
  refine lv_iload_n hx hb dX1_pinTriesUsed_9 rfl (lv_at hl 0 rfl) ?_
  refine lv_iconst (v := 4) hx hb dX1_pinTriesUsed_10 (by decide) ?_
  have hPc := hP.sub (ws' := [(qf, .inr (0, [.ref qb, .ref qe, .int od, .int ot, .int tm])), (qb, .inl (cA, 32, .inl b)), (qe, .inl (cE, 2, .inl g))]) [1, 2, 3] rfl
  have hDc := hD.sub (ws' := [(qf, .inr (0, [.ref qb, .ref qe, .int od, .int ot, .int tm])), (qb, .inl (cA, 32, .inl b)), (qe, .inl (cE, 2, .inl g))]) [1, 2, 3] (by decide) rfl
  have hKc := hK.sub (tys' := [(cA, .int), (cE, .int)]) [0, 1] rfl
  have hFc := va_free (wc := [(qf, .inr (0, [.ref qb, .ref qe, .int od, .int ot, .int tm])), (qb, .inl (cA, 32, .inl b)), (qe, .inl (cE, 2, .inl g))]) hD hS hA [1, 2, 3] rfl
  refine va_calli (va_runV (As := [.int (tt_ac b), .int 4]) (rest := []) ⟨hx, hb, hml, hown, hts⟩ (c_F_read l dC dI cA cE qf qb qe H.size b g od ot tm (tt_ac b) 4) (cwV 2 hts gX1_pinTriesUsed_X0_read rfl rfl rfl (by decide +kernel) ⟨Nat.le_of_ble_eq_true rfl, Nat.le_of_ble_eq_true rfl⟩) ⟨fun a U g mk q => by obtain ⟨q0, q1, qP, qK, qD⟩ := q; exact ⟨q0, q1, qP, va_K.moved (u := U) (U := U.calling g mk a) (Vm.Alike.refl U.vm) qK, qD⟩, va_recv hKc hPc (ci := 0) (q0 := 0) rfl rfl, fun U hU hW => ⟨rfl, by rw [hU], by rw [hU]; exact hPc, va_K.moved hW.alike hKc, hDc.weaken (fun _ _ _ _ => trivial)⟩⟩ rfl rfl hl.1 rfl (lv_room (Nat.le_of_ble_eq_true rfl)) dX1_pinTriesUsed_11 ⟨(Nat.zero_le _), (Nat.zero_le _)⟩) hS (fun q _ h => hFc q h) hFc (fun r_2 u t H locs ht hvm hw hB hz1 hk1 hS => ?_)
  have hw : tt_rd b (tt_ac b) 4 = r_2 := hw.symm
  subst hw
  obtain ⟨hP1, hK1, hD1⟩ := hB
  rw [ht] at hP1
  obtain ⟨hP, hD⟩ := va_join (wr := [(qp, .inr (1, [.ref qf]))]) (w1 := [(qf, .inr (0, [.ref qb, .ref qe, .int od, .int ot, .int tm])), (qb, .inl (cA, 32, .inl b)), (qe, .inl (cE, 2, .inl g))]) hP hD [1, 2, 3] [0] rfl rfl (by decide) (by decide) hk1 hFc hP1 hD1
  have hP : va_P (dC, dI) ttCl [(qp, .inr (1, [.ref qf])), (qf, .inr (0, [.ref qb, .ref qe, .int od, .int ot, .int tm])), (qb, .inl (cA, 32, .inl b)), (qe, .inl (cE, 2, .inl g))] H := hP
  have hD : va_D A [(qp, .inr (1, [.ref qf])), (qf, .inr (0, [.ref qb, .ref qe, .int od, .int ot, .int tm])), (qb, .inl (cA, 32, .inl b)), (qe, .inl (cE, 2, .inl g))] := hD
  refine lv_istore_n (lv' := [(2, .int (tt_rd b (tt_ac b) 4)), (1, .int (tt_ac b)), (0, .ref qp)]) hx hb dX1_pinTriesUsed_14 rfl hl (by decide) rfl (fun ls hl => ?_)
  refine lv_bipush (v := 6) hx hb dX1_pinTriesUsed_15 (by decide) ?_
  refine lv_istore_n (lv' := [(3, .int 6), (2, .int (tt_rd b (tt_ac b) 4)), (1, .int (tt_ac b)), (0, .ref qp)]) hx hb dX1_pinTriesUsed_17 rfl hl (by decide) rfl (fun ls hl => ?_)
  refine W.widen (k := 0) (n := 0) (by omega) (by omega) ?_
  refine tt_rec (pc := 18) (I := fun n H locs ls => ∃ i : Nat, i + n = 10 ∧ va_P (dC, dI) ttCl [(qp, .inr (1, [.ref qf])), (qf, .inr (0, [.ref qb, .ref qe, .int od, .int ot, .int tm])), (qb, .inl (cA, 32, .inl b)), (qe, .inl (cE, 2, .inl g))] H ∧ va_D A [(qp, .inr (1, [.ref qf])), (qf, .inr (0, [.ref qb, .ref qe, .int od, .int ot, .int tm])), (qb, .inl (cA, 32, .inl b)), (qe, .inl (cE, 2, .inl g))] ∧ va_S A s.heap H locs ∧ lv_has ls 5 [(0, .ref qp), (1, .int (tt_ac b)), (2, .int (tt_pf (tt_rd b (tt_ac b) 4) (tt_en b (tt_ac b)) i)), (3, .int (nI (6 + i)))]) ?_ 10 ⟨0, rfl, hP, hD, hS, lv_sub hl [3, 2, 1, 0] rfl⟩
  intro n H locs ls ih hI
  obtain ⟨i, hi, hP, hD, hS, hl⟩ := hI
  refine lv_iload_n hx hb dX1_pinTriesUsed_18 rfl (lv_at hl 3 rfl) ?_
  refine lv_bipush (v := 16) hx hb dX1_pinTriesUsed_19 (by decide) ?_
  refine lv_icmp_ge (tgt := 63) hx hb dX1_pinTriesUsed_21 (by decide) (fun c_3 => ?_) (fun c_3 => ?_)
  · have hie : i = 10 := (tt_c10 i (by omega)).1 c_3
    refine lv_iload_n hx hb dX1_pinTriesUsed_63 rfl (lv_at hl 2 rfl) ?_
    have hP9 := hP.sub (ws' := [(qp, .inr (1, [.ref qf])), (qf, .inr (0, [.ref qb, .ref qe, .int od, .int ot, .int tm])), (qb, .inl (cA, 32, .inl b)), (qe, .inl (cE, 2, .inl g))]) [0, 1, 2, 3] rfl
    have hD9 := hD.sub (ws' := [(qp, .inr (1, [.ref qf])), (qf, .inr (0, [.ref qb, .ref qe, .int od, .int ot, .int tm])), (qb, .inl (cA, 32, .inl b)), (qe, .inl (cE, 2, .inl g))]) [0, 1, 2, 3] (by decide) rfl
    have hK9 := hK.sub (tys' := [(cA, .int), (cE, .int)]) [0, 1] rfl
    exact W.iret (v := tt_pf (tt_rd b (tt_ac b) 4) (tt_en b (tt_ac b)) i) hx hb hr (fun t ht hW => ⟨⟨tt_pf (tt_rd b (tt_ac b) 4) (tt_en b (tt_ac b)) i, (), rfl, (by first | (simp only [tt_pu, c_3, hie, reduceIte, eq_self]; done) | (simp [tt_pu, c_3, hie]; done)), by rw [ht]; exact hP9, va_K.moved hW.alike hK9, hD9⟩, hS.F ht⟩) hS.2.2 dX1_pinTriesUsed_64
  · have hlt : i < 10 := (tt_c10 i (by omega)).2 c_3
    refine lv_aload_n hx hb dX1_pinTriesUsed_24 rfl (lv_at hl 0 rfl) ?_
    refine va_get (D := (dC, dI)) (ci := 1) (v := .ref qf) (C := RX1) (T := TX1) (N := 1) hx hb hts (by decide +kernel) hown hK hP 0 rfl rfl 0 (by decide) (hts (.fieldLink RX1 7 "TornTryCounter$Pages" "flash" "LTornTryCounter$Flash;") (by decide +kernel)) (fun _ h9 => h9) rfl dX1_pinTriesUsed_25 ?_
    refine lv_iload_n hx hb dX1_pinTriesUsed_28 rfl (lv_at hl 1 rfl) ?_
    refine lv_iload_n hx hb dX1_pinTriesUsed_29 rfl (lv_at hl 3 rfl) ?_
    have hPc := hP.sub (ws' := [(qf, .inr (0, [.ref qb, .ref qe, .int od, .int ot, .int tm])), (qb, .inl (cA, 32, .inl b)), (qe, .inl (cE, 2, .inl g))]) [1, 2, 3] rfl
    have hDc := hD.sub (ws' := [(qf, .inr (0, [.ref qb, .ref qe, .int od, .int ot, .int tm])), (qb, .inl (cA, 32, .inl b)), (qe, .inl (cE, 2, .inl g))]) [1, 2, 3] (by decide) rfl
    have hKc := hK.sub (tys' := [(cA, .int), (cE, .int)]) [0, 1] rfl
    have hFc := va_free (wc := [(qf, .inr (0, [.ref qb, .ref qe, .int od, .int ot, .int tm])), (qb, .inl (cA, 32, .inl b)), (qe, .inl (cE, 2, .inl g))]) hD hS hA [1, 2, 3] rfl
    refine va_calli (va_runV (As := [.int (tt_ac b), .int (nI (6 + i))]) (rest := []) ⟨hx, hb, hml, hown, hts⟩ (c_F_read l dC dI cA cE qf qb qe H.size b g od ot tm (tt_ac b) (nI (6 + i))) (cwV 2 hts gX1_pinTriesUsed_X0_read rfl rfl rfl (by decide +kernel) ⟨Nat.le_of_ble_eq_true rfl, Nat.le_of_ble_eq_true rfl⟩) ⟨fun a U g mk q => by obtain ⟨q0, q1, qP, qK, qD⟩ := q; exact ⟨q0, q1, qP, va_K.moved (u := U) (U := U.calling g mk a) (Vm.Alike.refl U.vm) qK, qD⟩, va_recv hKc hPc (ci := 0) (q0 := 0) rfl rfl, fun U hU hW => ⟨rfl, by rw [hU], by rw [hU]; exact hPc, va_K.moved hW.alike hKc, hDc.weaken (fun _ _ _ _ => trivial)⟩⟩ rfl rfl hl.1 rfl (lv_room (Nat.le_of_ble_eq_true rfl)) dX1_pinTriesUsed_30 ⟨(Nat.zero_le _), (Nat.zero_le _)⟩) hS (fun q _ h => hFc q h) hFc (fun r_4 u t H locs ht hvm hw hB hz1 hk1 hS => ?_)
    have hw : tt_rd b (tt_ac b) (nI (6 + i)) = r_4 := hw.symm
    subst hw
    obtain ⟨hP1, hK1, hD1⟩ := hB
    rw [ht] at hP1
    obtain ⟨hP, hD⟩ := va_join (wr := [(qp, .inr (1, [.ref qf]))]) (w1 := [(qf, .inr (0, [.ref qb, .ref qe, .int od, .int ot, .int tm])), (qb, .inl (cA, 32, .inl b)), (qe, .inl (cE, 2, .inl g))]) hP hD [1, 2, 3] [0] rfl rfl (by decide) (by decide) hk1 hFc hP1 hD1
    have hP : va_P (dC, dI) ttCl [(qp, .inr (1, [.ref qf])), (qf, .inr (0, [.ref qb, .ref qe, .int od, .int ot, .int tm])), (qb, .inl (cA, 32, .inl b)), (qe, .inl (cE, 2, .inl g))] H := hP
    have hD : va_D A [(qp, .inr (1, [.ref qf])), (qf, .inr (0, [.ref qb, .ref qe, .int od, .int ot, .int tm])), (qb, .inl (cA, 32, .inl b)), (qe, .inl (cE, 2, .inl g))] := hD
    refine lv_istore (lv' := [(4, .int (tt_rd b (tt_ac b) (nI (6 + i)))), (0, .ref qp), (1, .int (tt_ac b)), (2, .int (tt_pf (tt_rd b (tt_ac b) 4) (tt_en b (tt_ac b)) i)), (3, .int (nI (6 + i)))]) hx hb dX1_pinTriesUsed_33 hl (by decide) rfl (fun ls hl => ?_)
    refine lv_iload hx hb dX1_pinTriesUsed_35 (lv_at hl 0 rfl) ?_
    refine lv_iconst (v := 1) hx hb dX1_pinTriesUsed_37 (by decide) ?_
    refine lv_iand hx hb dX1_pinTriesUsed_38 ?_
    refine lv_if_ne (tgt := 57) hx hb dX1_pinTriesUsed_39 (by decide) (fun c_5 => ?_) (fun c_5 => ?_)
    · refine lv_iinc (v := (nI (6 + i)) + 1) (lv' := [(3, .int ((nI (6 + i)) + 1)), (4, .int (tt_rd b (tt_ac b) (nI (6 + i)))), (0, .ref qp), (1, .int (tt_ac b)), (2, .int (tt_pf (tt_rd b (tt_ac b) 4) (tt_en b (tt_ac b)) i))]) hx hb dX1_pinTriesUsed_57 hl (k := 4) rfl rfl (by decide) rfl (fun ls hl => ?_)
      refine lv_goto (tgt := 18) hx hb dX1_pinTriesUsed_60 (by decide) ?_
      refine ih (n - 1) (by omega) _ _ _ ⟨i + 1, by omega, ?_, ?_, hS, ?_⟩
      · exact hP.sub [0, 1, 2, 3] rfl
      · exact hD.sub [0, 1, 2, 3] (by decide) rfl
      · rw [show tt_pf (tt_rd b (tt_ac b) 4) (tt_en b (tt_ac b)) (i + 1) = tt_pf (tt_rd b (tt_ac b) 4) (tt_en b (tt_ac b)) i from (by simp only [tt_pf, tt_ps, tt_en, c_3, c_5, reduceIte]), show nI (6 + (i + 1)) = (nI (6 + i)) + 1 from (nI_1 (6 + i)).symm]; exact lv_sub hl [2, 3, 4, 0] rfl
    · refine lv_iload hx hb dX1_pinTriesUsed_42 (lv_at hl 0 rfl) ?_
      refine lv_iconst (v := 2) hx hb dX1_pinTriesUsed_44 (by decide) ?_
      refine lv_iand hx hb dX1_pinTriesUsed_45 ?_
      refine lv_if_ne (tgt := 53) hx hb dX1_pinTriesUsed_46 (by decide) (fun c_6 => ?_) (fun c_6 => ?_)
      · refine lv_iload_n hx hb dX1_pinTriesUsed_53 rfl (lv_at hl 3 rfl) ?_
        refine lv_iconst (v := 1) hx hb dX1_pinTriesUsed_54 (by decide) ?_
        refine lv_iadd hx hb dX1_pinTriesUsed_55 ?_
        refine lv_istore_n (lv' := [(2, .int ((tt_pf (tt_rd b (tt_ac b) 4) (tt_en b (tt_ac b)) i) + 1)), (4, .int (tt_rd b (tt_ac b) (nI (6 + i)))), (0, .ref qp), (1, .int (tt_ac b)), (3, .int (nI (6 + i)))]) hx hb dX1_pinTriesUsed_56 rfl hl (by decide) rfl (fun ls hl => ?_)
        refine lv_iinc (v := (nI (6 + i)) + 1) (lv' := [(3, .int ((nI (6 + i)) + 1)), (2, .int ((tt_pf (tt_rd b (tt_ac b) 4) (tt_en b (tt_ac b)) i) + 1)), (4, .int (tt_rd b (tt_ac b) (nI (6 + i)))), (0, .ref qp), (1, .int (tt_ac b))]) hx hb dX1_pinTriesUsed_57 hl (k := 4) rfl rfl (by decide) rfl (fun ls hl => ?_)
        refine lv_goto (tgt := 18) hx hb dX1_pinTriesUsed_60 (by decide) ?_
        refine ih (n - 1) (by omega) _ _ _ ⟨i + 1, by omega, ?_, ?_, hS, ?_⟩
        · exact hP.sub [0, 1, 2, 3] rfl
        · exact hD.sub [0, 1, 2, 3] (by decide) rfl
        · rw [show tt_pf (tt_rd b (tt_ac b) 4) (tt_en b (tt_ac b)) (i + 1) = (tt_pf (tt_rd b (tt_ac b) 4) (tt_en b (tt_ac b)) i) + 1 from (by simp only [tt_pf, tt_ps, tt_en, c_3, c_5, c_6, reduceIte]), show nI (6 + (i + 1)) = (nI (6 + i)) + 1 from (nI_1 (6 + i)).symm]; exact lv_sub hl [3, 4, 1, 0] rfl
      · refine lv_iconst (v := 0) hx hb dX1_pinTriesUsed_49 (by decide) ?_
        refine lv_goto (tgt := 56) hx hb dX1_pinTriesUsed_50 (by decide) ?_
        refine lv_istore_n (lv' := [(2, .int 0), (4, .int (tt_rd b (tt_ac b) (nI (6 + i)))), (0, .ref qp), (1, .int (tt_ac b)), (3, .int (nI (6 + i)))]) hx hb dX1_pinTriesUsed_56 rfl hl (by decide) rfl (fun ls hl => ?_)
        refine lv_iinc (v := (nI (6 + i)) + 1) (lv' := [(3, .int ((nI (6 + i)) + 1)), (2, .int 0), (4, .int (tt_rd b (tt_ac b) (nI (6 + i)))), (0, .ref qp), (1, .int (tt_ac b))]) hx hb dX1_pinTriesUsed_57 hl (k := 4) rfl rfl (by decide) rfl (fun ls hl => ?_)
        refine lv_goto (tgt := 18) hx hb dX1_pinTriesUsed_60 (by decide) ?_
        refine ih (n - 1) (by omega) _ _ _ ⟨i + 1, by omega, ?_, ?_, hS, ?_⟩
        · exact hP.sub [0, 1, 2, 3] rfl
        · exact hD.sub [0, 1, 2, 3] (by decide) rfl
        · rw [show tt_pf (tt_rd b (tt_ac b) 4) (tt_en b (tt_ac b)) (i + 1) = 0 from (by simp only [tt_pf, tt_ps, tt_en, c_3, c_5, c_6, reduceIte]), show nI (6 + (i + 1)) = (nI (6 + i)) + 1 from (nI_1 (6 + i)).symm]; exact lv_sub hl [3, 4, 1, 0] rfl
set_option maxHeartbeats 4000000 in
set_option maxRecDepth 100000 in
theorem c_P_pukTriesUsed (l : Launch) (dC : Nat → ClassId) (dI : Nat → Nat → Nat) (cA cE : ClassId) (qp qf qb qe : Nat) (sz : Nat) (b g : Nat → Int32) (od ot tm : Int32) : Met l yX1_pukTriesUsed wsX1_pukTriesUsed ({ frames := 3, cells := 0, slots := 0, locals := 64 }) (va_Pc [.ref qp] (fun U => U.heap.size = sz ∧ va_P (dC, dI) ttCl [(qp, .inr (1, [.ref qf])), (qf, .inr (0, [.ref qb, .ref qe, .int od, .int ot, .int tm])), (qb, .inl (cA, 32, .inl b)), (qe, .inl (cE, 2, .inl g))] U.heap ∧ va_K (dC, dI) ttCl [(cA, .int), (cE, .int)] U ∧ va_D (fun _ => True) [(qp, .inr (1, [.ref qf])), (qf, .inr (0, [.ref qb, .ref qe, .int od, .int ot, .int tm])), (qb, .inl (cA, 32, .inl b)), (qe, .inl (cE, 2, .inl g))])) (va_Qi (fun (r : Int32) (_ : Unit) => r = tt_uu b) (fun (_ : Unit) (t : State) => at_P dC dI cA cE (va_A [(qp, .inr (1, [.ref qf])), (qf, .inr (0, [.ref qb, .ref qe, .int od, .int ot, .int tm])), (qb, .inl (cA, 32, .inl b)), (qe, .inl (cE, 2, .inl g))] sz) qp qf qb qe (b, g, od, ot, tm) t) (va_A [(qp, .inr (1, [.ref qf])), (qf, .inr (0, [.ref qb, .ref qe, .int od, .int ot, .int tm])), (qb, .inl (cA, 32, .inl b)), (qe, .inl (cE, 2, .inl g))] sz)) 0 0 (va_A [(qp, .inr (1, [.ref qf])), (qf, .inr (0, [.ref qb, .ref qe, .int od, .int ot, .int tm])), (qb, .inl (cA, 32, .inl b)), (qe, .inl (cE, 2, .inl g))] sz) := by
  refine Met.ofW (cc := cX1_pukTriesUsed) (maxL := 4) (ret := (some .int)) (by decide) rfl ?_
  intro p e s m args below meth c s₁ B hml hv
  obtain ⟨rfl, hsz, hP, hK, hD0⟩ := hv
  have hx := B.exec
  have hb := B.bytes
  have hr := B.returns
  have hts := atoms_spec (ws := wsX1_pukTriesUsed) B.pre
  have hown : s.vm.findClass RX1 = some m.cls := findClass_of_methodNamed B.named
  have hlocks := B.notSynchronized
  subst hsz
  have hD := hD0.self (sz := s.heap.size)
  generalize hAe : va_A [(qp, .inr (1, [.ref qf])), (qf, .inr (0, [.ref qb, .ref qe, .int od, .int ot, .int tm])), (qb, .inl (cA, 32, .inl b)), (qe, .inl (cE, 2, .inl g))] s.heap.size = A at hD ⊢
  have hA : ∀ q : Nat, s.heap.size ≤ q → A q := fun q h => by rw [← hAe]; exact Or.inr h
  have hS : va_S A s.heap s.heap [] := va_S.rf
  have hP : va_P (dC, dI) ttCl [(qp, .inr (1, [.ref qf])), (qf, .inr (0, [.ref qb, .ref qe, .int od, .int ot, .int tm])), (qb, .inl (cA, 32, .inl b)), (qe, .inl (cE, 2, .inl g))] s.heap := hP
  have hl := lv_entry ([.ref qp]) (n := 4) (Nat.le_of_ble_eq_true rfl)
  rw [lg_entry_eq]
  generalize (lg_sl ([.ref qp]) ++ List.replicate (4 - (lg_sl ([.ref qp])).length) Slot.unset).toArray = ls at hl ⊢
  have hl : lv_has ls 4 [(0, .ref qp)] := hl
  refine lv_aload_n hx hb dX1_pukTriesUsed_0 rfl (lv_at hl 0 rfl) ?_
  have hPc := hP.sub (ws' := [(qp, .inr (1, [.ref qf])), (qf, .inr (0, [.ref qb, .ref qe, .int od, .int ot, .int tm])), (qb, .inl (cA, 32, .inl b)), (qe, .inl (cE, 2, .inl g))]) [0, 1, 2, 3] rfl
  have hDc := hD.sub (ws' := [(qp, .inr (1, [.ref qf])), (qf, .inr (0, [.ref qb, .ref qe, .int od, .int ot, .int tm])), (qb, .inl (cA, 32, .inl b)), (qe, .inl (cE, 2, .inl g))]) [0, 1, 2, 3] (by decide) rfl
  have hKc := hK.sub (tys' := [(cA, .int), (cE, .int)]) [0, 1] rfl
  have hFc := va_free (wc := [(qp, .inr (1, [.ref qf])), (qf, .inr (0, [.ref qb, .ref qe, .int od, .int ot, .int tm])), (qb, .inl (cA, 32, .inl b)), (qe, .inl (cE, 2, .inl g))]) hD hS hA [0, 1, 2, 3] rfl
  refine va_calli (va_runV (As := []) (rest := []) ⟨hx, hb, hml, hown, hts⟩ (c_P_active l dC dI cA cE qp qf qb qe s.heap.size b g od ot tm) (cwV 0 hts gX1_pukTriesUsed_X1_active rfl rfl rfl (by decide +kernel) ⟨Nat.le_of_ble_eq_true rfl, Nat.le_of_ble_eq_true rfl⟩) ⟨fun a U g mk q => by obtain ⟨q0, q1, qP, qK, qD⟩ := q; exact ⟨q0, q1, qP, va_K.moved (u := U) (U := U.calling g mk a) (Vm.Alike.refl U.vm) qK, qD⟩, va_recv hKc hPc (ci := 1) (q0 := 0) rfl rfl, fun U hU hW => ⟨rfl, by rw [hU], by rw [hU]; exact hPc, va_K.moved hW.alike hKc, hDc.weaken (fun _ _ _ _ => trivial)⟩⟩ rfl rfl hl.1 rfl (lv_room (Nat.le_of_ble_eq_true rfl)) dX1_pukTriesUsed_1 ⟨(Nat.zero_le _), (Nat.zero_le _)⟩) hS (fun q _ h => hFc q h) hFc (fun r_1 u t H locs ht hvm hw hB hz1 hk1 hS => ?_)
  have hw : tt_ac b = r_1 := hw.symm
  subst hw
  obtain ⟨hP1, hK1, hD1⟩ := hB
  rw [ht] at hP1
  obtain ⟨hP, hD⟩ := va_join (wr := []) (w1 := [(qp, .inr (1, [.ref qf])), (qf, .inr (0, [.ref qb, .ref qe, .int od, .int ot, .int tm])), (qb, .inl (cA, 32, .inl b)), (qe, .inl (cE, 2, .inl g))]) hP hD [0, 1, 2, 3] [] rfl rfl (by decide) (by decide) hk1 hFc hP1 hD1
  have hP : va_P (dC, dI) ttCl [(qp, .inr (1, [.ref qf])), (qf, .inr (0, [.ref qb, .ref qe, .int od, .int ot, .int tm])), (qb, .inl (cA, 32, .inl b)), (qe, .inl (cE, 2, .inl g))] H := hP
  have hD : va_D A [(qp, .inr (1, [.ref qf])), (qf, .inr (0, [.ref qb, .ref qe, .int od, .int ot, .int tm])), (qb, .inl (cA, 32, .inl b)), (qe, .inl (cE, 2, .inl g))] := hD
  refine lv_istore_n (lv' := [(1, .int (tt_ac b)), (0, .ref qp)]) hx hb dX1_pukTriesUsed_4 rfl hl (by decide) rfl (fun ls hl => ?_)
  refine lv_aload_n hx hb dX1_pukTriesUsed_5 rfl (lv_at hl 1 rfl) ?_
  refine va_get (D := (dC, dI)) (ci := 1) (v := .ref qf) (C := RX1) (T := TX1) (N := 1) hx hb hts (by decide +kernel) hown hK hP 0 rfl rfl 0 (by decide) (hts (.fieldLink RX1 7 "TornTryCounter$Pages" "flash" "LTornTryCounter$Flash;") (by decide +kernel)) (fun _ h9 => h9) rfl dX1_pukTriesUsed_6 ?_
  refine lv_iload_n hx hb dX1_pukTriesUsed_9 rfl (lv_at hl 0 rfl) ?_
  refine lv_iconst (v := 5) hx hb dX1_pukTriesUsed_10 (by decide) ?_
  have hPc := hP.sub (ws' := [(qf, .inr (0, [.ref qb, .ref qe, .int od, .int ot, .int tm])), (qb, .inl (cA, 32, .inl b)), (qe, .inl (cE, 2, .inl g))]) [1, 2, 3] rfl
  have hDc := hD.sub (ws' := [(qf, .inr (0, [.ref qb, .ref qe, .int od, .int ot, .int tm])), (qb, .inl (cA, 32, .inl b)), (qe, .inl (cE, 2, .inl g))]) [1, 2, 3] (by decide) rfl
  have hKc := hK.sub (tys' := [(cA, .int), (cE, .int)]) [0, 1] rfl
  have hFc := va_free (wc := [(qf, .inr (0, [.ref qb, .ref qe, .int od, .int ot, .int tm])), (qb, .inl (cA, 32, .inl b)), (qe, .inl (cE, 2, .inl g))]) hD hS hA [1, 2, 3] rfl
  refine va_calli (va_runV (As := [.int (tt_ac b), .int 5]) (rest := []) ⟨hx, hb, hml, hown, hts⟩ (c_F_read l dC dI cA cE qf qb qe H.size b g od ot tm (tt_ac b) 5) (cwV 2 hts gX1_pukTriesUsed_X0_read rfl rfl rfl (by decide +kernel) ⟨Nat.le_of_ble_eq_true rfl, Nat.le_of_ble_eq_true rfl⟩) ⟨fun a U g mk q => by obtain ⟨q0, q1, qP, qK, qD⟩ := q; exact ⟨q0, q1, qP, va_K.moved (u := U) (U := U.calling g mk a) (Vm.Alike.refl U.vm) qK, qD⟩, va_recv hKc hPc (ci := 0) (q0 := 0) rfl rfl, fun U hU hW => ⟨rfl, by rw [hU], by rw [hU]; exact hPc, va_K.moved hW.alike hKc, hDc.weaken (fun _ _ _ _ => trivial)⟩⟩ rfl rfl hl.1 rfl (lv_room (Nat.le_of_ble_eq_true rfl)) dX1_pukTriesUsed_11 ⟨(Nat.zero_le _), (Nat.zero_le _)⟩) hS (fun q _ h => hFc q h) hFc (fun r_2 u t H locs ht hvm hw hB hz1 hk1 hS => ?_)
  have hw : tt_rd b (tt_ac b) 5 = r_2 := hw.symm
  subst hw
  obtain ⟨hP1, hK1, hD1⟩ := hB
  rw [ht] at hP1
  obtain ⟨hP, hD⟩ := va_join (wr := [(qp, .inr (1, [.ref qf]))]) (w1 := [(qf, .inr (0, [.ref qb, .ref qe, .int od, .int ot, .int tm])), (qb, .inl (cA, 32, .inl b)), (qe, .inl (cE, 2, .inl g))]) hP hD [1, 2, 3] [0] rfl rfl (by decide) (by decide) hk1 hFc hP1 hD1
  have hP : va_P (dC, dI) ttCl [(qp, .inr (1, [.ref qf])), (qf, .inr (0, [.ref qb, .ref qe, .int od, .int ot, .int tm])), (qb, .inl (cA, 32, .inl b)), (qe, .inl (cE, 2, .inl g))] H := hP
  have hD : va_D A [(qp, .inr (1, [.ref qf])), (qf, .inr (0, [.ref qb, .ref qe, .int od, .int ot, .int tm])), (qb, .inl (cA, 32, .inl b)), (qe, .inl (cE, 2, .inl g))] := hD
  refine lv_istore_n (lv' := [(2, .int (tt_rd b (tt_ac b) 5)), (1, .int (tt_ac b)), (0, .ref qp)]) hx hb dX1_pukTriesUsed_14 rfl hl (by decide) rfl (fun ls hl => ?_)
  refine lv_bipush (v := 6) hx hb dX1_pukTriesUsed_15 (by decide) ?_
  refine lv_istore_n (lv' := [(3, .int 6), (2, .int (tt_rd b (tt_ac b) 5)), (1, .int (tt_ac b)), (0, .ref qp)]) hx hb dX1_pukTriesUsed_17 rfl hl (by decide) rfl (fun ls hl => ?_)
  refine W.widen (k := 0) (n := 0) (by omega) (by omega) ?_
  refine tt_rec (pc := 18) (I := fun n H locs ls => ∃ i : Nat, i + n = 10 ∧ va_P (dC, dI) ttCl [(qp, .inr (1, [.ref qf])), (qf, .inr (0, [.ref qb, .ref qe, .int od, .int ot, .int tm])), (qb, .inl (cA, 32, .inl b)), (qe, .inl (cE, 2, .inl g))] H ∧ va_D A [(qp, .inr (1, [.ref qf])), (qf, .inr (0, [.ref qb, .ref qe, .int od, .int ot, .int tm])), (qb, .inl (cA, 32, .inl b)), (qe, .inl (cE, 2, .inl g))] ∧ va_S A s.heap H locs ∧ lv_has ls 4 [(0, .ref qp), (1, .int (tt_ac b)), (2, .int (tt_uf (tt_rd b (tt_ac b) 5) (tt_en b (tt_ac b)) i)), (3, .int (nI (6 + i)))]) ?_ 10 ⟨0, rfl, hP, hD, hS, lv_sub hl [3, 2, 1, 0] rfl⟩
  intro n H locs ls ih hI
  obtain ⟨i, hi, hP, hD, hS, hl⟩ := hI
  refine lv_iload_n hx hb dX1_pukTriesUsed_18 rfl (lv_at hl 3 rfl) ?_
  refine lv_bipush (v := 16) hx hb dX1_pukTriesUsed_19 (by decide) ?_
  refine lv_icmp_ge (tgt := 48) hx hb dX1_pukTriesUsed_21 (by decide) (fun c_3 => ?_) (fun c_3 => ?_)
  · have hie : i = 10 := (tt_c10 i (by omega)).1 c_3
    refine lv_iload_n hx hb dX1_pukTriesUsed_48 rfl (lv_at hl 2 rfl) ?_
    have hP9 := hP.sub (ws' := [(qp, .inr (1, [.ref qf])), (qf, .inr (0, [.ref qb, .ref qe, .int od, .int ot, .int tm])), (qb, .inl (cA, 32, .inl b)), (qe, .inl (cE, 2, .inl g))]) [0, 1, 2, 3] rfl
    have hD9 := hD.sub (ws' := [(qp, .inr (1, [.ref qf])), (qf, .inr (0, [.ref qb, .ref qe, .int od, .int ot, .int tm])), (qb, .inl (cA, 32, .inl b)), (qe, .inl (cE, 2, .inl g))]) [0, 1, 2, 3] (by decide) rfl
    have hK9 := hK.sub (tys' := [(cA, .int), (cE, .int)]) [0, 1] rfl
    exact W.iret (v := tt_uf (tt_rd b (tt_ac b) 5) (tt_en b (tt_ac b)) i) hx hb hr (fun t ht hW => ⟨⟨tt_uf (tt_rd b (tt_ac b) 5) (tt_en b (tt_ac b)) i, (), rfl, (by first | (simp only [tt_uu, c_3, hie, reduceIte, eq_self]; done) | (simp [tt_uu, c_3, hie]; done)), by rw [ht]; exact hP9, va_K.moved hW.alike hK9, hD9⟩, hS.F ht⟩) hS.2.2 dX1_pukTriesUsed_49
  · have hlt : i < 10 := (tt_c10 i (by omega)).2 c_3
    refine lv_aload_n hx hb dX1_pukTriesUsed_24 rfl (lv_at hl 0 rfl) ?_
    refine va_get (D := (dC, dI)) (ci := 1) (v := .ref qf) (C := RX1) (T := TX1) (N := 1) hx hb hts (by decide +kernel) hown hK hP 0 rfl rfl 0 (by decide) (hts (.fieldLink RX1 7 "TornTryCounter$Pages" "flash" "LTornTryCounter$Flash;") (by decide +kernel)) (fun _ h9 => h9) rfl dX1_pukTriesUsed_25 ?_
    refine lv_iload_n hx hb dX1_pukTriesUsed_28 rfl (lv_at hl 1 rfl) ?_
    refine lv_iload_n hx hb dX1_pukTriesUsed_29 rfl (lv_at hl 3 rfl) ?_
    have hPc := hP.sub (ws' := [(qf, .inr (0, [.ref qb, .ref qe, .int od, .int ot, .int tm])), (qb, .inl (cA, 32, .inl b)), (qe, .inl (cE, 2, .inl g))]) [1, 2, 3] rfl
    have hDc := hD.sub (ws' := [(qf, .inr (0, [.ref qb, .ref qe, .int od, .int ot, .int tm])), (qb, .inl (cA, 32, .inl b)), (qe, .inl (cE, 2, .inl g))]) [1, 2, 3] (by decide) rfl
    have hKc := hK.sub (tys' := [(cA, .int), (cE, .int)]) [0, 1] rfl
    have hFc := va_free (wc := [(qf, .inr (0, [.ref qb, .ref qe, .int od, .int ot, .int tm])), (qb, .inl (cA, 32, .inl b)), (qe, .inl (cE, 2, .inl g))]) hD hS hA [1, 2, 3] rfl
    refine va_calli (va_runV (As := [.int (tt_ac b), .int (nI (6 + i))]) (rest := []) ⟨hx, hb, hml, hown, hts⟩ (c_F_read l dC dI cA cE qf qb qe H.size b g od ot tm (tt_ac b) (nI (6 + i))) (cwV 2 hts gX1_pukTriesUsed_X0_read rfl rfl rfl (by decide +kernel) ⟨Nat.le_of_ble_eq_true rfl, Nat.le_of_ble_eq_true rfl⟩) ⟨fun a U g mk q => by obtain ⟨q0, q1, qP, qK, qD⟩ := q; exact ⟨q0, q1, qP, va_K.moved (u := U) (U := U.calling g mk a) (Vm.Alike.refl U.vm) qK, qD⟩, va_recv hKc hPc (ci := 0) (q0 := 0) rfl rfl, fun U hU hW => ⟨rfl, by rw [hU], by rw [hU]; exact hPc, va_K.moved hW.alike hKc, hDc.weaken (fun _ _ _ _ => trivial)⟩⟩ rfl rfl hl.1 rfl (lv_room (Nat.le_of_ble_eq_true rfl)) dX1_pukTriesUsed_30 ⟨(Nat.zero_le _), (Nat.zero_le _)⟩) hS (fun q _ h => hFc q h) hFc (fun r_4 u t H locs ht hvm hw hB hz1 hk1 hS => ?_)
    have hw : tt_rd b (tt_ac b) (nI (6 + i)) = r_4 := hw.symm
    subst hw
    obtain ⟨hP1, hK1, hD1⟩ := hB
    rw [ht] at hP1
    obtain ⟨hP, hD⟩ := va_join (wr := [(qp, .inr (1, [.ref qf]))]) (w1 := [(qf, .inr (0, [.ref qb, .ref qe, .int od, .int ot, .int tm])), (qb, .inl (cA, 32, .inl b)), (qe, .inl (cE, 2, .inl g))]) hP hD [1, 2, 3] [0] rfl rfl (by decide) (by decide) hk1 hFc hP1 hD1
    have hP : va_P (dC, dI) ttCl [(qp, .inr (1, [.ref qf])), (qf, .inr (0, [.ref qb, .ref qe, .int od, .int ot, .int tm])), (qb, .inl (cA, 32, .inl b)), (qe, .inl (cE, 2, .inl g))] H := hP
    have hD : va_D A [(qp, .inr (1, [.ref qf])), (qf, .inr (0, [.ref qb, .ref qe, .int od, .int ot, .int tm])), (qb, .inl (cA, 32, .inl b)), (qe, .inl (cE, 2, .inl g))] := hD
    refine lv_bipush (v := 16) hx hb dX1_pukTriesUsed_33 (by decide) ?_
    refine lv_iand hx hb dX1_pukTriesUsed_35 ?_
    refine lv_if_ne (tgt := 42) hx hb dX1_pukTriesUsed_36 (by decide) (fun c_5 => ?_) (fun c_5 => ?_)
    · refine lv_iinc (v := (nI (6 + i)) + 1) (lv' := [(3, .int ((nI (6 + i)) + 1)), (0, .ref qp), (1, .int (tt_ac b)), (2, .int (tt_uf (tt_rd b (tt_ac b) 5) (tt_en b (tt_ac b)) i))]) hx hb dX1_pukTriesUsed_42 hl (k := 3) rfl rfl (by decide) rfl (fun ls hl => ?_)
      refine lv_goto (tgt := 18) hx hb dX1_pukTriesUsed_45 (by decide) ?_
      refine ih (n - 1) (by omega) _ _ _ ⟨i + 1, by omega, ?_, ?_, hS, ?_⟩
      · exact hP.sub [0, 1, 2, 3] rfl
      · exact hD.sub [0, 1, 2, 3] (by decide) rfl
      · rw [show tt_uf (tt_rd b (tt_ac b) 5) (tt_en b (tt_ac b)) (i + 1) = tt_uf (tt_rd b (tt_ac b) 5) (tt_en b (tt_ac b)) i from (by simp only [tt_uf, tt_us, tt_en, c_3, c_5, reduceIte]), show nI (6 + (i + 1)) = (nI (6 + i)) + 1 from (nI_1 (6 + i)).symm]; exact lv_sub hl [1, 2, 3, 0] rfl
    · refine lv_iinc (v := (tt_uf (tt_rd b (tt_ac b) 5) (tt_en b (tt_ac b)) i) + 1) (lv' := [(2, .int ((tt_uf (tt_rd b (tt_ac b) 5) (tt_en b (tt_ac b)) i) + 1)), (0, .ref qp), (1, .int (tt_ac b)), (3, .int (nI (6 + i)))]) hx hb dX1_pukTriesUsed_39 hl (k := 2) rfl rfl (by decide) rfl (fun ls hl => ?_)
      refine lv_iinc (v := (nI (6 + i)) + 1) (lv' := [(3, .int ((nI (6 + i)) + 1)), (2, .int ((tt_uf (tt_rd b (tt_ac b) 5) (tt_en b (tt_ac b)) i) + 1)), (0, .ref qp), (1, .int (tt_ac b))]) hx hb dX1_pukTriesUsed_42 hl (k := 3) rfl rfl (by decide) rfl (fun ls hl => ?_)
      refine lv_goto (tgt := 18) hx hb dX1_pukTriesUsed_45 (by decide) ?_
      refine ih (n - 1) (by omega) _ _ _ ⟨i + 1, by omega, ?_, ?_, hS, ?_⟩
      · exact hP.sub [0, 1, 2, 3] rfl
      · exact hD.sub [0, 1, 2, 3] (by decide) rfl
      · rw [show tt_uf (tt_rd b (tt_ac b) 5) (tt_en b (tt_ac b)) (i + 1) = (tt_uf (tt_rd b (tt_ac b) 5) (tt_en b (tt_ac b)) i) + 1 from (by simp only [tt_uf, tt_us, tt_en, c_3, c_5, reduceIte]), show nI (6 + (i + 1)) = (nI (6 + i)) + 1 from (nI_1 (6 + i)).symm]; exact lv_sub hl [2, 3, 1, 0] rfl
set_option maxHeartbeats 4000000 in
set_option maxRecDepth 100000 in
theorem c_P_freeEntries (l : Launch) (dC : Nat → ClassId) (dI : Nat → Nat → Nat) (cA cE : ClassId) (qp qf qb qe : Nat) (sz : Nat) (b g : Nat → Int32) (od ot tm : Int32) : Met l yX1_freeEntries wsX1_freeEntries ({ frames := 3, cells := 0, slots := 0, locals := 64 }) (va_Pc [.ref qp] (fun U => U.heap.size = sz ∧ va_P (dC, dI) ttCl [(qp, .inr (1, [.ref qf])), (qf, .inr (0, [.ref qb, .ref qe, .int od, .int ot, .int tm])), (qb, .inl (cA, 32, .inl b)), (qe, .inl (cE, 2, .inl g))] U.heap ∧ va_K (dC, dI) ttCl [(cA, .int), (cE, .int)] U ∧ va_D (fun _ => True) [(qp, .inr (1, [.ref qf])), (qf, .inr (0, [.ref qb, .ref qe, .int od, .int ot, .int tm])), (qb, .inl (cA, 32, .inl b)), (qe, .inl (cE, 2, .inl g))])) (va_Qi (fun (r : Int32) (_ : Unit) => r = tt_fe b) (fun (_ : Unit) (t : State) => at_P dC dI cA cE (va_A [(qp, .inr (1, [.ref qf])), (qf, .inr (0, [.ref qb, .ref qe, .int od, .int ot, .int tm])), (qb, .inl (cA, 32, .inl b)), (qe, .inl (cE, 2, .inl g))] sz) qp qf qb qe (b, g, od, ot, tm) t) (va_A [(qp, .inr (1, [.ref qf])), (qf, .inr (0, [.ref qb, .ref qe, .int od, .int ot, .int tm])), (qb, .inl (cA, 32, .inl b)), (qe, .inl (cE, 2, .inl g))] sz)) 0 0 (va_A [(qp, .inr (1, [.ref qf])), (qf, .inr (0, [.ref qb, .ref qe, .int od, .int ot, .int tm])), (qb, .inl (cA, 32, .inl b)), (qe, .inl (cE, 2, .inl g))] sz) := by
  refine Met.ofW (cc := cX1_freeEntries) (maxL := 4) (ret := (some .int)) (by decide) rfl ?_
  intro p e s m args below meth c s₁ B hml hv
  obtain ⟨rfl, hsz, hP, hK, hD0⟩ := hv
  have hx := B.exec
  have hb := B.bytes
  have hr := B.returns
  have hts := atoms_spec (ws := wsX1_freeEntries) B.pre
  have hown : s.vm.findClass RX1 = some m.cls := findClass_of_methodNamed B.named
  have hlocks := B.notSynchronized
  subst hsz
  have hD := hD0.self (sz := s.heap.size)
  generalize hAe : va_A [(qp, .inr (1, [.ref qf])), (qf, .inr (0, [.ref qb, .ref qe, .int od, .int ot, .int tm])), (qb, .inl (cA, 32, .inl b)), (qe, .inl (cE, 2, .inl g))] s.heap.size = A at hD ⊢
  have hA : ∀ q : Nat, s.heap.size ≤ q → A q := fun q h => by rw [← hAe]; exact Or.inr h
  have hS : va_S A s.heap s.heap [] := va_S.rf
  have hP : va_P (dC, dI) ttCl [(qp, .inr (1, [.ref qf])), (qf, .inr (0, [.ref qb, .ref qe, .int od, .int ot, .int tm])), (qb, .inl (cA, 32, .inl b)), (qe, .inl (cE, 2, .inl g))] s.heap := hP
  have hl := lv_entry ([.ref qp]) (n := 4) (Nat.le_of_ble_eq_true rfl)
  rw [lg_entry_eq]
  generalize (lg_sl ([.ref qp]) ++ List.replicate (4 - (lg_sl ([.ref qp])).length) Slot.unset).toArray = ls at hl ⊢
  have hl : lv_has ls 4 [(0, .ref qp)] := hl
  refine lv_aload_n hx hb dX1_freeEntries_0 rfl (lv_at hl 0 rfl) ?_
  have hPc := hP.sub (ws' := [(qp, .inr (1, [.ref qf])), (qf, .inr (0, [.ref qb, .ref qe, .int od, .int ot, .int tm])), (qb, .inl (cA, 32, .inl b)), (qe, .inl (cE, 2, .inl g))]) [0, 1, 2, 3] rfl
  have hDc := hD.sub (ws' := [(qp, .inr (1, [.ref qf])), (qf, .inr (0, [.ref qb, .ref qe, .int od, .int ot, .int tm])), (qb, .inl (cA, 32, .inl b)), (qe, .inl (cE, 2, .inl g))]) [0, 1, 2, 3] (by decide) rfl
  have hKc := hK.sub (tys' := [(cA, .int), (cE, .int)]) [0, 1] rfl
  have hFc := va_free (wc := [(qp, .inr (1, [.ref qf])), (qf, .inr (0, [.ref qb, .ref qe, .int od, .int ot, .int tm])), (qb, .inl (cA, 32, .inl b)), (qe, .inl (cE, 2, .inl g))]) hD hS hA [0, 1, 2, 3] rfl
  refine va_calli (va_runV (As := []) (rest := []) ⟨hx, hb, hml, hown, hts⟩ (c_P_active l dC dI cA cE qp qf qb qe s.heap.size b g od ot tm) (cwV 0 hts gX1_freeEntries_X1_active rfl rfl rfl (by decide +kernel) ⟨Nat.le_of_ble_eq_true rfl, Nat.le_of_ble_eq_true rfl⟩) ⟨fun a U g mk q => by obtain ⟨q0, q1, qP, qK, qD⟩ := q; exact ⟨q0, q1, qP, va_K.moved (u := U) (U := U.calling g mk a) (Vm.Alike.refl U.vm) qK, qD⟩, va_recv hKc hPc (ci := 1) (q0 := 0) rfl rfl, fun U hU hW => ⟨rfl, by rw [hU], by rw [hU]; exact hPc, va_K.moved hW.alike hKc, hDc.weaken (fun _ _ _ _ => trivial)⟩⟩ rfl rfl hl.1 rfl (lv_room (Nat.le_of_ble_eq_true rfl)) dX1_freeEntries_1 ⟨(Nat.zero_le _), (Nat.zero_le _)⟩) hS (fun q _ h => hFc q h) hFc (fun r_1 u t H locs ht hvm hw hB hz1 hk1 hS => ?_)
  have hw : tt_ac b = r_1 := hw.symm
  subst hw
  obtain ⟨hP1, hK1, hD1⟩ := hB
  rw [ht] at hP1
  obtain ⟨hP, hD⟩ := va_join (wr := []) (w1 := [(qp, .inr (1, [.ref qf])), (qf, .inr (0, [.ref qb, .ref qe, .int od, .int ot, .int tm])), (qb, .inl (cA, 32, .inl b)), (qe, .inl (cE, 2, .inl g))]) hP hD [0, 1, 2, 3] [] rfl rfl (by decide) (by decide) hk1 hFc hP1 hD1
  have hP : va_P (dC, dI) ttCl [(qp, .inr (1, [.ref qf])), (qf, .inr (0, [.ref qb, .ref qe, .int od, .int ot, .int tm])), (qb, .inl (cA, 32, .inl b)), (qe, .inl (cE, 2, .inl g))] H := hP
  have hD : va_D A [(qp, .inr (1, [.ref qf])), (qf, .inr (0, [.ref qb, .ref qe, .int od, .int ot, .int tm])), (qb, .inl (cA, 32, .inl b)), (qe, .inl (cE, 2, .inl g))] := hD
  refine lv_istore_n (lv' := [(1, .int (tt_ac b)), (0, .ref qp)]) hx hb dX1_freeEntries_4 rfl hl (by decide) rfl (fun ls hl => ?_)
  refine lv_iconst (v := 0) hx hb dX1_freeEntries_5 (by decide) ?_
  refine lv_istore_n (lv' := [(2, .int 0), (1, .int (tt_ac b)), (0, .ref qp)]) hx hb dX1_freeEntries_6 rfl hl (by decide) rfl (fun ls hl => ?_)
  refine lv_bipush (v := 6) hx hb dX1_freeEntries_7 (by decide) ?_
  refine lv_istore_n (lv' := [(3, .int 6), (2, .int 0), (1, .int (tt_ac b)), (0, .ref qp)]) hx hb dX1_freeEntries_9 rfl hl (by decide) rfl (fun ls hl => ?_)
  refine W.widen (k := 0) (n := 0) (by omega) (by omega) ?_
  refine tt_rec (pc := 10) (I := fun n H locs ls => ∃ i : Nat, i + n = 10 ∧ va_P (dC, dI) ttCl [(qp, .inr (1, [.ref qf])), (qf, .inr (0, [.ref qb, .ref qe, .int od, .int ot, .int tm])), (qb, .inl (cA, 32, .inl b)), (qe, .inl (cE, 2, .inl g))] H ∧ va_D A [(qp, .inr (1, [.ref qf])), (qf, .inr (0, [.ref qb, .ref qe, .int od, .int ot, .int tm])), (qb, .inl (cA, 32, .inl b)), (qe, .inl (cE, 2, .inl g))] ∧ va_S A s.heap H locs ∧ lv_has ls 4 [(0, .ref qp), (1, .int (tt_ac b)), (2, .int (tt_ff 0 (tt_en b (tt_ac b)) i)), (3, .int (nI (6 + i)))]) ?_ 10 ⟨0, rfl, hP, hD, hS, lv_sub hl [3, 2, 1, 0] rfl⟩
  intro n H locs ls ih hI
  obtain ⟨i, hi, hP, hD, hS, hl⟩ := hI
  refine lv_iload_n hx hb dX1_freeEntries_10 rfl (lv_at hl 3 rfl) ?_
  refine lv_bipush (v := 16) hx hb dX1_freeEntries_11 (by decide) ?_
  refine lv_icmp_ge (tgt := 40) hx hb dX1_freeEntries_13 (by decide) (fun c_2 => ?_) (fun c_2 => ?_)
  · have hie : i = 10 := (tt_c10 i (by omega)).1 c_2
    refine lv_iload_n hx hb dX1_freeEntries_40 rfl (lv_at hl 2 rfl) ?_
    have hP9 := hP.sub (ws' := [(qp, .inr (1, [.ref qf])), (qf, .inr (0, [.ref qb, .ref qe, .int od, .int ot, .int tm])), (qb, .inl (cA, 32, .inl b)), (qe, .inl (cE, 2, .inl g))]) [0, 1, 2, 3] rfl
    have hD9 := hD.sub (ws' := [(qp, .inr (1, [.ref qf])), (qf, .inr (0, [.ref qb, .ref qe, .int od, .int ot, .int tm])), (qb, .inl (cA, 32, .inl b)), (qe, .inl (cE, 2, .inl g))]) [0, 1, 2, 3] (by decide) rfl
    have hK9 := hK.sub (tys' := [(cA, .int), (cE, .int)]) [0, 1] rfl
    exact W.iret (v := tt_ff 0 (tt_en b (tt_ac b)) i) hx hb hr (fun t ht hW => ⟨⟨tt_ff 0 (tt_en b (tt_ac b)) i, (), rfl, (by first | (simp only [tt_fe, c_2, hie, reduceIte, eq_self]; done) | (simp [tt_fe, c_2, hie]; done)), by rw [ht]; exact hP9, va_K.moved hW.alike hK9, hD9⟩, hS.F ht⟩) hS.2.2 dX1_freeEntries_41
  · have hlt : i < 10 := (tt_c10 i (by omega)).2 c_2
    refine lv_aload_n hx hb dX1_freeEntries_16 rfl (lv_at hl 0 rfl) ?_
    refine va_get (D := (dC, dI)) (ci := 1) (v := .ref qf) (C := RX1) (T := TX1) (N := 1) hx hb hts (by decide +kernel) hown hK hP 0 rfl rfl 0 (by decide) (hts (.fieldLink RX1 7 "TornTryCounter$Pages" "flash" "LTornTryCounter$Flash;") (by decide +kernel)) (fun _ h9 => h9) rfl dX1_freeEntries_17 ?_
    refine lv_iload_n hx hb dX1_freeEntries_20 rfl (lv_at hl 1 rfl) ?_
    refine lv_iload_n hx hb dX1_freeEntries_21 rfl (lv_at hl 3 rfl) ?_
    have hPc := hP.sub (ws' := [(qf, .inr (0, [.ref qb, .ref qe, .int od, .int ot, .int tm])), (qb, .inl (cA, 32, .inl b)), (qe, .inl (cE, 2, .inl g))]) [1, 2, 3] rfl
    have hDc := hD.sub (ws' := [(qf, .inr (0, [.ref qb, .ref qe, .int od, .int ot, .int tm])), (qb, .inl (cA, 32, .inl b)), (qe, .inl (cE, 2, .inl g))]) [1, 2, 3] (by decide) rfl
    have hKc := hK.sub (tys' := [(cA, .int), (cE, .int)]) [0, 1] rfl
    have hFc := va_free (wc := [(qf, .inr (0, [.ref qb, .ref qe, .int od, .int ot, .int tm])), (qb, .inl (cA, 32, .inl b)), (qe, .inl (cE, 2, .inl g))]) hD hS hA [1, 2, 3] rfl
    refine va_calli (va_runV (As := [.int (tt_ac b), .int (nI (6 + i))]) (rest := []) ⟨hx, hb, hml, hown, hts⟩ (c_F_read l dC dI cA cE qf qb qe H.size b g od ot tm (tt_ac b) (nI (6 + i))) (cwV 2 hts gX1_freeEntries_X0_read rfl rfl rfl (by decide +kernel) ⟨Nat.le_of_ble_eq_true rfl, Nat.le_of_ble_eq_true rfl⟩) ⟨fun a U g mk q => by obtain ⟨q0, q1, qP, qK, qD⟩ := q; exact ⟨q0, q1, qP, va_K.moved (u := U) (U := U.calling g mk a) (Vm.Alike.refl U.vm) qK, qD⟩, va_recv hKc hPc (ci := 0) (q0 := 0) rfl rfl, fun U hU hW => ⟨rfl, by rw [hU], by rw [hU]; exact hPc, va_K.moved hW.alike hKc, hDc.weaken (fun _ _ _ _ => trivial)⟩⟩ rfl rfl hl.1 rfl (lv_room (Nat.le_of_ble_eq_true rfl)) dX1_freeEntries_22 ⟨(Nat.zero_le _), (Nat.zero_le _)⟩) hS (fun q _ h => hFc q h) hFc (fun r_3 u t H locs ht hvm hw hB hz1 hk1 hS => ?_)
    have hw : tt_rd b (tt_ac b) (nI (6 + i)) = r_3 := hw.symm
    subst hw
    obtain ⟨hP1, hK1, hD1⟩ := hB
    rw [ht] at hP1
    obtain ⟨hP, hD⟩ := va_join (wr := [(qp, .inr (1, [.ref qf]))]) (w1 := [(qf, .inr (0, [.ref qb, .ref qe, .int od, .int ot, .int tm])), (qb, .inl (cA, 32, .inl b)), (qe, .inl (cE, 2, .inl g))]) hP hD [1, 2, 3] [0] rfl rfl (by decide) (by decide) hk1 hFc hP1 hD1
    have hP : va_P (dC, dI) ttCl [(qp, .inr (1, [.ref qf])), (qf, .inr (0, [.ref qb, .ref qe, .int od, .int ot, .int tm])), (qb, .inl (cA, 32, .inl b)), (qe, .inl (cE, 2, .inl g))] H := hP
    have hD : va_D A [(qp, .inr (1, [.ref qf])), (qf, .inr (0, [.ref qb, .ref qe, .int od, .int ot, .int tm])), (qb, .inl (cA, 32, .inl b)), (qe, .inl (cE, 2, .inl g))] := hD
    refine lv_sipush (v := 255) hx hb dX1_freeEntries_25 (by decide) ?_
    refine lv_icmp_ne (tgt := 34) hx hb dX1_freeEntries_28 (by decide) (fun c_4 => ?_) (fun c_4 => ?_)
    · refine lv_iinc (v := (nI (6 + i)) + 1) (lv' := [(3, .int ((nI (6 + i)) + 1)), (0, .ref qp), (1, .int (tt_ac b)), (2, .int (tt_ff 0 (tt_en b (tt_ac b)) i))]) hx hb dX1_freeEntries_34 hl (k := 3) rfl rfl (by decide) rfl (fun ls hl => ?_)
      refine lv_goto (tgt := 10) hx hb dX1_freeEntries_37 (by decide) ?_
      refine ih (n - 1) (by omega) _ _ _ ⟨i + 1, by omega, ?_, ?_, hS, ?_⟩
      · exact hP.sub [0, 1, 2, 3] rfl
      · exact hD.sub [0, 1, 2, 3] (by decide) rfl
      · rw [show tt_ff 0 (tt_en b (tt_ac b)) (i + 1) = tt_ff 0 (tt_en b (tt_ac b)) i from (by simp only [tt_ff, tt_fs, tt_en, c_2, c_4, reduceIte]), show nI (6 + (i + 1)) = (nI (6 + i)) + 1 from (nI_1 (6 + i)).symm]; exact lv_sub hl [1, 2, 3, 0] rfl
    · refine lv_iinc (v := (tt_ff 0 (tt_en b (tt_ac b)) i) + 1) (lv' := [(2, .int ((tt_ff 0 (tt_en b (tt_ac b)) i) + 1)), (0, .ref qp), (1, .int (tt_ac b)), (3, .int (nI (6 + i)))]) hx hb dX1_freeEntries_31 hl (k := 2) rfl rfl (by decide) rfl (fun ls hl => ?_)
      refine lv_iinc (v := (nI (6 + i)) + 1) (lv' := [(3, .int ((nI (6 + i)) + 1)), (2, .int ((tt_ff 0 (tt_en b (tt_ac b)) i) + 1)), (0, .ref qp), (1, .int (tt_ac b))]) hx hb dX1_freeEntries_34 hl (k := 3) rfl rfl (by decide) rfl (fun ls hl => ?_)
      refine lv_goto (tgt := 10) hx hb dX1_freeEntries_37 (by decide) ?_
      refine ih (n - 1) (by omega) _ _ _ ⟨i + 1, by omega, ?_, ?_, hS, ?_⟩
      · exact hP.sub [0, 1, 2, 3] rfl
      · exact hD.sub [0, 1, 2, 3] (by decide) rfl
      · rw [show tt_ff 0 (tt_en b (tt_ac b)) (i + 1) = (tt_ff 0 (tt_en b (tt_ac b)) i) + 1 from (by simp only [tt_ff, tt_fs, tt_en, c_2, c_4, reduceIte]), show nI (6 + (i + 1)) = (nI (6 + i)) + 1 from (nI_1 (6 + i)).symm]; exact lv_sub hl [2, 3, 1, 0] rfl
set_option maxHeartbeats 4000000 in
set_option maxRecDepth 100000 in
theorem c_P_firstFreeEntry (l : Launch) (dC : Nat → ClassId) (dI : Nat → Nat → Nat) (cA cE : ClassId) (qp qf qb qe : Nat) (sz : Nat) (b g : Nat → Int32) (od ot tm : Int32) : Met l yX1_firstFreeEntry wsX1_firstFreeEntry ({ frames := 3, cells := 0, slots := 0, locals := 64 }) (va_Pc [.ref qp] (fun U => U.heap.size = sz ∧ va_P (dC, dI) ttCl [(qp, .inr (1, [.ref qf])), (qf, .inr (0, [.ref qb, .ref qe, .int od, .int ot, .int tm])), (qb, .inl (cA, 32, .inl b)), (qe, .inl (cE, 2, .inl g))] U.heap ∧ va_K (dC, dI) ttCl [(cA, .int), (cE, .int)] U ∧ va_D (fun _ => True) [(qp, .inr (1, [.ref qf])), (qf, .inr (0, [.ref qb, .ref qe, .int od, .int ot, .int tm])), (qb, .inl (cA, 32, .inl b)), (qe, .inl (cE, 2, .inl g))])) (va_Qi (fun (r : Int32) (_ : Unit) => r = tt_fst b) (fun (_ : Unit) (t : State) => at_P dC dI cA cE (va_A [(qp, .inr (1, [.ref qf])), (qf, .inr (0, [.ref qb, .ref qe, .int od, .int ot, .int tm])), (qb, .inl (cA, 32, .inl b)), (qe, .inl (cE, 2, .inl g))] sz) qp qf qb qe (b, g, od, ot, tm) t) (va_A [(qp, .inr (1, [.ref qf])), (qf, .inr (0, [.ref qb, .ref qe, .int od, .int ot, .int tm])), (qb, .inl (cA, 32, .inl b)), (qe, .inl (cE, 2, .inl g))] sz)) 0 0 (va_A [(qp, .inr (1, [.ref qf])), (qf, .inr (0, [.ref qb, .ref qe, .int od, .int ot, .int tm])), (qb, .inl (cA, 32, .inl b)), (qe, .inl (cE, 2, .inl g))] sz) := by
  refine Met.ofW (cc := cX1_firstFreeEntry) (maxL := 3) (ret := (some .int)) (by decide) rfl ?_
  intro p e s m args below meth c s₁ B hml hv
  obtain ⟨rfl, hsz, hP, hK, hD0⟩ := hv
  have hx := B.exec
  have hb := B.bytes
  have hr := B.returns
  have hts := atoms_spec (ws := wsX1_firstFreeEntry) B.pre
  have hown : s.vm.findClass RX1 = some m.cls := findClass_of_methodNamed B.named
  have hlocks := B.notSynchronized
  subst hsz
  have hD := hD0.self (sz := s.heap.size)
  generalize hAe : va_A [(qp, .inr (1, [.ref qf])), (qf, .inr (0, [.ref qb, .ref qe, .int od, .int ot, .int tm])), (qb, .inl (cA, 32, .inl b)), (qe, .inl (cE, 2, .inl g))] s.heap.size = A at hD ⊢
  have hA : ∀ q : Nat, s.heap.size ≤ q → A q := fun q h => by rw [← hAe]; exact Or.inr h
  have hS : va_S A s.heap s.heap [] := va_S.rf
  have hP : va_P (dC, dI) ttCl [(qp, .inr (1, [.ref qf])), (qf, .inr (0, [.ref qb, .ref qe, .int od, .int ot, .int tm])), (qb, .inl (cA, 32, .inl b)), (qe, .inl (cE, 2, .inl g))] s.heap := hP
  have hl := lv_entry ([.ref qp]) (n := 3) (Nat.le_of_ble_eq_true rfl)
  rw [lg_entry_eq]
  generalize (lg_sl ([.ref qp]) ++ List.replicate (3 - (lg_sl ([.ref qp])).length) Slot.unset).toArray = ls at hl ⊢
  have hl : lv_has ls 3 [(0, .ref qp)] := hl
  refine lv_aload_n hx hb dX1_firstFreeEntry_0 rfl (lv_at hl 0 rfl) ?_
  have hPc := hP.sub (ws' := [(qp, .inr (1, [.ref qf])), (qf, .inr (0, [.ref qb, .ref qe, .int od, .int ot, .int tm])), (qb, .inl (cA, 32, .inl b)), (qe, .inl (cE, 2, .inl g))]) [0, 1, 2, 3] rfl
  have hDc := hD.sub (ws' := [(qp, .inr (1, [.ref qf])), (qf, .inr (0, [.ref qb, .ref qe, .int od, .int ot, .int tm])), (qb, .inl (cA, 32, .inl b)), (qe, .inl (cE, 2, .inl g))]) [0, 1, 2, 3] (by decide) rfl
  have hKc := hK.sub (tys' := [(cA, .int), (cE, .int)]) [0, 1] rfl
  have hFc := va_free (wc := [(qp, .inr (1, [.ref qf])), (qf, .inr (0, [.ref qb, .ref qe, .int od, .int ot, .int tm])), (qb, .inl (cA, 32, .inl b)), (qe, .inl (cE, 2, .inl g))]) hD hS hA [0, 1, 2, 3] rfl
  refine va_calli (va_runV (As := []) (rest := []) ⟨hx, hb, hml, hown, hts⟩ (c_P_active l dC dI cA cE qp qf qb qe s.heap.size b g od ot tm) (cwV 0 hts gX1_firstFreeEntry_X1_active rfl rfl rfl (by decide +kernel) ⟨Nat.le_of_ble_eq_true rfl, Nat.le_of_ble_eq_true rfl⟩) ⟨fun a U g mk q => by obtain ⟨q0, q1, qP, qK, qD⟩ := q; exact ⟨q0, q1, qP, va_K.moved (u := U) (U := U.calling g mk a) (Vm.Alike.refl U.vm) qK, qD⟩, va_recv hKc hPc (ci := 1) (q0 := 0) rfl rfl, fun U hU hW => ⟨rfl, by rw [hU], by rw [hU]; exact hPc, va_K.moved hW.alike hKc, hDc.weaken (fun _ _ _ _ => trivial)⟩⟩ rfl rfl hl.1 rfl (lv_room (Nat.le_of_ble_eq_true rfl)) dX1_firstFreeEntry_1 ⟨(Nat.zero_le _), (Nat.zero_le _)⟩) hS (fun q _ h => hFc q h) hFc (fun r_1 u t H locs ht hvm hw hB hz1 hk1 hS => ?_)
  have hw : tt_ac b = r_1 := hw.symm
  subst hw
  obtain ⟨hP1, hK1, hD1⟩ := hB
  rw [ht] at hP1
  obtain ⟨hP, hD⟩ := va_join (wr := []) (w1 := [(qp, .inr (1, [.ref qf])), (qf, .inr (0, [.ref qb, .ref qe, .int od, .int ot, .int tm])), (qb, .inl (cA, 32, .inl b)), (qe, .inl (cE, 2, .inl g))]) hP hD [0, 1, 2, 3] [] rfl rfl (by decide) (by decide) hk1 hFc hP1 hD1
  have hP : va_P (dC, dI) ttCl [(qp, .inr (1, [.ref qf])), (qf, .inr (0, [.ref qb, .ref qe, .int od, .int ot, .int tm])), (qb, .inl (cA, 32, .inl b)), (qe, .inl (cE, 2, .inl g))] H := hP
  have hD : va_D A [(qp, .inr (1, [.ref qf])), (qf, .inr (0, [.ref qb, .ref qe, .int od, .int ot, .int tm])), (qb, .inl (cA, 32, .inl b)), (qe, .inl (cE, 2, .inl g))] := hD
  refine lv_istore_n (lv' := [(1, .int (tt_ac b)), (0, .ref qp)]) hx hb dX1_firstFreeEntry_4 rfl hl (by decide) rfl (fun ls hl => ?_)
  refine lv_bipush (v := 6) hx hb dX1_firstFreeEntry_5 (by decide) ?_
  refine lv_istore_n (lv' := [(2, .int 6), (1, .int (tt_ac b)), (0, .ref qp)]) hx hb dX1_firstFreeEntry_7 rfl hl (by decide) rfl (fun ls hl => ?_)
  refine W.widen (k := 0) (n := 0) (by omega) (by omega) ?_
  refine tt_rec (pc := 8) (I := fun n H locs ls => ∃ i : Nat, i + n = 10 ∧ tt_1f (tt_en b (tt_ac b)) n i = tt_fst b ∧ va_P (dC, dI) ttCl [(qp, .inr (1, [.ref qf])), (qf, .inr (0, [.ref qb, .ref qe, .int od, .int ot, .int tm])), (qb, .inl (cA, 32, .inl b)), (qe, .inl (cE, 2, .inl g))] H ∧ va_D A [(qp, .inr (1, [.ref qf])), (qf, .inr (0, [.ref qb, .ref qe, .int od, .int ot, .int tm])), (qb, .inl (cA, 32, .inl b)), (qe, .inl (cE, 2, .inl g))] ∧ va_S A s.heap H locs ∧ lv_has ls 3 [(0, .ref qp), (1, .int (tt_ac b)), (2, .int (nI (6 + i)))]) ?_ 10 ⟨0, rfl, rfl, hP, hD, hS, lv_sub hl [2, 1, 0] rfl⟩
  intro n H locs ls ih hI
  obtain ⟨i, hi, hff, hP, hD, hS, hl⟩ := hI
  refine lv_iload_n hx hb dX1_firstFreeEntry_8 rfl (lv_at hl 2 rfl) ?_
  refine lv_bipush (v := 16) hx hb dX1_firstFreeEntry_9 (by decide) ?_
  refine lv_icmp_ge (tgt := 37) hx hb dX1_firstFreeEntry_11 (by decide) (fun c_2 => ?_) (fun c_2 => ?_)
  · have hie : i = 10 := (tt_c10 i (by omega)).1 c_2
    obtain rfl : n = 0 := by omega
    have hff : -1 = tt_fst b := hff
    refine lv_iconst (v := (-1)) hx hb dX1_firstFreeEntry_37 (by decide) ?_
    have hP9 := hP.sub (ws' := [(qp, .inr (1, [.ref qf])), (qf, .inr (0, [.ref qb, .ref qe, .int od, .int ot, .int tm])), (qb, .inl (cA, 32, .inl b)), (qe, .inl (cE, 2, .inl g))]) [0, 1, 2, 3] rfl
    have hD9 := hD.sub (ws' := [(qp, .inr (1, [.ref qf])), (qf, .inr (0, [.ref qb, .ref qe, .int od, .int ot, .int tm])), (qb, .inl (cA, 32, .inl b)), (qe, .inl (cE, 2, .inl g))]) [0, 1, 2, 3] (by decide) rfl
    have hK9 := hK.sub (tys' := [(cA, .int), (cE, .int)]) [0, 1] rfl
    exact W.iret (v := (-1)) hx hb hr (fun t ht hW => ⟨⟨(-1), (), rfl, hff, by rw [ht]; exact hP9, va_K.moved hW.alike hK9, hD9⟩, hS.F ht⟩) hS.2.2 dX1_firstFreeEntry_38
  · have hlt : i < 10 := (tt_c10 i (by omega)).2 c_2
    obtain ⟨n, rfl⟩ : ∃ k, n = k + 1 := ⟨n - 1, by omega⟩
    have hff : (if tt_rd b (tt_ac b) (nI (6 + i)) = 255 then nI (6 + i) else tt_1f (tt_en b (tt_ac b)) n (i + 1)) = tt_fst b := hff
    refine lv_aload_n hx hb dX1_firstFreeEntry_14 rfl (lv_at hl 0 rfl) ?_
    refine va_get (D := (dC, dI)) (ci := 1) (v := .ref qf) (C := RX1) (T := TX1) (N := 1) hx hb hts (by decide +kernel) hown hK hP 0 rfl rfl 0 (by decide) (hts (.fieldLink RX1 7 "TornTryCounter$Pages" "flash" "LTornTryCounter$Flash;") (by decide +kernel)) (fun _ h9 => h9) rfl dX1_firstFreeEntry_15 ?_
    refine lv_iload_n hx hb dX1_firstFreeEntry_18 rfl (lv_at hl 1 rfl) ?_
    refine lv_iload_n hx hb dX1_firstFreeEntry_19 rfl (lv_at hl 2 rfl) ?_
    have hPc := hP.sub (ws' := [(qf, .inr (0, [.ref qb, .ref qe, .int od, .int ot, .int tm])), (qb, .inl (cA, 32, .inl b)), (qe, .inl (cE, 2, .inl g))]) [1, 2, 3] rfl
    have hDc := hD.sub (ws' := [(qf, .inr (0, [.ref qb, .ref qe, .int od, .int ot, .int tm])), (qb, .inl (cA, 32, .inl b)), (qe, .inl (cE, 2, .inl g))]) [1, 2, 3] (by decide) rfl
    have hKc := hK.sub (tys' := [(cA, .int), (cE, .int)]) [0, 1] rfl
    have hFc := va_free (wc := [(qf, .inr (0, [.ref qb, .ref qe, .int od, .int ot, .int tm])), (qb, .inl (cA, 32, .inl b)), (qe, .inl (cE, 2, .inl g))]) hD hS hA [1, 2, 3] rfl
    refine va_calli (va_runV (As := [.int (tt_ac b), .int (nI (6 + i))]) (rest := []) ⟨hx, hb, hml, hown, hts⟩ (c_F_read l dC dI cA cE qf qb qe H.size b g od ot tm (tt_ac b) (nI (6 + i))) (cwV 2 hts gX1_firstFreeEntry_X0_read rfl rfl rfl (by decide +kernel) ⟨Nat.le_of_ble_eq_true rfl, Nat.le_of_ble_eq_true rfl⟩) ⟨fun a U g mk q => by obtain ⟨q0, q1, qP, qK, qD⟩ := q; exact ⟨q0, q1, qP, va_K.moved (u := U) (U := U.calling g mk a) (Vm.Alike.refl U.vm) qK, qD⟩, va_recv hKc hPc (ci := 0) (q0 := 0) rfl rfl, fun U hU hW => ⟨rfl, by rw [hU], by rw [hU]; exact hPc, va_K.moved hW.alike hKc, hDc.weaken (fun _ _ _ _ => trivial)⟩⟩ rfl rfl hl.1 rfl (lv_room (Nat.le_of_ble_eq_true rfl)) dX1_firstFreeEntry_20 ⟨(Nat.zero_le _), (Nat.zero_le _)⟩) hS (fun q _ h => hFc q h) hFc (fun r_3 u t H locs ht hvm hw hB hz1 hk1 hS => ?_)
    have hw : tt_rd b (tt_ac b) (nI (6 + i)) = r_3 := hw.symm
    subst hw
    obtain ⟨hP1, hK1, hD1⟩ := hB
    rw [ht] at hP1
    obtain ⟨hP, hD⟩ := va_join (wr := [(qp, .inr (1, [.ref qf]))]) (w1 := [(qf, .inr (0, [.ref qb, .ref qe, .int od, .int ot, .int tm])), (qb, .inl (cA, 32, .inl b)), (qe, .inl (cE, 2, .inl g))]) hP hD [1, 2, 3] [0] rfl rfl (by decide) (by decide) hk1 hFc hP1 hD1
    have hP : va_P (dC, dI) ttCl [(qp, .inr (1, [.ref qf])), (qf, .inr (0, [.ref qb, .ref qe, .int od, .int ot, .int tm])), (qb, .inl (cA, 32, .inl b)), (qe, .inl (cE, 2, .inl g))] H := hP
    have hD : va_D A [(qp, .inr (1, [.ref qf])), (qf, .inr (0, [.ref qb, .ref qe, .int od, .int ot, .int tm])), (qb, .inl (cA, 32, .inl b)), (qe, .inl (cE, 2, .inl g))] := hD
    refine lv_sipush (v := 255) hx hb dX1_firstFreeEntry_23 (by decide) ?_
    refine lv_icmp_ne (tgt := 31) hx hb dX1_firstFreeEntry_26 (by decide) (fun c_4 => ?_) (fun c_4 => ?_)
    · refine lv_iinc (v := (nI (6 + i)) + 1) (lv' := [(2, .int ((nI (6 + i)) + 1)), (0, .ref qp), (1, .int (tt_ac b))]) hx hb dX1_firstFreeEntry_31 hl (k := 2) rfl rfl (by decide) rfl (fun ls hl => ?_)
      refine lv_goto (tgt := 8) hx hb dX1_firstFreeEntry_34 (by decide) ?_
      rw [if_neg c_4] at hff
      refine ih n (by omega) _ _ _ ⟨i + 1, by omega, hff, ?_, ?_, hS, ?_⟩
      · exact hP.sub [0, 1, 2, 3] rfl
      · exact hD.sub [0, 1, 2, 3] (by decide) rfl
      · rw [show nI (6 + (i + 1)) = nI (6 + i) + 1 from (nI_1 (6 + i)).symm]; exact lv_sub hl [1, 2, 0] rfl
    · refine lv_iload_n hx hb dX1_firstFreeEntry_29 rfl (lv_at hl 2 rfl) ?_
      have hP9 := hP.sub (ws' := [(qp, .inr (1, [.ref qf])), (qf, .inr (0, [.ref qb, .ref qe, .int od, .int ot, .int tm])), (qb, .inl (cA, 32, .inl b)), (qe, .inl (cE, 2, .inl g))]) [0, 1, 2, 3] rfl
      have hD9 := hD.sub (ws' := [(qp, .inr (1, [.ref qf])), (qf, .inr (0, [.ref qb, .ref qe, .int od, .int ot, .int tm])), (qb, .inl (cA, 32, .inl b)), (qe, .inl (cE, 2, .inl g))]) [0, 1, 2, 3] (by decide) rfl
      have hK9 := hK.sub (tys' := [(cA, .int), (cE, .int)]) [0, 1] rfl
      exact W.iret (v := nI (6 + i)) hx hb hr (fun t ht hW => ⟨⟨nI (6 + i), (), rfl, (by rw [if_pos c_4] at hff; exact hff), by rw [ht]; exact hP9, va_K.moved hW.alike hK9, hD9⟩, hS.F ht⟩) hS.2.2 dX1_firstFreeEntry_30
end
section
set_option maxHeartbeats 4000000 in
set_option maxRecDepth 100000 in
theorem c_P_turn (l : Launch) (dC : Nat → ClassId) (dI : Nat → Nat → Nat) (cA cE : ClassId) (qp qf qb qe : Nat) (sz : Nat) (b g : Nat → Int32) (od ot tm : Int32) (p1 a1 c1 : Int32) : Met l yX1_turn wsX1_turn ({ frames := 3, cells := 0, slots := 0, locals := 64 }) (va_Pc [.ref qp, .int p1, .int a1, .int c1] (fun U => U.heap.size = sz ∧ va_P (dC, dI) ttCl [(qp, .inr (1, [.ref qf])), (qf, .inr (0, [.ref qb, .ref qe, .int od, .int ot, .int tm])), (qb, .inl (cA, 32, .inl b)), (qe, .inl (cE, 2, .inl g))] U.heap ∧ va_K (dC, dI) ttCl [(cA, .int), (cE, .int)] U ∧ va_D (fun _ => True) [(qp, .inr (1, [.ref qf])), (qf, .inr (0, [.ref qb, .ref qe, .int od, .int ot, .int tm])), (qb, .inl (cA, 32, .inl b)), (qe, .inl (cE, 2, .inl g))])) (va_Qi (fun (r : Int32) (u : tt_F) => tt_turn (b, g, od, ot, tm) p1 a1 c1 = (r, u)) (fun (u : tt_F) (t : State) => at_P dC dI cA cE (va_A [(qp, .inr (1, [.ref qf])), (qf, .inr (0, [.ref qb, .ref qe, .int od, .int ot, .int tm])), (qb, .inl (cA, 32, .inl b)), (qe, .inl (cE, 2, .inl g))] sz) qp qf qb qe u t) (va_A [(qp, .inr (1, [.ref qf])), (qf, .inr (0, [.ref qb, .ref qe, .int od, .int ot, .int tm])), (qb, .inl (cA, 32, .inl b)), (qe, .inl (cE, 2, .inl g))] sz)) 0 0 (va_A [(qp, .inr (1, [.ref qf])), (qf, .inr (0, [.ref qb, .ref qe, .int od, .int ot, .int tm])), (qb, .inl (cA, 32, .inl b)), (qe, .inl (cE, 2, .inl g))] sz) := by
  refine Met.ofW (cc := cX1_turn) (maxL := 6) (ret := (some .boolean)) (by decide) rfl ?_
  intro p e s m args below meth c s₁ B hml hv
  obtain ⟨rfl, hsz, hP, hK, hD0⟩ := hv
  have hx := B.exec
  have hb := B.bytes
  have hr := B.returns
  have hts := atoms_spec (ws := wsX1_turn) B.pre
  have hown : s.vm.findClass RX1 = some m.cls := findClass_of_methodNamed B.named
  have hlocks := B.notSynchronized
  subst hsz
  have hD := hD0.self (sz := s.heap.size)
  generalize hAe : va_A [(qp, .inr (1, [.ref qf])), (qf, .inr (0, [.ref qb, .ref qe, .int od, .int ot, .int tm])), (qb, .inl (cA, 32, .inl b)), (qe, .inl (cE, 2, .inl g))] s.heap.size = A at hD ⊢
  have hA : ∀ q : Nat, s.heap.size ≤ q → A q := fun q h => by rw [← hAe]; exact Or.inr h
  have hS : va_S A s.heap s.heap [] := va_S.rf
  have hP : va_P (dC, dI) ttCl [(qp, .inr (1, [.ref qf])), (qf, .inr (0, [.ref qb, .ref qe, .int od, .int ot, .int tm])), (qb, .inl (cA, 32, .inl b)), (qe, .inl (cE, 2, .inl g))] s.heap := hP
  have hl := lv_entry ([.ref qp, .int p1, .int a1, .int c1]) (n := 6) (Nat.le_of_ble_eq_true rfl)
  rw [lg_entry_eq]
  generalize (lg_sl ([.ref qp, .int p1, .int a1, .int c1]) ++ List.replicate (6 - (lg_sl ([.ref qp, .int p1, .int a1, .int c1])).length) Slot.unset).toArray = ls at hl ⊢
  have hl : lv_has ls 6 [(0, .ref qp), (1, .int p1), (2, .int a1), (3, .int c1)] := hl
  refine lv_aload_n hx hb dX1_turn_0 rfl (lv_at hl 0 rfl) ?_
  have hPc := hP.sub (ws' := [(qp, .inr (1, [.ref qf])), (qf, .inr (0, [.ref qb, .ref qe, .int od, .int ot, .int tm])), (qb, .inl (cA, 32, .inl b)), (qe, .inl (cE, 2, .inl g))]) [0, 1, 2, 3] rfl
  have hDc := hD.sub (ws' := [(qp, .inr (1, [.ref qf])), (qf, .inr (0, [.ref qb, .ref qe, .int od, .int ot, .int tm])), (qb, .inl (cA, 32, .inl b)), (qe, .inl (cE, 2, .inl g))]) [0, 1, 2, 3] (by decide) rfl
  have hKc := hK.sub (tys' := [(cA, .int), (cE, .int)]) [0, 1] rfl
  have hFc := va_free (wc := [(qp, .inr (1, [.ref qf])), (qf, .inr (0, [.ref qb, .ref qe, .int od, .int ot, .int tm])), (qb, .inl (cA, 32, .inl b)), (qe, .inl (cE, 2, .inl g))]) hD hS hA [0, 1, 2, 3] rfl
  refine va_calli (va_runV (As := []) (rest := []) ⟨hx, hb, hml, hown, hts⟩ (c_P_active l dC dI cA cE qp qf qb qe s.heap.size b g od ot tm) (cwV 0 hts gX1_turn_X1_active rfl rfl rfl (by decide +kernel) ⟨Nat.le_of_ble_eq_true rfl, Nat.le_of_ble_eq_true rfl⟩) ⟨fun a U g mk q => by obtain ⟨q0, q1, qP, qK, qD⟩ := q; exact ⟨q0, q1, qP, va_K.moved (u := U) (U := U.calling g mk a) (Vm.Alike.refl U.vm) qK, qD⟩, va_recv hKc hPc (ci := 1) (q0 := 0) rfl rfl, fun U hU hW => ⟨rfl, by rw [hU], by rw [hU]; exact hPc, va_K.moved hW.alike hKc, hDc.weaken (fun _ _ _ _ => trivial)⟩⟩ rfl rfl hl.1 rfl (lv_room (Nat.le_of_ble_eq_true rfl)) dX1_turn_1 ⟨(Nat.zero_le _), (Nat.zero_le _)⟩) hS (fun q _ h => hFc q h) hFc (fun r_1 u t H locs ht hvm hw hB hz1 hk1 hS => ?_)
  have hw : tt_ac b = r_1 := hw.symm
  subst hw
  obtain ⟨hP1, hK1, hD1⟩ := hB
  rw [ht] at hP1
  obtain ⟨hP, hD⟩ := va_join (wr := []) (w1 := [(qp, .inr (1, [.ref qf])), (qf, .inr (0, [.ref qb, .ref qe, .int od, .int ot, .int tm])), (qb, .inl (cA, 32, .inl b)), (qe, .inl (cE, 2, .inl g))]) hP hD [0, 1, 2, 3] [] rfl rfl (by decide) (by decide) hk1 hFc hP1 hD1
  have hP : va_P (dC, dI) ttCl [(qp, .inr (1, [.ref qf])), (qf, .inr (0, [.ref qb, .ref qe, .int od, .int ot, .int tm])), (qb, .inl (cA, 32, .inl b)), (qe, .inl (cE, 2, .inl g))] H := hP
  have hD : va_D A [(qp, .inr (1, [.ref qf])), (qf, .inr (0, [.ref qb, .ref qe, .int od, .int ot, .int tm])), (qb, .inl (cA, 32, .inl b)), (qe, .inl (cE, 2, .inl g))] := hD
  refine lv_istore (lv' := [(4, .int (tt_ac b)), (0, .ref qp), (1, .int p1), (2, .int a1), (3, .int c1)]) hx hb dX1_turn_4 hl (by decide) rfl (fun ls hl => ?_)
  refine lv_iconst (v := 1) hx hb dX1_turn_6 (by decide) ?_
  refine lv_iload hx hb dX1_turn_7 (lv_at hl 0 rfl) ?_
  refine lv_isub hx hb dX1_turn_9 ?_
  refine lv_istore (lv' := [(5, .int (1 - (tt_ac b))), (4, .int (tt_ac b)), (0, .ref qp), (1, .int p1), (2, .int a1), (3, .int c1)]) hx hb dX1_turn_10 hl (by decide) rfl (fun ls hl => ?_)
  refine lv_aload_n hx hb dX1_turn_12 rfl (lv_at hl 2 rfl) ?_
  refine lv_iload hx hb dX1_turn_13 (lv_at hl 0 rfl) ?_
  have hPc := hP.sub (ws' := [(qp, .inr (1, [.ref qf])), (qf, .inr (0, [.ref qb, .ref qe, .int od, .int ot, .int tm])), (qb, .inl (cA, 32, .inl b)), (qe, .inl (cE, 2, .inl g))]) [0, 1, 2, 3] rfl
  have hDc := hD.sub (ws' := [(qp, .inr (1, [.ref qf])), (qf, .inr (0, [.ref qb, .ref qe, .int od, .int ot, .int tm])), (qb, .inl (cA, 32, .inl b)), (qe, .inl (cE, 2, .inl g))]) [0, 1, 2, 3] (by decide) rfl
  have hKc := hK.sub (tys' := [(cA, .int), (cE, .int)]) [0, 1] rfl
  have hFc := va_free (wc := [(qp, .inr (1, [.ref qf])), (qf, .inr (0, [.ref qb, .ref qe, .int od, .int ot, .int tm])), (qb, .inl (cA, 32, .inl b)), (qe, .inl (cE, 2, .inl g))]) hD hS hA [0, 1, 2, 3] rfl
  refine va_calli (va_runV (As := [.int (1 - (tt_ac b))]) (rest := []) ⟨hx, hb, hml, hown, hts⟩ (c_P_isGood l dC dI cA cE qp qf qb qe H.size b g od ot tm (1 - (tt_ac b))) (cwV 1 hts gX1_turn_X1_isGood rfl rfl rfl (by decide +kernel) ⟨Nat.le_of_ble_eq_true rfl, Nat.le_of_ble_eq_true rfl⟩) ⟨fun a U g mk q => by obtain ⟨q0, q1, qP, qK, qD⟩ := q; exact ⟨q0, q1, qP, va_K.moved (u := U) (U := U.calling g mk a) (Vm.Alike.refl U.vm) qK, qD⟩, va_recv hKc hPc (ci := 1) (q0 := 0) rfl rfl, fun U hU hW => ⟨rfl, by rw [hU], by rw [hU]; exact hPc, va_K.moved hW.alike hKc, hDc.weaken (fun _ _ _ _ => trivial)⟩⟩ rfl rfl hl.1 rfl (lv_room (Nat.le_of_ble_eq_true rfl)) dX1_turn_15 ⟨(Nat.zero_le _), (Nat.zero_le _)⟩) hS (fun q _ h => hFc q h) hFc (fun r_2 u t H locs ht hvm hw hB hz1 hk1 hS => ?_)
  have hw : tt_gd b (1 - (tt_ac b)) = r_2 := hw.symm
  subst hw
  obtain ⟨hP1, hK1, hD1⟩ := hB
  rw [ht] at hP1
  obtain ⟨hP, hD⟩ := va_join (wr := []) (w1 := [(qp, .inr (1, [.ref qf])), (qf, .inr (0, [.ref qb, .ref qe, .int od, .int ot, .int tm])), (qb, .inl (cA, 32, .inl b)), (qe, .inl (cE, 2, .inl g))]) hP hD [0, 1, 2, 3] [] rfl rfl (by decide) (by decide) hk1 hFc hP1 hD1
  have hP : va_P (dC, dI) ttCl [(qp, .inr (1, [.ref qf])), (qf, .inr (0, [.ref qb, .ref qe, .int od, .int ot, .int tm])), (qb, .inl (cA, 32, .inl b)), (qe, .inl (cE, 2, .inl g))] H := hP
  have hD : va_D A [(qp, .inr (1, [.ref qf])), (qf, .inr (0, [.ref qb, .ref qe, .int od, .int ot, .int tm])), (qb, .inl (cA, 32, .inl b)), (qe, .inl (cE, 2, .inl g))] := hD
  refine lv_if_eq (tgt := 37) hx hb dX1_turn_18 (by decide) (fun c_3 => ?_) (fun c_3 => ?_)
  · refine lv_aload_n hx hb dX1_turn_37 rfl (lv_at hl 2 rfl) ?_
    refine va_get (D := (dC, dI)) (ci := 1) (v := .ref qf) (C := RX1) (T := TX1) (N := 1) hx hb hts (by decide +kernel) hown hK hP 0 rfl rfl 0 (by decide) (hts (.fieldLink RX1 7 "TornTryCounter$Pages" "flash" "LTornTryCounter$Flash;") (by decide +kernel)) (fun _ h9 => h9) rfl dX1_turn_38 ?_
    refine lv_iload hx hb dX1_turn_41 (lv_at hl 0 rfl) ?_
    have hPc := hP.sub (ws' := [(qf, .inr (0, [.ref qb, .ref qe, .int od, .int ot, .int tm])), (qb, .inl (cA, 32, .inl b)), (qe, .inl (cE, 2, .inl g))]) [1, 2, 3] rfl
    have hDc := hD.sub (ws' := [(qf, .inr (0, [.ref qb, .ref qe, .int od, .int ot, .int tm])), (qb, .inl (cA, 32, .inl b)), (qe, .inl (cE, 2, .inl g))]) [1, 2, 3] (by decide) rfl
    have hKc := hK.sub (tys' := [(cA, .int), (cE, .int)]) [0, 1] rfl
    have hFc := va_free (wc := [(qf, .inr (0, [.ref qb, .ref qe, .int od, .int ot, .int tm])), (qb, .inl (cA, 32, .inl b)), (qe, .inl (cE, 2, .inl g))]) hD hS hA [1, 2, 3] rfl
    refine va_calli (va_runV (As := [.int (1 - (tt_ac b))]) (rest := []) ⟨hx, hb, hml, hown, hts⟩ (c_F_erase l dC dI cA cE qf qb qe H.size b g od ot tm (1 - (tt_ac b))) (cwV 1 hts gX1_turn_X0_erase rfl rfl rfl (by decide +kernel) ⟨Nat.le_of_ble_eq_true rfl, Nat.le_of_ble_eq_true rfl⟩) ⟨fun a U g mk q => by obtain ⟨q0, q1, qP, qK, qD⟩ := q; exact ⟨q0, q1, qP, va_K.moved (u := U) (U := U.calling g mk a) (Vm.Alike.refl U.vm) qK, qD⟩, va_recv hKc hPc (ci := 0) (q0 := 0) rfl rfl, fun U hU hW => ⟨rfl, by rw [hU], by rw [hU]; exact hPc, va_K.moved hW.alike hKc, hDc.weaken (fun _ _ _ _ => trivial)⟩⟩ rfl rfl hl.1 rfl (lv_room (Nat.le_of_ble_eq_true rfl)) dX1_turn_43 ⟨(Nat.zero_le _), (Nat.zero_le _)⟩) hS (fun q _ h => hFc q h) hFc (fun r_4 u t H locs ht hvm hw hB hz1 hk1 hS => ?_)
    obtain ⟨b_4, g_4, od_4, ot_4, tm_4⟩ := u
    obtain ⟨hP1, hK1, hD1⟩ := hB
    have e_4 : tt_erase (b, g, od, ot, tm) (1 - (tt_ac b)) = (r_4, (b_4, g_4, od_4, ot_4, tm_4)) := hw
    rw [ht] at hP1
    obtain ⟨hP, hD⟩ := va_join (wr := [(qp, .inr (1, [.ref qf]))]) (w1 := [(qf, .inr (0, [.ref qb, .ref qe, .int od_4, .int ot_4, .int tm_4])), (qb, .inl (cA, 32, .inl b_4)), (qe, .inl (cE, 2, .inl g_4))]) hP hD [1, 2, 3] [0] rfl rfl (by decide) (by decide) hk1 hFc hP1 hD1
    have hP : va_P (dC, dI) ttCl [(qp, .inr (1, [.ref qf])), (qf, .inr (0, [.ref qb, .ref qe, .int od_4, .int ot_4, .int tm_4])), (qb, .inl (cA, 32, .inl b_4)), (qe, .inl (cE, 2, .inl g_4))] H := hP
    have hD : va_D A [(qp, .inr (1, [.ref qf])), (qf, .inr (0, [.ref qb, .ref qe, .int od_4, .int ot_4, .int tm_4])), (qb, .inl (cA, 32, .inl b_4)), (qe, .inl (cE, 2, .inl g_4))] := hD
    refine lv_if_eq (tgt := 150) hx hb dX1_turn_46 (by decide) (fun c_5 => ?_) (fun c_5 => ?_)
    · refine lv_iconst (v := 0) hx hb dX1_turn_150 (by decide) ?_
      have hP9 := hP.sub (ws' := [(qp, .inr (1, [.ref qf])), (qf, .inr (0, [.ref qb, .ref qe, .int od_4, .int ot_4, .int tm_4])), (qb, .inl (cA, 32, .inl b_4)), (qe, .inl (cE, 2, .inl g_4))]) [0, 1, 2, 3] rfl
      have hD9 := hD.sub (ws' := [(qp, .inr (1, [.ref qf])), (qf, .inr (0, [.ref qb, .ref qe, .int od_4, .int ot_4, .int tm_4])), (qb, .inl (cA, 32, .inl b_4)), (qe, .inl (cE, 2, .inl g_4))]) [0, 1, 2, 3] (by decide) rfl
      have hK9 := hK.sub (tys' := [(cA, .int), (cE, .int)]) [0, 1] rfl
      exact W.zret (v := 0) hx hb hr (by first | rfl | decide) (fun t ht hW => ⟨⟨0, (b_4, g_4, od_4, ot_4, tm_4), rfl, (by first | (simp only [tt_turn, tt_t0, tt_seq_p, c_3, e_4, c_5, reduceIte, eq_self]; done) | (simp [tt_turn, tt_t0, tt_seq_p, c_3, e_4, c_5]; done)), by rw [ht]; exact hP9, va_K.moved hW.alike hK9, hD9⟩, hS.F ht⟩) hS.2.2 dX1_turn_151
    · refine lv_aload_n hx hb dX1_turn_49 rfl (lv_at hl 2 rfl) ?_
      refine va_get (D := (dC, dI)) (ci := 1) (v := .ref qf) (C := RX1) (T := TX1) (N := 1) hx hb hts (by decide +kernel) hown hK hP 0 rfl rfl 0 (by decide) (hts (.fieldLink RX1 7 "TornTryCounter$Pages" "flash" "LTornTryCounter$Flash;") (by decide +kernel)) (fun _ h9 => h9) rfl dX1_turn_50 ?_
      refine lv_iload hx hb dX1_turn_53 (lv_at hl 0 rfl) ?_
      refine lv_iconst (v := 1) hx hb dX1_turn_55 (by decide) ?_
      refine lv_aload_n hx hb dX1_turn_56 rfl (lv_at hl 2 rfl) ?_
      refine lv_iload hx hb dX1_turn_57 (lv_at hl 1 rfl) ?_
      have hPc := hP.sub (ws' := [(qp, .inr (1, [.ref qf])), (qf, .inr (0, [.ref qb, .ref qe, .int od_4, .int ot_4, .int tm_4])), (qb, .inl (cA, 32, .inl b_4)), (qe, .inl (cE, 2, .inl g_4))]) [0, 1, 2, 3] rfl
      have hDc := hD.sub (ws' := [(qp, .inr (1, [.ref qf])), (qf, .inr (0, [.ref qb, .ref qe, .int od_4, .int ot_4, .int tm_4])), (qb, .inl (cA, 32, .inl b_4)), (qe, .inl (cE, 2, .inl g_4))]) [0, 1, 2, 3] (by decide) rfl
      have hKc := hK.sub (tys' := [(cA, .int), (cE, .int)]) [0, 1] rfl
      have hFc := va_free (wc := [(qp, .inr (1, [.ref qf])), (qf, .inr (0, [.ref qb, .ref qe, .int od_4, .int ot_4, .int tm_4])), (qb, .inl (cA, 32, .inl b_4)), (qe, .inl (cE, 2, .inl g_4))]) hD hS hA [0, 1, 2, 3] rfl
      refine va_calli (va_runV (As := [.int (tt_ac b)]) (rest := [.int 1, .int (1 - (tt_ac b)), .ref qf]) ⟨hx, hb, hml, hown, hts⟩ (c_P_generationAfter l dC dI cA cE qp qf qb qe H.size b_4 g_4 od_4 ot_4 tm_4 (tt_ac b)) (cwV 1 hts gX1_turn_X1_generationAfter rfl rfl rfl (by decide +kernel) ⟨Nat.le_of_ble_eq_true rfl, Nat.le_of_ble_eq_true rfl⟩) ⟨fun a U g mk q => by obtain ⟨q0, q1, qP, qK, qD⟩ := q; exact ⟨q0, q1, qP, va_K.moved (u := U) (U := U.calling g mk a) (Vm.Alike.refl U.vm) qK, qD⟩, va_recv hKc hPc (ci := 1) (q0 := 0) rfl rfl, fun U hU hW => ⟨rfl, by rw [hU], by rw [hU]; exact hPc, va_K.moved hW.alike hKc, hDc.weaken (fun _ _ _ _ => trivial)⟩⟩ rfl rfl hl.1 rfl (lv_room (Nat.le_of_ble_eq_true rfl)) dX1_turn_59 ⟨(Nat.zero_le _), (Nat.zero_le _)⟩) hS (fun q _ h => hFc q h) hFc (fun r_6 u t H locs ht hvm hw hB hz1 hk1 hS => ?_)
      have hw : tt_ga b_4 (tt_ac b) = r_6 := hw.symm
      subst hw
      obtain ⟨hP1, hK1, hD1⟩ := hB
      rw [ht] at hP1
      obtain ⟨hP, hD⟩ := va_join (wr := []) (w1 := [(qp, .inr (1, [.ref qf])), (qf, .inr (0, [.ref qb, .ref qe, .int od_4, .int ot_4, .int tm_4])), (qb, .inl (cA, 32, .inl b_4)), (qe, .inl (cE, 2, .inl g_4))]) hP hD [0, 1, 2, 3] [] rfl rfl (by decide) (by decide) hk1 hFc hP1 hD1
      have hP : va_P (dC, dI) ttCl [(qp, .inr (1, [.ref qf])), (qf, .inr (0, [.ref qb, .ref qe, .int od_4, .int ot_4, .int tm_4])), (qb, .inl (cA, 32, .inl b_4)), (qe, .inl (cE, 2, .inl g_4))] H := hP
      have hD : va_D A [(qp, .inr (1, [.ref qf])), (qf, .inr (0, [.ref qb, .ref qe, .int od_4, .int ot_4, .int tm_4])), (qb, .inl (cA, 32, .inl b_4)), (qe, .inl (cE, 2, .inl g_4))] := hD
      have hPc := hP.sub (ws' := [(qf, .inr (0, [.ref qb, .ref qe, .int od_4, .int ot_4, .int tm_4])), (qb, .inl (cA, 32, .inl b_4)), (qe, .inl (cE, 2, .inl g_4))]) [1, 2, 3] rfl
      have hDc := hD.sub (ws' := [(qf, .inr (0, [.ref qb, .ref qe, .int od_4, .int ot_4, .int tm_4])), (qb, .inl (cA, 32, .inl b_4)), (qe, .inl (cE, 2, .inl g_4))]) [1, 2, 3] (by decide) rfl
      have hKc := hK.sub (tys' := [(cA, .int), (cE, .int)]) [0, 1] rfl
      have hFc := va_free (wc := [(qf, .inr (0, [.ref qb, .ref qe, .int od_4, .int ot_4, .int tm_4])), (qb, .inl (cA, 32, .inl b_4)), (qe, .inl (cE, 2, .inl g_4))]) hD hS hA [1, 2, 3] rfl
      refine va_calli (va_runV (As := [.int (1 - (tt_ac b)), .int 1, .int (tt_ga b_4 (tt_ac b))]) (rest := []) ⟨hx, hb, hml, hown, hts⟩ (c_F_program l dC dI cA cE qf qb qe H.size b_4 g_4 od_4 ot_4 tm_4 (1 - (tt_ac b)) 1 (tt_ga b_4 (tt_ac b))) (cwV 3 hts gX1_turn_X0_program rfl rfl rfl (by decide +kernel) ⟨Nat.le_of_ble_eq_true rfl, Nat.le_of_ble_eq_true rfl⟩) ⟨fun a U g mk q => by obtain ⟨q0, q1, qP, qK, qD⟩ := q; exact ⟨q0, q1, qP, va_K.moved (u := U) (U := U.calling g mk a) (Vm.Alike.refl U.vm) qK, qD⟩, va_recv hKc hPc (ci := 0) (q0 := 0) rfl rfl, fun U hU hW => ⟨rfl, by rw [hU], by rw [hU]; exact hPc, va_K.moved hW.alike hKc, hDc.weaken (fun _ _ _ _ => trivial)⟩⟩ rfl rfl hl.1 rfl (lv_room (Nat.le_of_ble_eq_true rfl)) dX1_turn_62 ⟨(Nat.zero_le _), (Nat.zero_le _)⟩) hS (fun q _ h => hFc q h) hFc (fun r_7 u t H locs ht hvm hw hB hz1 hk1 hS => ?_)
      obtain ⟨b_7, g_7, od_7, ot_7, tm_7⟩ := u
      obtain ⟨hP1, hK1, hD1⟩ := hB
      have e_7 : tt_prog (b_4, g_4, od_4, ot_4, tm_4) (1 - (tt_ac b)) 1 (tt_ga b_4 (tt_ac b)) = (r_7, (b_7, g_7, od_7, ot_7, tm_7)) := hw
      rw [ht] at hP1
      obtain ⟨hP, hD⟩ := va_join (wr := [(qp, .inr (1, [.ref qf]))]) (w1 := [(qf, .inr (0, [.ref qb, .ref qe, .int od_7, .int ot_7, .int tm_7])), (qb, .inl (cA, 32, .inl b_7)), (qe, .inl (cE, 2, .inl g_7))]) hP hD [1, 2, 3] [0] rfl rfl (by decide) (by decide) hk1 hFc hP1 hD1
      have hP : va_P (dC, dI) ttCl [(qp, .inr (1, [.ref qf])), (qf, .inr (0, [.ref qb, .ref qe, .int od_7, .int ot_7, .int tm_7])), (qb, .inl (cA, 32, .inl b_7)), (qe, .inl (cE, 2, .inl g_7))] H := hP
      have hD : va_D A [(qp, .inr (1, [.ref qf])), (qf, .inr (0, [.ref qb, .ref qe, .int od_7, .int ot_7, .int tm_7])), (qb, .inl (cA, 32, .inl b_7)), (qe, .inl (cE, 2, .inl g_7))] := hD
      refine lv_if_eq (tgt := 150) hx hb dX1_turn_65 (by decide) (fun c_8 => ?_) (fun c_8 => ?_)
      · refine lv_iconst (v := 0) hx hb dX1_turn_150 (by decide) ?_
        have hP9 := hP.sub (ws' := [(qp, .inr (1, [.ref qf])), (qf, .inr (0, [.ref qb, .ref qe, .int od_7, .int ot_7, .int tm_7])), (qb, .inl (cA, 32, .inl b_7)), (qe, .inl (cE, 2, .inl g_7))]) [0, 1, 2, 3] rfl
        have hD9 := hD.sub (ws' := [(qp, .inr (1, [.ref qf])), (qf, .inr (0, [.ref qb, .ref qe, .int od_7, .int ot_7, .int tm_7])), (qb, .inl (cA, 32, .inl b_7)), (qe, .inl (cE, 2, .inl g_7))]) [0, 1, 2, 3] (by decide) rfl
        have hK9 := hK.sub (tys' := [(cA, .int), (cE, .int)]) [0, 1] rfl
        exact W.zret (v := 0) hx hb hr (by first | rfl | decide) (fun t ht hW => ⟨⟨0, (b_7, g_7, od_7, ot_7, tm_7), rfl, (by first | (simp only [tt_turn, tt_t0, tt_seq_p, c_3, e_4, c_5, e_7, c_8, reduceIte, eq_self]; done) | (simp [tt_turn, tt_t0, tt_seq_p, c_3, e_4, c_5, e_7, c_8]; done)), by rw [ht]; exact hP9, va_K.moved hW.alike hK9, hD9⟩, hS.F ht⟩) hS.2.2 dX1_turn_151
      · refine lv_aload_n hx hb dX1_turn_68 rfl (lv_at hl 2 rfl) ?_
        refine va_get (D := (dC, dI)) (ci := 1) (v := .ref qf) (C := RX1) (T := TX1) (N := 1) hx hb hts (by decide +kernel) hown hK hP 0 rfl rfl 0 (by decide) (hts (.fieldLink RX1 7 "TornTryCounter$Pages" "flash" "LTornTryCounter$Flash;") (by decide +kernel)) (fun _ h9 => h9) rfl dX1_turn_69 ?_
        refine lv_iload hx hb dX1_turn_72 (lv_at hl 0 rfl) ?_
        refine lv_iconst (v := 2) hx hb dX1_turn_74 (by decide) ?_
        refine lv_iload_n hx hb dX1_turn_75 rfl (lv_at hl 3 rfl) ?_
        refine lv_bipush (v := 8) hx hb dX1_turn_76 (by decide) ?_
        refine lv_ishr hx hb dX1_turn_78 ?_
        have hPc := hP.sub (ws' := [(qf, .inr (0, [.ref qb, .ref qe, .int od_7, .int ot_7, .int tm_7])), (qb, .inl (cA, 32, .inl b_7)), (qe, .inl (cE, 2, .inl g_7))]) [1, 2, 3] rfl
        have hDc := hD.sub (ws' := [(qf, .inr (0, [.ref qb, .ref qe, .int od_7, .int ot_7, .int tm_7])), (qb, .inl (cA, 32, .inl b_7)), (qe, .inl (cE, 2, .inl g_7))]) [1, 2, 3] (by decide) rfl
        have hKc := hK.sub (tys' := [(cA, .int), (cE, .int)]) [0, 1] rfl
        have hFc := va_free (wc := [(qf, .inr (0, [.ref qb, .ref qe, .int od_7, .int ot_7, .int tm_7])), (qb, .inl (cA, 32, .inl b_7)), (qe, .inl (cE, 2, .inl g_7))]) hD hS hA [1, 2, 3] rfl
        refine va_calli (va_runV (As := [.int (1 - (tt_ac b)), .int 2, .int (p1 >>> ((8 : Int32) &&& 31))]) (rest := []) ⟨hx, hb, hml, hown, hts⟩ (c_F_program l dC dI cA cE qf qb qe H.size b_7 g_7 od_7 ot_7 tm_7 (1 - (tt_ac b)) 2 (p1 >>> ((8 : Int32) &&& 31))) (cwV 3 hts gX1_turn_X0_program rfl rfl rfl (by decide +kernel) ⟨Nat.le_of_ble_eq_true rfl, Nat.le_of_ble_eq_true rfl⟩) ⟨fun a U g mk q => by obtain ⟨q0, q1, qP, qK, qD⟩ := q; exact ⟨q0, q1, qP, va_K.moved (u := U) (U := U.calling g mk a) (Vm.Alike.refl U.vm) qK, qD⟩, va_recv hKc hPc (ci := 0) (q0 := 0) rfl rfl, fun U hU hW => ⟨rfl, by rw [hU], by rw [hU]; exact hPc, va_K.moved hW.alike hKc, hDc.weaken (fun _ _ _ _ => trivial)⟩⟩ rfl rfl hl.1 rfl (lv_room (Nat.le_of_ble_eq_true rfl)) dX1_turn_79 ⟨(Nat.zero_le _), (Nat.zero_le _)⟩) hS (fun q _ h => hFc q h) hFc (fun r_9 u t H locs ht hvm hw hB hz1 hk1 hS => ?_)
        obtain ⟨b_9, g_9, od_9, ot_9, tm_9⟩ := u
        obtain ⟨hP1, hK1, hD1⟩ := hB
        have e_9 : tt_prog (b_7, g_7, od_7, ot_7, tm_7) (1 - (tt_ac b)) 2 (p1 >>> ((8 : Int32) &&& 31)) = (r_9, (b_9, g_9, od_9, ot_9, tm_9)) := hw
        rw [ht] at hP1
        obtain ⟨hP, hD⟩ := va_join (wr := [(qp, .inr (1, [.ref qf]))]) (w1 := [(qf, .inr (0, [.ref qb, .ref qe, .int od_9, .int ot_9, .int tm_9])), (qb, .inl (cA, 32, .inl b_9)), (qe, .inl (cE, 2, .inl g_9))]) hP hD [1, 2, 3] [0] rfl rfl (by decide) (by decide) hk1 hFc hP1 hD1
        have hP : va_P (dC, dI) ttCl [(qp, .inr (1, [.ref qf])), (qf, .inr (0, [.ref qb, .ref qe, .int od_9, .int ot_9, .int tm_9])), (qb, .inl (cA, 32, .inl b_9)), (qe, .inl (cE, 2, .inl g_9))] H := hP
        have hD : va_D A [(qp, .inr (1, [.ref qf])), (qf, .inr (0, [.ref qb, .ref qe, .int od_9, .int ot_9, .int tm_9])), (qb, .inl (cA, 32, .inl b_9)), (qe, .inl (cE, 2, .inl g_9))] := hD
        refine lv_if_eq (tgt := 150) hx hb dX1_turn_82 (by decide) (fun c_10 => ?_) (fun c_10 => ?_)
        · refine lv_iconst (v := 0) hx hb dX1_turn_150 (by decide) ?_
          have hP9 := hP.sub (ws' := [(qp, .inr (1, [.ref qf])), (qf, .inr (0, [.ref qb, .ref qe, .int od_9, .int ot_9, .int tm_9])), (qb, .inl (cA, 32, .inl b_9)), (qe, .inl (cE, 2, .inl g_9))]) [0, 1, 2, 3] rfl
          have hD9 := hD.sub (ws' := [(qp, .inr (1, [.ref qf])), (qf, .inr (0, [.ref qb, .ref qe, .int od_9, .int ot_9, .int tm_9])), (qb, .inl (cA, 32, .inl b_9)), (qe, .inl (cE, 2, .inl g_9))]) [0, 1, 2, 3] (by decide) rfl
          have hK9 := hK.sub (tys' := [(cA, .int), (cE, .int)]) [0, 1] rfl
          exact W.zret (v := 0) hx hb hr (by first | rfl | decide) (fun t ht hW => ⟨⟨0, (b_9, g_9, od_9, ot_9, tm_9), rfl, (by first | (simp only [tt_turn, tt_t0, tt_seq_p, c_3, e_4, c_5, e_7, c_8, e_9, c_10, reduceIte, eq_self]; done) | (simp [tt_turn, tt_t0, tt_seq_p, c_3, e_4, c_5, e_7, c_8, e_9, c_10]; done)), by rw [ht]; exact hP9, va_K.moved hW.alike hK9, hD9⟩, hS.F ht⟩) hS.2.2 dX1_turn_151
        · refine lv_aload_n hx hb dX1_turn_85 rfl (lv_at hl 2 rfl) ?_
          refine va_get (D := (dC, dI)) (ci := 1) (v := .ref qf) (C := RX1) (T := TX1) (N := 1) hx hb hts (by decide +kernel) hown hK hP 0 rfl rfl 0 (by decide) (hts (.fieldLink RX1 7 "TornTryCounter$Pages" "flash" "LTornTryCounter$Flash;") (by decide +kernel)) (fun _ h9 => h9) rfl dX1_turn_86 ?_
          refine lv_iload hx hb dX1_turn_89 (lv_at hl 0 rfl) ?_
          refine lv_iconst (v := 3) hx hb dX1_turn_91 (by decide) ?_
          refine lv_iload_n hx hb dX1_turn_92 rfl (lv_at hl 3 rfl) ?_
          refine lv_sipush (v := 255) hx hb dX1_turn_93 (by decide) ?_
          refine lv_iand hx hb dX1_turn_96 ?_
          have hPc := hP.sub (ws' := [(qf, .inr (0, [.ref qb, .ref qe, .int od_9, .int ot_9, .int tm_9])), (qb, .inl (cA, 32, .inl b_9)), (qe, .inl (cE, 2, .inl g_9))]) [1, 2, 3] rfl
          have hDc := hD.sub (ws' := [(qf, .inr (0, [.ref qb, .ref qe, .int od_9, .int ot_9, .int tm_9])), (qb, .inl (cA, 32, .inl b_9)), (qe, .inl (cE, 2, .inl g_9))]) [1, 2, 3] (by decide) rfl
          have hKc := hK.sub (tys' := [(cA, .int), (cE, .int)]) [0, 1] rfl
          have hFc := va_free (wc := [(qf, .inr (0, [.ref qb, .ref qe, .int od_9, .int ot_9, .int tm_9])), (qb, .inl (cA, 32, .inl b_9)), (qe, .inl (cE, 2, .inl g_9))]) hD hS hA [1, 2, 3] rfl
          refine va_calli (va_runV (As := [.int (1 - (tt_ac b)), .int 3, .int (p1 &&& 255)]) (rest := []) ⟨hx, hb, hml, hown, hts⟩ (c_F_program l dC dI cA cE qf qb qe H.size b_9 g_9 od_9 ot_9 tm_9 (1 - (tt_ac b)) 3 (p1 &&& 255)) (cwV 3 hts gX1_turn_X0_program rfl rfl rfl (by decide +kernel) ⟨Nat.le_of_ble_eq_true rfl, Nat.le_of_ble_eq_true rfl⟩) ⟨fun a U g mk q => by obtain ⟨q0, q1, qP, qK, qD⟩ := q; exact ⟨q0, q1, qP, va_K.moved (u := U) (U := U.calling g mk a) (Vm.Alike.refl U.vm) qK, qD⟩, va_recv hKc hPc (ci := 0) (q0 := 0) rfl rfl, fun U hU hW => ⟨rfl, by rw [hU], by rw [hU]; exact hPc, va_K.moved hW.alike hKc, hDc.weaken (fun _ _ _ _ => trivial)⟩⟩ rfl rfl hl.1 rfl (lv_room (Nat.le_of_ble_eq_true rfl)) dX1_turn_97 ⟨(Nat.zero_le _), (Nat.zero_le _)⟩) hS (fun q _ h => hFc q h) hFc (fun r_11 u t H locs ht hvm hw hB hz1 hk1 hS => ?_)
          obtain ⟨b_11, g_11, od_11, ot_11, tm_11⟩ := u
          obtain ⟨hP1, hK1, hD1⟩ := hB
          have e_11 : tt_prog (b_9, g_9, od_9, ot_9, tm_9) (1 - (tt_ac b)) 3 (p1 &&& 255) = (r_11, (b_11, g_11, od_11, ot_11, tm_11)) := hw
          rw [ht] at hP1
          obtain ⟨hP, hD⟩ := va_join (wr := [(qp, .inr (1, [.ref qf]))]) (w1 := [(qf, .inr (0, [.ref qb, .ref qe, .int od_11, .int ot_11, .int tm_11])), (qb, .inl (cA, 32, .inl b_11)), (qe, .inl (cE, 2, .inl g_11))]) hP hD [1, 2, 3] [0] rfl rfl (by decide) (by decide) hk1 hFc hP1 hD1
          have hP : va_P (dC, dI) ttCl [(qp, .inr (1, [.ref qf])), (qf, .inr (0, [.ref qb, .ref qe, .int od_11, .int ot_11, .int tm_11])), (qb, .inl (cA, 32, .inl b_11)), (qe, .inl (cE, 2, .inl g_11))] H := hP
          have hD : va_D A [(qp, .inr (1, [.ref qf])), (qf, .inr (0, [.ref qb, .ref qe, .int od_11, .int ot_11, .int tm_11])), (qb, .inl (cA, 32, .inl b_11)), (qe, .inl (cE, 2, .inl g_11))] := hD
          refine lv_if_eq (tgt := 150) hx hb dX1_turn_100 (by decide) (fun c_12 => ?_) (fun c_12 => ?_)
          · refine lv_iconst (v := 0) hx hb dX1_turn_150 (by decide) ?_
            have hP9 := hP.sub (ws' := [(qp, .inr (1, [.ref qf])), (qf, .inr (0, [.ref qb, .ref qe, .int od_11, .int ot_11, .int tm_11])), (qb, .inl (cA, 32, .inl b_11)), (qe, .inl (cE, 2, .inl g_11))]) [0, 1, 2, 3] rfl
            have hD9 := hD.sub (ws' := [(qp, .inr (1, [.ref qf])), (qf, .inr (0, [.ref qb, .ref qe, .int od_11, .int ot_11, .int tm_11])), (qb, .inl (cA, 32, .inl b_11)), (qe, .inl (cE, 2, .inl g_11))]) [0, 1, 2, 3] (by decide) rfl
            have hK9 := hK.sub (tys' := [(cA, .int), (cE, .int)]) [0, 1] rfl
            exact W.zret (v := 0) hx hb hr (by first | rfl | decide) (fun t ht hW => ⟨⟨0, (b_11, g_11, od_11, ot_11, tm_11), rfl, (by first | (simp only [tt_turn, tt_t0, tt_seq_p, c_3, e_4, c_5, e_7, c_8, e_9, c_10, e_11, c_12, reduceIte, eq_self]; done) | (simp [tt_turn, tt_t0, tt_seq_p, c_3, e_4, c_5, e_7, c_8, e_9, c_10, e_11, c_12]; done)), by rw [ht]; exact hP9, va_K.moved hW.alike hK9, hD9⟩, hS.F ht⟩) hS.2.2 dX1_turn_151
          · refine lv_aload_n hx hb dX1_turn_103 rfl (lv_at hl 2 rfl) ?_
            refine va_get (D := (dC, dI)) (ci := 1) (v := .ref qf) (C := RX1) (T := TX1) (N := 1) hx hb hts (by decide +kernel) hown hK hP 0 rfl rfl 0 (by decide) (hts (.fieldLink RX1 7 "TornTryCounter$Pages" "flash" "LTornTryCounter$Flash;") (by decide +kernel)) (fun _ h9 => h9) rfl dX1_turn_104 ?_
            refine lv_iload hx hb dX1_turn_107 (lv_at hl 0 rfl) ?_
            refine lv_iconst (v := 4) hx hb dX1_turn_109 (by decide) ?_
            refine lv_iload_n hx hb dX1_turn_110 rfl (lv_at hl 4 rfl) ?_
            have hPc := hP.sub (ws' := [(qf, .inr (0, [.ref qb, .ref qe, .int od_11, .int ot_11, .int tm_11])), (qb, .inl (cA, 32, .inl b_11)), (qe, .inl (cE, 2, .inl g_11))]) [1, 2, 3] rfl
            have hDc := hD.sub (ws' := [(qf, .inr (0, [.ref qb, .ref qe, .int od_11, .int ot_11, .int tm_11])), (qb, .inl (cA, 32, .inl b_11)), (qe, .inl (cE, 2, .inl g_11))]) [1, 2, 3] (by decide) rfl
            have hKc := hK.sub (tys' := [(cA, .int), (cE, .int)]) [0, 1] rfl
            have hFc := va_free (wc := [(qf, .inr (0, [.ref qb, .ref qe, .int od_11, .int ot_11, .int tm_11])), (qb, .inl (cA, 32, .inl b_11)), (qe, .inl (cE, 2, .inl g_11))]) hD hS hA [1, 2, 3] rfl
            refine va_calli (va_runV (As := [.int (1 - (tt_ac b)), .int 4, .int a1]) (rest := []) ⟨hx, hb, hml, hown, hts⟩ (c_F_program l dC dI cA cE qf qb qe H.size b_11 g_11 od_11 ot_11 tm_11 (1 - (tt_ac b)) 4 a1) (cwV 3 hts gX1_turn_X0_program rfl rfl rfl (by decide +kernel) ⟨Nat.le_of_ble_eq_true rfl, Nat.le_of_ble_eq_true rfl⟩) ⟨fun a U g mk q => by obtain ⟨q0, q1, qP, qK, qD⟩ := q; exact ⟨q0, q1, qP, va_K.moved (u := U) (U := U.calling g mk a) (Vm.Alike.refl U.vm) qK, qD⟩, va_recv hKc hPc (ci := 0) (q0 := 0) rfl rfl, fun U hU hW => ⟨rfl, by rw [hU], by rw [hU]; exact hPc, va_K.moved hW.alike hKc, hDc.weaken (fun _ _ _ _ => trivial)⟩⟩ rfl rfl hl.1 rfl (lv_room (Nat.le_of_ble_eq_true rfl)) dX1_turn_111 ⟨(Nat.zero_le _), (Nat.zero_le _)⟩) hS (fun q _ h => hFc q h) hFc (fun r_13 u t H locs ht hvm hw hB hz1 hk1 hS => ?_)
            obtain ⟨b_13, g_13, od_13, ot_13, tm_13⟩ := u
            obtain ⟨hP1, hK1, hD1⟩ := hB
            have e_13 : tt_prog (b_11, g_11, od_11, ot_11, tm_11) (1 - (tt_ac b)) 4 a1 = (r_13, (b_13, g_13, od_13, ot_13, tm_13)) := hw
            rw [ht] at hP1
            obtain ⟨hP, hD⟩ := va_join (wr := [(qp, .inr (1, [.ref qf]))]) (w1 := [(qf, .inr (0, [.ref qb, .ref qe, .int od_13, .int ot_13, .int tm_13])), (qb, .inl (cA, 32, .inl b_13)), (qe, .inl (cE, 2, .inl g_13))]) hP hD [1, 2, 3] [0] rfl rfl (by decide) (by decide) hk1 hFc hP1 hD1
            have hP : va_P (dC, dI) ttCl [(qp, .inr (1, [.ref qf])), (qf, .inr (0, [.ref qb, .ref qe, .int od_13, .int ot_13, .int tm_13])), (qb, .inl (cA, 32, .inl b_13)), (qe, .inl (cE, 2, .inl g_13))] H := hP
            have hD : va_D A [(qp, .inr (1, [.ref qf])), (qf, .inr (0, [.ref qb, .ref qe, .int od_13, .int ot_13, .int tm_13])), (qb, .inl (cA, 32, .inl b_13)), (qe, .inl (cE, 2, .inl g_13))] := hD
            refine lv_if_eq (tgt := 150) hx hb dX1_turn_114 (by decide) (fun c_14 => ?_) (fun c_14 => ?_)
            · refine lv_iconst (v := 0) hx hb dX1_turn_150 (by decide) ?_
              have hP9 := hP.sub (ws' := [(qp, .inr (1, [.ref qf])), (qf, .inr (0, [.ref qb, .ref qe, .int od_13, .int ot_13, .int tm_13])), (qb, .inl (cA, 32, .inl b_13)), (qe, .inl (cE, 2, .inl g_13))]) [0, 1, 2, 3] rfl
              have hD9 := hD.sub (ws' := [(qp, .inr (1, [.ref qf])), (qf, .inr (0, [.ref qb, .ref qe, .int od_13, .int ot_13, .int tm_13])), (qb, .inl (cA, 32, .inl b_13)), (qe, .inl (cE, 2, .inl g_13))]) [0, 1, 2, 3] (by decide) rfl
              have hK9 := hK.sub (tys' := [(cA, .int), (cE, .int)]) [0, 1] rfl
              exact W.zret (v := 0) hx hb hr (by first | rfl | decide) (fun t ht hW => ⟨⟨0, (b_13, g_13, od_13, ot_13, tm_13), rfl, (by first | (simp only [tt_turn, tt_t0, tt_seq_p, c_3, e_4, c_5, e_7, c_8, e_9, c_10, e_11, c_12, e_13, c_14, reduceIte, eq_self]; done) | (simp [tt_turn, tt_t0, tt_seq_p, c_3, e_4, c_5, e_7, c_8, e_9, c_10, e_11, c_12, e_13, c_14]; done)), by rw [ht]; exact hP9, va_K.moved hW.alike hK9, hD9⟩, hS.F ht⟩) hS.2.2 dX1_turn_151
            · refine lv_aload_n hx hb dX1_turn_117 rfl (lv_at hl 2 rfl) ?_
              refine va_get (D := (dC, dI)) (ci := 1) (v := .ref qf) (C := RX1) (T := TX1) (N := 1) hx hb hts (by decide +kernel) hown hK hP 0 rfl rfl 0 (by decide) (hts (.fieldLink RX1 7 "TornTryCounter$Pages" "flash" "LTornTryCounter$Flash;") (by decide +kernel)) (fun _ h9 => h9) rfl dX1_turn_118 ?_
              refine lv_iload hx hb dX1_turn_121 (lv_at hl 0 rfl) ?_
              refine lv_iconst (v := 5) hx hb dX1_turn_123 (by decide) ?_
              refine lv_iload_n hx hb dX1_turn_124 rfl (lv_at hl 5 rfl) ?_
              have hPc := hP.sub (ws' := [(qf, .inr (0, [.ref qb, .ref qe, .int od_13, .int ot_13, .int tm_13])), (qb, .inl (cA, 32, .inl b_13)), (qe, .inl (cE, 2, .inl g_13))]) [1, 2, 3] rfl
              have hDc := hD.sub (ws' := [(qf, .inr (0, [.ref qb, .ref qe, .int od_13, .int ot_13, .int tm_13])), (qb, .inl (cA, 32, .inl b_13)), (qe, .inl (cE, 2, .inl g_13))]) [1, 2, 3] (by decide) rfl
              have hKc := hK.sub (tys' := [(cA, .int), (cE, .int)]) [0, 1] rfl
              have hFc := va_free (wc := [(qf, .inr (0, [.ref qb, .ref qe, .int od_13, .int ot_13, .int tm_13])), (qb, .inl (cA, 32, .inl b_13)), (qe, .inl (cE, 2, .inl g_13))]) hD hS hA [1, 2, 3] rfl
              refine va_calli (va_runV (As := [.int (1 - (tt_ac b)), .int 5, .int c1]) (rest := []) ⟨hx, hb, hml, hown, hts⟩ (c_F_program l dC dI cA cE qf qb qe H.size b_13 g_13 od_13 ot_13 tm_13 (1 - (tt_ac b)) 5 c1) (cwV 3 hts gX1_turn_X0_program rfl rfl rfl (by decide +kernel) ⟨Nat.le_of_ble_eq_true rfl, Nat.le_of_ble_eq_true rfl⟩) ⟨fun a U g mk q => by obtain ⟨q0, q1, qP, qK, qD⟩ := q; exact ⟨q0, q1, qP, va_K.moved (u := U) (U := U.calling g mk a) (Vm.Alike.refl U.vm) qK, qD⟩, va_recv hKc hPc (ci := 0) (q0 := 0) rfl rfl, fun U hU hW => ⟨rfl, by rw [hU], by rw [hU]; exact hPc, va_K.moved hW.alike hKc, hDc.weaken (fun _ _ _ _ => trivial)⟩⟩ rfl rfl hl.1 rfl (lv_room (Nat.le_of_ble_eq_true rfl)) dX1_turn_125 ⟨(Nat.zero_le _), (Nat.zero_le _)⟩) hS (fun q _ h => hFc q h) hFc (fun r_15 u t H locs ht hvm hw hB hz1 hk1 hS => ?_)
              obtain ⟨b_15, g_15, od_15, ot_15, tm_15⟩ := u
              obtain ⟨hP1, hK1, hD1⟩ := hB
              have e_15 : tt_prog (b_13, g_13, od_13, ot_13, tm_13) (1 - (tt_ac b)) 5 c1 = (r_15, (b_15, g_15, od_15, ot_15, tm_15)) := hw
              rw [ht] at hP1
              obtain ⟨hP, hD⟩ := va_join (wr := [(qp, .inr (1, [.ref qf]))]) (w1 := [(qf, .inr (0, [.ref qb, .ref qe, .int od_15, .int ot_15, .int tm_15])), (qb, .inl (cA, 32, .inl b_15)), (qe, .inl (cE, 2, .inl g_15))]) hP hD [1, 2, 3] [0] rfl rfl (by decide) (by decide) hk1 hFc hP1 hD1
              have hP : va_P (dC, dI) ttCl [(qp, .inr (1, [.ref qf])), (qf, .inr (0, [.ref qb, .ref qe, .int od_15, .int ot_15, .int tm_15])), (qb, .inl (cA, 32, .inl b_15)), (qe, .inl (cE, 2, .inl g_15))] H := hP
              have hD : va_D A [(qp, .inr (1, [.ref qf])), (qf, .inr (0, [.ref qb, .ref qe, .int od_15, .int ot_15, .int tm_15])), (qb, .inl (cA, 32, .inl b_15)), (qe, .inl (cE, 2, .inl g_15))] := hD
              refine lv_if_eq (tgt := 150) hx hb dX1_turn_128 (by decide) (fun c_16 => ?_) (fun c_16 => ?_)
              · refine lv_iconst (v := 0) hx hb dX1_turn_150 (by decide) ?_
                have hP9 := hP.sub (ws' := [(qp, .inr (1, [.ref qf])), (qf, .inr (0, [.ref qb, .ref qe, .int od_15, .int ot_15, .int tm_15])), (qb, .inl (cA, 32, .inl b_15)), (qe, .inl (cE, 2, .inl g_15))]) [0, 1, 2, 3] rfl
                have hD9 := hD.sub (ws' := [(qp, .inr (1, [.ref qf])), (qf, .inr (0, [.ref qb, .ref qe, .int od_15, .int ot_15, .int tm_15])), (qb, .inl (cA, 32, .inl b_15)), (qe, .inl (cE, 2, .inl g_15))]) [0, 1, 2, 3] (by decide) rfl
                have hK9 := hK.sub (tys' := [(cA, .int), (cE, .int)]) [0, 1] rfl
                exact W.zret (v := 0) hx hb hr (by first | rfl | decide) (fun t ht hW => ⟨⟨0, (b_15, g_15, od_15, ot_15, tm_15), rfl, (by first | (simp only [tt_turn, tt_t0, tt_seq_p, c_3, e_4, c_5, e_7, c_8, e_9, c_10, e_11, c_12, e_13, c_14, e_15, c_16, reduceIte, eq_self]; done) | (simp [tt_turn, tt_t0, tt_seq_p, c_3, e_4, c_5, e_7, c_8, e_9, c_10, e_11, c_12, e_13, c_14, e_15, c_16]; done)), by rw [ht]; exact hP9, va_K.moved hW.alike hK9, hD9⟩, hS.F ht⟩) hS.2.2 dX1_turn_151
              · refine lv_aload_n hx hb dX1_turn_131 rfl (lv_at hl 2 rfl) ?_
                refine va_get (D := (dC, dI)) (ci := 1) (v := .ref qf) (C := RX1) (T := TX1) (N := 1) hx hb hts (by decide +kernel) hown hK hP 0 rfl rfl 0 (by decide) (hts (.fieldLink RX1 7 "TornTryCounter$Pages" "flash" "LTornTryCounter$Flash;") (by decide +kernel)) (fun _ h9 => h9) rfl dX1_turn_132 ?_
                refine lv_iload hx hb dX1_turn_135 (lv_at hl 0 rfl) ?_
                refine lv_iconst (v := 0) hx hb dX1_turn_137 (by decide) ?_
                refine lv_bipush (v := 90) hx hb dX1_turn_138 (by decide) ?_
                have hPc := hP.sub (ws' := [(qf, .inr (0, [.ref qb, .ref qe, .int od_15, .int ot_15, .int tm_15])), (qb, .inl (cA, 32, .inl b_15)), (qe, .inl (cE, 2, .inl g_15))]) [1, 2, 3] rfl
                have hDc := hD.sub (ws' := [(qf, .inr (0, [.ref qb, .ref qe, .int od_15, .int ot_15, .int tm_15])), (qb, .inl (cA, 32, .inl b_15)), (qe, .inl (cE, 2, .inl g_15))]) [1, 2, 3] (by decide) rfl
                have hKc := hK.sub (tys' := [(cA, .int), (cE, .int)]) [0, 1] rfl
                have hFc := va_free (wc := [(qf, .inr (0, [.ref qb, .ref qe, .int od_15, .int ot_15, .int tm_15])), (qb, .inl (cA, 32, .inl b_15)), (qe, .inl (cE, 2, .inl g_15))]) hD hS hA [1, 2, 3] rfl
                refine va_calli (va_runV (As := [.int (1 - (tt_ac b)), .int 0, .int 90]) (rest := []) ⟨hx, hb, hml, hown, hts⟩ (c_F_program l dC dI cA cE qf qb qe H.size b_15 g_15 od_15 ot_15 tm_15 (1 - (tt_ac b)) 0 90) (cwV 3 hts gX1_turn_X0_program rfl rfl rfl (by decide +kernel) ⟨Nat.le_of_ble_eq_true rfl, Nat.le_of_ble_eq_true rfl⟩) ⟨fun a U g mk q => by obtain ⟨q0, q1, qP, qK, qD⟩ := q; exact ⟨q0, q1, qP, va_K.moved (u := U) (U := U.calling g mk a) (Vm.Alike.refl U.vm) qK, qD⟩, va_recv hKc hPc (ci := 0) (q0 := 0) rfl rfl, fun U hU hW => ⟨rfl, by rw [hU], by rw [hU]; exact hPc, va_K.moved hW.alike hKc, hDc.weaken (fun _ _ _ _ => trivial)⟩⟩ rfl rfl hl.1 rfl (lv_room (Nat.le_of_ble_eq_true rfl)) dX1_turn_140 ⟨(Nat.zero_le _), (Nat.zero_le _)⟩) hS (fun q _ h => hFc q h) hFc (fun r_17 u t H locs ht hvm hw hB hz1 hk1 hS => ?_)
                obtain ⟨b_17, g_17, od_17, ot_17, tm_17⟩ := u
                obtain ⟨hP1, hK1, hD1⟩ := hB
                have e_17 : tt_prog (b_15, g_15, od_15, ot_15, tm_15) (1 - (tt_ac b)) 0 90 = (r_17, (b_17, g_17, od_17, ot_17, tm_17)) := hw
                rw [ht] at hP1
                obtain ⟨hP, hD⟩ := va_join (wr := [(qp, .inr (1, [.ref qf]))]) (w1 := [(qf, .inr (0, [.ref qb, .ref qe, .int od_17, .int ot_17, .int tm_17])), (qb, .inl (cA, 32, .inl b_17)), (qe, .inl (cE, 2, .inl g_17))]) hP hD [1, 2, 3] [0] rfl rfl (by decide) (by decide) hk1 hFc hP1 hD1
                have hP : va_P (dC, dI) ttCl [(qp, .inr (1, [.ref qf])), (qf, .inr (0, [.ref qb, .ref qe, .int od_17, .int ot_17, .int tm_17])), (qb, .inl (cA, 32, .inl b_17)), (qe, .inl (cE, 2, .inl g_17))] H := hP
                have hD : va_D A [(qp, .inr (1, [.ref qf])), (qf, .inr (0, [.ref qb, .ref qe, .int od_17, .int ot_17, .int tm_17])), (qb, .inl (cA, 32, .inl b_17)), (qe, .inl (cE, 2, .inl g_17))] := hD
                refine lv_if_eq (tgt := 150) hx hb dX1_turn_143 (by decide) (fun c_18 => ?_) (fun c_18 => ?_)
                · refine lv_iconst (v := 0) hx hb dX1_turn_150 (by decide) ?_
                  have hP9 := hP.sub (ws' := [(qp, .inr (1, [.ref qf])), (qf, .inr (0, [.ref qb, .ref qe, .int od_17, .int ot_17, .int tm_17])), (qb, .inl (cA, 32, .inl b_17)), (qe, .inl (cE, 2, .inl g_17))]) [0, 1, 2, 3] rfl
                  have hD9 := hD.sub (ws' := [(qp, .inr (1, [.ref qf])), (qf, .inr (0, [.ref qb, .ref qe, .int od_17, .int ot_17, .int tm_17])), (qb, .inl (cA, 32, .inl b_17)), (qe, .inl (cE, 2, .inl g_17))]) [0, 1, 2, 3] (by decide) rfl
                  have hK9 := hK.sub (tys' := [(cA, .int), (cE, .int)]) [0, 1] rfl
                  exact W.zret (v := 0) hx hb hr (by first | rfl | decide) (fun t ht hW => ⟨⟨0, (b_17, g_17, od_17, ot_17, tm_17), rfl, (by first | (simp only [tt_turn, tt_t0, tt_seq_p, c_3, e_4, c_5, e_7, c_8, e_9, c_10, e_11, c_12, e_13, c_14, e_15, c_16, e_17, c_18, reduceIte, eq_self]; done) | (simp [tt_turn, tt_t0, tt_seq_p, c_3, e_4, c_5, e_7, c_8, e_9, c_10, e_11, c_12, e_13, c_14, e_15, c_16, e_17, c_18]; done)), by rw [ht]; exact hP9, va_K.moved hW.alike hK9, hD9⟩, hS.F ht⟩) hS.2.2 dX1_turn_151
                · refine lv_iconst (v := 1) hx hb dX1_turn_146 (by decide) ?_
                  refine lv_goto (tgt := 151) hx hb dX1_turn_147 (by decide) ?_
                  have hP9 := hP.sub (ws' := [(qp, .inr (1, [.ref qf])), (qf, .inr (0, [.ref qb, .ref qe, .int od_17, .int ot_17, .int tm_17])), (qb, .inl (cA, 32, .inl b_17)), (qe, .inl (cE, 2, .inl g_17))]) [0, 1, 2, 3] rfl
                  have hD9 := hD.sub (ws' := [(qp, .inr (1, [.ref qf])), (qf, .inr (0, [.ref qb, .ref qe, .int od_17, .int ot_17, .int tm_17])), (qb, .inl (cA, 32, .inl b_17)), (qe, .inl (cE, 2, .inl g_17))]) [0, 1, 2, 3] (by decide) rfl
                  have hK9 := hK.sub (tys' := [(cA, .int), (cE, .int)]) [0, 1] rfl
                  exact W.zret (v := 1) hx hb hr (by first | rfl | decide) (fun t ht hW => ⟨⟨1, (b_17, g_17, od_17, ot_17, tm_17), rfl, (by first | (simp only [tt_turn, tt_t0, tt_seq_p, c_3, e_4, c_5, e_7, c_8, e_9, c_10, e_11, c_12, e_13, c_14, e_15, c_16, e_17, c_18, reduceIte, eq_self]; done) | (simp [tt_turn, tt_t0, tt_seq_p, c_3, e_4, c_5, e_7, c_8, e_9, c_10, e_11, c_12, e_13, c_14, e_15, c_16, e_17, c_18]; done)), by rw [ht]; exact hP9, va_K.moved hW.alike hK9, hD9⟩, hS.F ht⟩) hS.2.2 dX1_turn_151
  · refine lv_aload_n hx hb dX1_turn_21 rfl (lv_at hl 2 rfl) ?_
    refine va_get (D := (dC, dI)) (ci := 1) (v := .ref qf) (C := RX1) (T := TX1) (N := 1) hx hb hts (by decide +kernel) hown hK hP 0 rfl rfl 0 (by decide) (hts (.fieldLink RX1 7 "TornTryCounter$Pages" "flash" "LTornTryCounter$Flash;") (by decide +kernel)) (fun _ h9 => h9) rfl dX1_turn_22 ?_
    refine lv_iload hx hb dX1_turn_25 (lv_at hl 0 rfl) ?_
    refine lv_iconst (v := 0) hx hb dX1_turn_27 (by decide) ?_
    refine lv_iconst (v := 0) hx hb dX1_turn_28 (by decide) ?_
    have hPc := hP.sub (ws' := [(qf, .inr (0, [.ref qb, .ref qe, .int od, .int ot, .int tm])), (qb, .inl (cA, 32, .inl b)), (qe, .inl (cE, 2, .inl g))]) [1, 2, 3] rfl
    have hDc := hD.sub (ws' := [(qf, .inr (0, [.ref qb, .ref qe, .int od, .int ot, .int tm])), (qb, .inl (cA, 32, .inl b)), (qe, .inl (cE, 2, .inl g))]) [1, 2, 3] (by decide) rfl
    have hKc := hK.sub (tys' := [(cA, .int), (cE, .int)]) [0, 1] rfl
    have hFc := va_free (wc := [(qf, .inr (0, [.ref qb, .ref qe, .int od, .int ot, .int tm])), (qb, .inl (cA, 32, .inl b)), (qe, .inl (cE, 2, .inl g))]) hD hS hA [1, 2, 3] rfl
    refine va_calli (va_runV (As := [.int (1 - (tt_ac b)), .int 0, .int 0]) (rest := []) ⟨hx, hb, hml, hown, hts⟩ (c_F_program l dC dI cA cE qf qb qe H.size b g od ot tm (1 - (tt_ac b)) 0 0) (cwV 3 hts gX1_turn_X0_program rfl rfl rfl (by decide +kernel) ⟨Nat.le_of_ble_eq_true rfl, Nat.le_of_ble_eq_true rfl⟩) ⟨fun a U g mk q => by obtain ⟨q0, q1, qP, qK, qD⟩ := q; exact ⟨q0, q1, qP, va_K.moved (u := U) (U := U.calling g mk a) (Vm.Alike.refl U.vm) qK, qD⟩, va_recv hKc hPc (ci := 0) (q0 := 0) rfl rfl, fun U hU hW => ⟨rfl, by rw [hU], by rw [hU]; exact hPc, va_K.moved hW.alike hKc, hDc.weaken (fun _ _ _ _ => trivial)⟩⟩ rfl rfl hl.1 rfl (lv_room (Nat.le_of_ble_eq_true rfl)) dX1_turn_29 ⟨(Nat.zero_le _), (Nat.zero_le _)⟩) hS (fun q _ h => hFc q h) hFc (fun r_19 u t H locs ht hvm hw hB hz1 hk1 hS => ?_)
    obtain ⟨b_19, g_19, od_19, ot_19, tm_19⟩ := u
    obtain ⟨hP1, hK1, hD1⟩ := hB
    have e_19 : tt_prog (b, g, od, ot, tm) (1 - (tt_ac b)) 0 0 = (r_19, (b_19, g_19, od_19, ot_19, tm_19)) := hw
    rw [ht] at hP1
    obtain ⟨hP, hD⟩ := va_join (wr := [(qp, .inr (1, [.ref qf]))]) (w1 := [(qf, .inr (0, [.ref qb, .ref qe, .int od_19, .int ot_19, .int tm_19])), (qb, .inl (cA, 32, .inl b_19)), (qe, .inl (cE, 2, .inl g_19))]) hP hD [1, 2, 3] [0] rfl rfl (by decide) (by decide) hk1 hFc hP1 hD1
    have hP : va_P (dC, dI) ttCl [(qp, .inr (1, [.ref qf])), (qf, .inr (0, [.ref qb, .ref qe, .int od_19, .int ot_19, .int tm_19])), (qb, .inl (cA, 32, .inl b_19)), (qe, .inl (cE, 2, .inl g_19))] H := hP
    have hD : va_D A [(qp, .inr (1, [.ref qf])), (qf, .inr (0, [.ref qb, .ref qe, .int od_19, .int ot_19, .int tm_19])), (qb, .inl (cA, 32, .inl b_19)), (qe, .inl (cE, 2, .inl g_19))] := hD
    refine lv_if_ne (tgt := 37) hx hb dX1_turn_32 (by decide) (fun c_20 => ?_) (fun c_20 => ?_)
    · refine lv_aload_n hx hb dX1_turn_37 rfl (lv_at hl 2 rfl) ?_
      refine va_get (D := (dC, dI)) (ci := 1) (v := .ref qf) (C := RX1) (T := TX1) (N := 1) hx hb hts (by decide +kernel) hown hK hP 0 rfl rfl 0 (by decide) (hts (.fieldLink RX1 7 "TornTryCounter$Pages" "flash" "LTornTryCounter$Flash;") (by decide +kernel)) (fun _ h9 => h9) rfl dX1_turn_38 ?_
      refine lv_iload hx hb dX1_turn_41 (lv_at hl 0 rfl) ?_
      have hPc := hP.sub (ws' := [(qf, .inr (0, [.ref qb, .ref qe, .int od_19, .int ot_19, .int tm_19])), (qb, .inl (cA, 32, .inl b_19)), (qe, .inl (cE, 2, .inl g_19))]) [1, 2, 3] rfl
      have hDc := hD.sub (ws' := [(qf, .inr (0, [.ref qb, .ref qe, .int od_19, .int ot_19, .int tm_19])), (qb, .inl (cA, 32, .inl b_19)), (qe, .inl (cE, 2, .inl g_19))]) [1, 2, 3] (by decide) rfl
      have hKc := hK.sub (tys' := [(cA, .int), (cE, .int)]) [0, 1] rfl
      have hFc := va_free (wc := [(qf, .inr (0, [.ref qb, .ref qe, .int od_19, .int ot_19, .int tm_19])), (qb, .inl (cA, 32, .inl b_19)), (qe, .inl (cE, 2, .inl g_19))]) hD hS hA [1, 2, 3] rfl
      refine va_calli (va_runV (As := [.int (1 - (tt_ac b))]) (rest := []) ⟨hx, hb, hml, hown, hts⟩ (c_F_erase l dC dI cA cE qf qb qe H.size b_19 g_19 od_19 ot_19 tm_19 (1 - (tt_ac b))) (cwV 1 hts gX1_turn_X0_erase rfl rfl rfl (by decide +kernel) ⟨Nat.le_of_ble_eq_true rfl, Nat.le_of_ble_eq_true rfl⟩) ⟨fun a U g mk q => by obtain ⟨q0, q1, qP, qK, qD⟩ := q; exact ⟨q0, q1, qP, va_K.moved (u := U) (U := U.calling g mk a) (Vm.Alike.refl U.vm) qK, qD⟩, va_recv hKc hPc (ci := 0) (q0 := 0) rfl rfl, fun U hU hW => ⟨rfl, by rw [hU], by rw [hU]; exact hPc, va_K.moved hW.alike hKc, hDc.weaken (fun _ _ _ _ => trivial)⟩⟩ rfl rfl hl.1 rfl (lv_room (Nat.le_of_ble_eq_true rfl)) dX1_turn_43 ⟨(Nat.zero_le _), (Nat.zero_le _)⟩) hS (fun q _ h => hFc q h) hFc (fun r_21 u t H locs ht hvm hw hB hz1 hk1 hS => ?_)
      obtain ⟨b_21, g_21, od_21, ot_21, tm_21⟩ := u
      obtain ⟨hP1, hK1, hD1⟩ := hB
      have e_21 : tt_erase (b_19, g_19, od_19, ot_19, tm_19) (1 - (tt_ac b)) = (r_21, (b_21, g_21, od_21, ot_21, tm_21)) := hw
      rw [ht] at hP1
      obtain ⟨hP, hD⟩ := va_join (wr := [(qp, .inr (1, [.ref qf]))]) (w1 := [(qf, .inr (0, [.ref qb, .ref qe, .int od_21, .int ot_21, .int tm_21])), (qb, .inl (cA, 32, .inl b_21)), (qe, .inl (cE, 2, .inl g_21))]) hP hD [1, 2, 3] [0] rfl rfl (by decide) (by decide) hk1 hFc hP1 hD1
      have hP : va_P (dC, dI) ttCl [(qp, .inr (1, [.ref qf])), (qf, .inr (0, [.ref qb, .ref qe, .int od_21, .int ot_21, .int tm_21])), (qb, .inl (cA, 32, .inl b_21)), (qe, .inl (cE, 2, .inl g_21))] H := hP
      have hD : va_D A [(qp, .inr (1, [.ref qf])), (qf, .inr (0, [.ref qb, .ref qe, .int od_21, .int ot_21, .int tm_21])), (qb, .inl (cA, 32, .inl b_21)), (qe, .inl (cE, 2, .inl g_21))] := hD
      refine lv_if_eq (tgt := 150) hx hb dX1_turn_46 (by decide) (fun c_22 => ?_) (fun c_22 => ?_)
      · refine lv_iconst (v := 0) hx hb dX1_turn_150 (by decide) ?_
        have hP9 := hP.sub (ws' := [(qp, .inr (1, [.ref qf])), (qf, .inr (0, [.ref qb, .ref qe, .int od_21, .int ot_21, .int tm_21])), (qb, .inl (cA, 32, .inl b_21)), (qe, .inl (cE, 2, .inl g_21))]) [0, 1, 2, 3] rfl
        have hD9 := hD.sub (ws' := [(qp, .inr (1, [.ref qf])), (qf, .inr (0, [.ref qb, .ref qe, .int od_21, .int ot_21, .int tm_21])), (qb, .inl (cA, 32, .inl b_21)), (qe, .inl (cE, 2, .inl g_21))]) [0, 1, 2, 3] (by decide) rfl
        have hK9 := hK.sub (tys' := [(cA, .int), (cE, .int)]) [0, 1] rfl
        exact W.zret (v := 0) hx hb hr (by first | rfl | decide) (fun t ht hW => ⟨⟨0, (b_21, g_21, od_21, ot_21, tm_21), rfl, (by first | (simp only [tt_turn, tt_t0, tt_seq_p, c_3, e_19, c_20, e_21, c_22, reduceIte, eq_self]; done) | (simp [tt_turn, tt_t0, tt_seq_p, c_3, e_19, c_20, e_21, c_22]; done)), by rw [ht]; exact hP9, va_K.moved hW.alike hK9, hD9⟩, hS.F ht⟩) hS.2.2 dX1_turn_151
      · refine lv_aload_n hx hb dX1_turn_49 rfl (lv_at hl 2 rfl) ?_
        refine va_get (D := (dC, dI)) (ci := 1) (v := .ref qf) (C := RX1) (T := TX1) (N := 1) hx hb hts (by decide +kernel) hown hK hP 0 rfl rfl 0 (by decide) (hts (.fieldLink RX1 7 "TornTryCounter$Pages" "flash" "LTornTryCounter$Flash;") (by decide +kernel)) (fun _ h9 => h9) rfl dX1_turn_50 ?_
        refine lv_iload hx hb dX1_turn_53 (lv_at hl 0 rfl) ?_
        refine lv_iconst (v := 1) hx hb dX1_turn_55 (by decide) ?_
        refine lv_aload_n hx hb dX1_turn_56 rfl (lv_at hl 2 rfl) ?_
        refine lv_iload hx hb dX1_turn_57 (lv_at hl 1 rfl) ?_
        have hPc := hP.sub (ws' := [(qp, .inr (1, [.ref qf])), (qf, .inr (0, [.ref qb, .ref qe, .int od_21, .int ot_21, .int tm_21])), (qb, .inl (cA, 32, .inl b_21)), (qe, .inl (cE, 2, .inl g_21))]) [0, 1, 2, 3] rfl
        have hDc := hD.sub (ws' := [(qp, .inr (1, [.ref qf])), (qf, .inr (0, [.ref qb, .ref qe, .int od_21, .int ot_21, .int tm_21])), (qb, .inl (cA, 32, .inl b_21)), (qe, .inl (cE, 2, .inl g_21))]) [0, 1, 2, 3] (by decide) rfl
        have hKc := hK.sub (tys' := [(cA, .int), (cE, .int)]) [0, 1] rfl
        have hFc := va_free (wc := [(qp, .inr (1, [.ref qf])), (qf, .inr (0, [.ref qb, .ref qe, .int od_21, .int ot_21, .int tm_21])), (qb, .inl (cA, 32, .inl b_21)), (qe, .inl (cE, 2, .inl g_21))]) hD hS hA [0, 1, 2, 3] rfl
        refine va_calli (va_runV (As := [.int (tt_ac b)]) (rest := [.int 1, .int (1 - (tt_ac b)), .ref qf]) ⟨hx, hb, hml, hown, hts⟩ (c_P_generationAfter l dC dI cA cE qp qf qb qe H.size b_21 g_21 od_21 ot_21 tm_21 (tt_ac b)) (cwV 1 hts gX1_turn_X1_generationAfter rfl rfl rfl (by decide +kernel) ⟨Nat.le_of_ble_eq_true rfl, Nat.le_of_ble_eq_true rfl⟩) ⟨fun a U g mk q => by obtain ⟨q0, q1, qP, qK, qD⟩ := q; exact ⟨q0, q1, qP, va_K.moved (u := U) (U := U.calling g mk a) (Vm.Alike.refl U.vm) qK, qD⟩, va_recv hKc hPc (ci := 1) (q0 := 0) rfl rfl, fun U hU hW => ⟨rfl, by rw [hU], by rw [hU]; exact hPc, va_K.moved hW.alike hKc, hDc.weaken (fun _ _ _ _ => trivial)⟩⟩ rfl rfl hl.1 rfl (lv_room (Nat.le_of_ble_eq_true rfl)) dX1_turn_59 ⟨(Nat.zero_le _), (Nat.zero_le _)⟩) hS (fun q _ h => hFc q h) hFc (fun r_23 u t H locs ht hvm hw hB hz1 hk1 hS => ?_)
        have hw : tt_ga b_21 (tt_ac b) = r_23 := hw.symm
        subst hw
        obtain ⟨hP1, hK1, hD1⟩ := hB
        rw [ht] at hP1
        obtain ⟨hP, hD⟩ := va_join (wr := []) (w1 := [(qp, .inr (1, [.ref qf])), (qf, .inr (0, [.ref qb, .ref qe, .int od_21, .int ot_21, .int tm_21])), (qb, .inl (cA, 32, .inl b_21)), (qe, .inl (cE, 2, .inl g_21))]) hP hD [0, 1, 2, 3] [] rfl rfl (by decide) (by decide) hk1 hFc hP1 hD1
        have hP : va_P (dC, dI) ttCl [(qp, .inr (1, [.ref qf])), (qf, .inr (0, [.ref qb, .ref qe, .int od_21, .int ot_21, .int tm_21])), (qb, .inl (cA, 32, .inl b_21)), (qe, .inl (cE, 2, .inl g_21))] H := hP
        have hD : va_D A [(qp, .inr (1, [.ref qf])), (qf, .inr (0, [.ref qb, .ref qe, .int od_21, .int ot_21, .int tm_21])), (qb, .inl (cA, 32, .inl b_21)), (qe, .inl (cE, 2, .inl g_21))] := hD
        have hPc := hP.sub (ws' := [(qf, .inr (0, [.ref qb, .ref qe, .int od_21, .int ot_21, .int tm_21])), (qb, .inl (cA, 32, .inl b_21)), (qe, .inl (cE, 2, .inl g_21))]) [1, 2, 3] rfl
        have hDc := hD.sub (ws' := [(qf, .inr (0, [.ref qb, .ref qe, .int od_21, .int ot_21, .int tm_21])), (qb, .inl (cA, 32, .inl b_21)), (qe, .inl (cE, 2, .inl g_21))]) [1, 2, 3] (by decide) rfl
        have hKc := hK.sub (tys' := [(cA, .int), (cE, .int)]) [0, 1] rfl
        have hFc := va_free (wc := [(qf, .inr (0, [.ref qb, .ref qe, .int od_21, .int ot_21, .int tm_21])), (qb, .inl (cA, 32, .inl b_21)), (qe, .inl (cE, 2, .inl g_21))]) hD hS hA [1, 2, 3] rfl
        refine va_calli (va_runV (As := [.int (1 - (tt_ac b)), .int 1, .int (tt_ga b_21 (tt_ac b))]) (rest := []) ⟨hx, hb, hml, hown, hts⟩ (c_F_program l dC dI cA cE qf qb qe H.size b_21 g_21 od_21 ot_21 tm_21 (1 - (tt_ac b)) 1 (tt_ga b_21 (tt_ac b))) (cwV 3 hts gX1_turn_X0_program rfl rfl rfl (by decide +kernel) ⟨Nat.le_of_ble_eq_true rfl, Nat.le_of_ble_eq_true rfl⟩) ⟨fun a U g mk q => by obtain ⟨q0, q1, qP, qK, qD⟩ := q; exact ⟨q0, q1, qP, va_K.moved (u := U) (U := U.calling g mk a) (Vm.Alike.refl U.vm) qK, qD⟩, va_recv hKc hPc (ci := 0) (q0 := 0) rfl rfl, fun U hU hW => ⟨rfl, by rw [hU], by rw [hU]; exact hPc, va_K.moved hW.alike hKc, hDc.weaken (fun _ _ _ _ => trivial)⟩⟩ rfl rfl hl.1 rfl (lv_room (Nat.le_of_ble_eq_true rfl)) dX1_turn_62 ⟨(Nat.zero_le _), (Nat.zero_le _)⟩) hS (fun q _ h => hFc q h) hFc (fun r_24 u t H locs ht hvm hw hB hz1 hk1 hS => ?_)
        obtain ⟨b_24, g_24, od_24, ot_24, tm_24⟩ := u
        obtain ⟨hP1, hK1, hD1⟩ := hB
        have e_24 : tt_prog (b_21, g_21, od_21, ot_21, tm_21) (1 - (tt_ac b)) 1 (tt_ga b_21 (tt_ac b)) = (r_24, (b_24, g_24, od_24, ot_24, tm_24)) := hw
        rw [ht] at hP1
        obtain ⟨hP, hD⟩ := va_join (wr := [(qp, .inr (1, [.ref qf]))]) (w1 := [(qf, .inr (0, [.ref qb, .ref qe, .int od_24, .int ot_24, .int tm_24])), (qb, .inl (cA, 32, .inl b_24)), (qe, .inl (cE, 2, .inl g_24))]) hP hD [1, 2, 3] [0] rfl rfl (by decide) (by decide) hk1 hFc hP1 hD1
        have hP : va_P (dC, dI) ttCl [(qp, .inr (1, [.ref qf])), (qf, .inr (0, [.ref qb, .ref qe, .int od_24, .int ot_24, .int tm_24])), (qb, .inl (cA, 32, .inl b_24)), (qe, .inl (cE, 2, .inl g_24))] H := hP
        have hD : va_D A [(qp, .inr (1, [.ref qf])), (qf, .inr (0, [.ref qb, .ref qe, .int od_24, .int ot_24, .int tm_24])), (qb, .inl (cA, 32, .inl b_24)), (qe, .inl (cE, 2, .inl g_24))] := hD
        refine lv_if_eq (tgt := 150) hx hb dX1_turn_65 (by decide) (fun c_25 => ?_) (fun c_25 => ?_)
        · refine lv_iconst (v := 0) hx hb dX1_turn_150 (by decide) ?_
          have hP9 := hP.sub (ws' := [(qp, .inr (1, [.ref qf])), (qf, .inr (0, [.ref qb, .ref qe, .int od_24, .int ot_24, .int tm_24])), (qb, .inl (cA, 32, .inl b_24)), (qe, .inl (cE, 2, .inl g_24))]) [0, 1, 2, 3] rfl
          have hD9 := hD.sub (ws' := [(qp, .inr (1, [.ref qf])), (qf, .inr (0, [.ref qb, .ref qe, .int od_24, .int ot_24, .int tm_24])), (qb, .inl (cA, 32, .inl b_24)), (qe, .inl (cE, 2, .inl g_24))]) [0, 1, 2, 3] (by decide) rfl
          have hK9 := hK.sub (tys' := [(cA, .int), (cE, .int)]) [0, 1] rfl
          exact W.zret (v := 0) hx hb hr (by first | rfl | decide) (fun t ht hW => ⟨⟨0, (b_24, g_24, od_24, ot_24, tm_24), rfl, (by first | (simp only [tt_turn, tt_t0, tt_seq_p, c_3, e_19, c_20, e_21, c_22, e_24, c_25, reduceIte, eq_self]; done) | (simp [tt_turn, tt_t0, tt_seq_p, c_3, e_19, c_20, e_21, c_22, e_24, c_25]; done)), by rw [ht]; exact hP9, va_K.moved hW.alike hK9, hD9⟩, hS.F ht⟩) hS.2.2 dX1_turn_151
        · refine lv_aload_n hx hb dX1_turn_68 rfl (lv_at hl 2 rfl) ?_
          refine va_get (D := (dC, dI)) (ci := 1) (v := .ref qf) (C := RX1) (T := TX1) (N := 1) hx hb hts (by decide +kernel) hown hK hP 0 rfl rfl 0 (by decide) (hts (.fieldLink RX1 7 "TornTryCounter$Pages" "flash" "LTornTryCounter$Flash;") (by decide +kernel)) (fun _ h9 => h9) rfl dX1_turn_69 ?_
          refine lv_iload hx hb dX1_turn_72 (lv_at hl 0 rfl) ?_
          refine lv_iconst (v := 2) hx hb dX1_turn_74 (by decide) ?_
          refine lv_iload_n hx hb dX1_turn_75 rfl (lv_at hl 3 rfl) ?_
          refine lv_bipush (v := 8) hx hb dX1_turn_76 (by decide) ?_
          refine lv_ishr hx hb dX1_turn_78 ?_
          have hPc := hP.sub (ws' := [(qf, .inr (0, [.ref qb, .ref qe, .int od_24, .int ot_24, .int tm_24])), (qb, .inl (cA, 32, .inl b_24)), (qe, .inl (cE, 2, .inl g_24))]) [1, 2, 3] rfl
          have hDc := hD.sub (ws' := [(qf, .inr (0, [.ref qb, .ref qe, .int od_24, .int ot_24, .int tm_24])), (qb, .inl (cA, 32, .inl b_24)), (qe, .inl (cE, 2, .inl g_24))]) [1, 2, 3] (by decide) rfl
          have hKc := hK.sub (tys' := [(cA, .int), (cE, .int)]) [0, 1] rfl
          have hFc := va_free (wc := [(qf, .inr (0, [.ref qb, .ref qe, .int od_24, .int ot_24, .int tm_24])), (qb, .inl (cA, 32, .inl b_24)), (qe, .inl (cE, 2, .inl g_24))]) hD hS hA [1, 2, 3] rfl
          refine va_calli (va_runV (As := [.int (1 - (tt_ac b)), .int 2, .int (p1 >>> ((8 : Int32) &&& 31))]) (rest := []) ⟨hx, hb, hml, hown, hts⟩ (c_F_program l dC dI cA cE qf qb qe H.size b_24 g_24 od_24 ot_24 tm_24 (1 - (tt_ac b)) 2 (p1 >>> ((8 : Int32) &&& 31))) (cwV 3 hts gX1_turn_X0_program rfl rfl rfl (by decide +kernel) ⟨Nat.le_of_ble_eq_true rfl, Nat.le_of_ble_eq_true rfl⟩) ⟨fun a U g mk q => by obtain ⟨q0, q1, qP, qK, qD⟩ := q; exact ⟨q0, q1, qP, va_K.moved (u := U) (U := U.calling g mk a) (Vm.Alike.refl U.vm) qK, qD⟩, va_recv hKc hPc (ci := 0) (q0 := 0) rfl rfl, fun U hU hW => ⟨rfl, by rw [hU], by rw [hU]; exact hPc, va_K.moved hW.alike hKc, hDc.weaken (fun _ _ _ _ => trivial)⟩⟩ rfl rfl hl.1 rfl (lv_room (Nat.le_of_ble_eq_true rfl)) dX1_turn_79 ⟨(Nat.zero_le _), (Nat.zero_le _)⟩) hS (fun q _ h => hFc q h) hFc (fun r_26 u t H locs ht hvm hw hB hz1 hk1 hS => ?_)
          obtain ⟨b_26, g_26, od_26, ot_26, tm_26⟩ := u
          obtain ⟨hP1, hK1, hD1⟩ := hB
          have e_26 : tt_prog (b_24, g_24, od_24, ot_24, tm_24) (1 - (tt_ac b)) 2 (p1 >>> ((8 : Int32) &&& 31)) = (r_26, (b_26, g_26, od_26, ot_26, tm_26)) := hw
          rw [ht] at hP1
          obtain ⟨hP, hD⟩ := va_join (wr := [(qp, .inr (1, [.ref qf]))]) (w1 := [(qf, .inr (0, [.ref qb, .ref qe, .int od_26, .int ot_26, .int tm_26])), (qb, .inl (cA, 32, .inl b_26)), (qe, .inl (cE, 2, .inl g_26))]) hP hD [1, 2, 3] [0] rfl rfl (by decide) (by decide) hk1 hFc hP1 hD1
          have hP : va_P (dC, dI) ttCl [(qp, .inr (1, [.ref qf])), (qf, .inr (0, [.ref qb, .ref qe, .int od_26, .int ot_26, .int tm_26])), (qb, .inl (cA, 32, .inl b_26)), (qe, .inl (cE, 2, .inl g_26))] H := hP
          have hD : va_D A [(qp, .inr (1, [.ref qf])), (qf, .inr (0, [.ref qb, .ref qe, .int od_26, .int ot_26, .int tm_26])), (qb, .inl (cA, 32, .inl b_26)), (qe, .inl (cE, 2, .inl g_26))] := hD
          refine lv_if_eq (tgt := 150) hx hb dX1_turn_82 (by decide) (fun c_27 => ?_) (fun c_27 => ?_)
          · refine lv_iconst (v := 0) hx hb dX1_turn_150 (by decide) ?_
            have hP9 := hP.sub (ws' := [(qp, .inr (1, [.ref qf])), (qf, .inr (0, [.ref qb, .ref qe, .int od_26, .int ot_26, .int tm_26])), (qb, .inl (cA, 32, .inl b_26)), (qe, .inl (cE, 2, .inl g_26))]) [0, 1, 2, 3] rfl
            have hD9 := hD.sub (ws' := [(qp, .inr (1, [.ref qf])), (qf, .inr (0, [.ref qb, .ref qe, .int od_26, .int ot_26, .int tm_26])), (qb, .inl (cA, 32, .inl b_26)), (qe, .inl (cE, 2, .inl g_26))]) [0, 1, 2, 3] (by decide) rfl
            have hK9 := hK.sub (tys' := [(cA, .int), (cE, .int)]) [0, 1] rfl
            exact W.zret (v := 0) hx hb hr (by first | rfl | decide) (fun t ht hW => ⟨⟨0, (b_26, g_26, od_26, ot_26, tm_26), rfl, (by first | (simp only [tt_turn, tt_t0, tt_seq_p, c_3, e_19, c_20, e_21, c_22, e_24, c_25, e_26, c_27, reduceIte, eq_self]; done) | (simp [tt_turn, tt_t0, tt_seq_p, c_3, e_19, c_20, e_21, c_22, e_24, c_25, e_26, c_27]; done)), by rw [ht]; exact hP9, va_K.moved hW.alike hK9, hD9⟩, hS.F ht⟩) hS.2.2 dX1_turn_151
          · refine lv_aload_n hx hb dX1_turn_85 rfl (lv_at hl 2 rfl) ?_
            refine va_get (D := (dC, dI)) (ci := 1) (v := .ref qf) (C := RX1) (T := TX1) (N := 1) hx hb hts (by decide +kernel) hown hK hP 0 rfl rfl 0 (by decide) (hts (.fieldLink RX1 7 "TornTryCounter$Pages" "flash" "LTornTryCounter$Flash;") (by decide +kernel)) (fun _ h9 => h9) rfl dX1_turn_86 ?_
            refine lv_iload hx hb dX1_turn_89 (lv_at hl 0 rfl) ?_
            refine lv_iconst (v := 3) hx hb dX1_turn_91 (by decide) ?_
            refine lv_iload_n hx hb dX1_turn_92 rfl (lv_at hl 3 rfl) ?_
            refine lv_sipush (v := 255) hx hb dX1_turn_93 (by decide) ?_
            refine lv_iand hx hb dX1_turn_96 ?_
            have hPc := hP.sub (ws' := [(qf, .inr (0, [.ref qb, .ref qe, .int od_26, .int ot_26, .int tm_26])), (qb, .inl (cA, 32, .inl b_26)), (qe, .inl (cE, 2, .inl g_26))]) [1, 2, 3] rfl
            have hDc := hD.sub (ws' := [(qf, .inr (0, [.ref qb, .ref qe, .int od_26, .int ot_26, .int tm_26])), (qb, .inl (cA, 32, .inl b_26)), (qe, .inl (cE, 2, .inl g_26))]) [1, 2, 3] (by decide) rfl
            have hKc := hK.sub (tys' := [(cA, .int), (cE, .int)]) [0, 1] rfl
            have hFc := va_free (wc := [(qf, .inr (0, [.ref qb, .ref qe, .int od_26, .int ot_26, .int tm_26])), (qb, .inl (cA, 32, .inl b_26)), (qe, .inl (cE, 2, .inl g_26))]) hD hS hA [1, 2, 3] rfl
            refine va_calli (va_runV (As := [.int (1 - (tt_ac b)), .int 3, .int (p1 &&& 255)]) (rest := []) ⟨hx, hb, hml, hown, hts⟩ (c_F_program l dC dI cA cE qf qb qe H.size b_26 g_26 od_26 ot_26 tm_26 (1 - (tt_ac b)) 3 (p1 &&& 255)) (cwV 3 hts gX1_turn_X0_program rfl rfl rfl (by decide +kernel) ⟨Nat.le_of_ble_eq_true rfl, Nat.le_of_ble_eq_true rfl⟩) ⟨fun a U g mk q => by obtain ⟨q0, q1, qP, qK, qD⟩ := q; exact ⟨q0, q1, qP, va_K.moved (u := U) (U := U.calling g mk a) (Vm.Alike.refl U.vm) qK, qD⟩, va_recv hKc hPc (ci := 0) (q0 := 0) rfl rfl, fun U hU hW => ⟨rfl, by rw [hU], by rw [hU]; exact hPc, va_K.moved hW.alike hKc, hDc.weaken (fun _ _ _ _ => trivial)⟩⟩ rfl rfl hl.1 rfl (lv_room (Nat.le_of_ble_eq_true rfl)) dX1_turn_97 ⟨(Nat.zero_le _), (Nat.zero_le _)⟩) hS (fun q _ h => hFc q h) hFc (fun r_28 u t H locs ht hvm hw hB hz1 hk1 hS => ?_)
            obtain ⟨b_28, g_28, od_28, ot_28, tm_28⟩ := u
            obtain ⟨hP1, hK1, hD1⟩ := hB
            have e_28 : tt_prog (b_26, g_26, od_26, ot_26, tm_26) (1 - (tt_ac b)) 3 (p1 &&& 255) = (r_28, (b_28, g_28, od_28, ot_28, tm_28)) := hw
            rw [ht] at hP1
            obtain ⟨hP, hD⟩ := va_join (wr := [(qp, .inr (1, [.ref qf]))]) (w1 := [(qf, .inr (0, [.ref qb, .ref qe, .int od_28, .int ot_28, .int tm_28])), (qb, .inl (cA, 32, .inl b_28)), (qe, .inl (cE, 2, .inl g_28))]) hP hD [1, 2, 3] [0] rfl rfl (by decide) (by decide) hk1 hFc hP1 hD1
            have hP : va_P (dC, dI) ttCl [(qp, .inr (1, [.ref qf])), (qf, .inr (0, [.ref qb, .ref qe, .int od_28, .int ot_28, .int tm_28])), (qb, .inl (cA, 32, .inl b_28)), (qe, .inl (cE, 2, .inl g_28))] H := hP
            have hD : va_D A [(qp, .inr (1, [.ref qf])), (qf, .inr (0, [.ref qb, .ref qe, .int od_28, .int ot_28, .int tm_28])), (qb, .inl (cA, 32, .inl b_28)), (qe, .inl (cE, 2, .inl g_28))] := hD
            refine lv_if_eq (tgt := 150) hx hb dX1_turn_100 (by decide) (fun c_29 => ?_) (fun c_29 => ?_)
            · refine lv_iconst (v := 0) hx hb dX1_turn_150 (by decide) ?_
              have hP9 := hP.sub (ws' := [(qp, .inr (1, [.ref qf])), (qf, .inr (0, [.ref qb, .ref qe, .int od_28, .int ot_28, .int tm_28])), (qb, .inl (cA, 32, .inl b_28)), (qe, .inl (cE, 2, .inl g_28))]) [0, 1, 2, 3] rfl
              have hD9 := hD.sub (ws' := [(qp, .inr (1, [.ref qf])), (qf, .inr (0, [.ref qb, .ref qe, .int od_28, .int ot_28, .int tm_28])), (qb, .inl (cA, 32, .inl b_28)), (qe, .inl (cE, 2, .inl g_28))]) [0, 1, 2, 3] (by decide) rfl
              have hK9 := hK.sub (tys' := [(cA, .int), (cE, .int)]) [0, 1] rfl
              exact W.zret (v := 0) hx hb hr (by first | rfl | decide) (fun t ht hW => ⟨⟨0, (b_28, g_28, od_28, ot_28, tm_28), rfl, (by first | (simp only [tt_turn, tt_t0, tt_seq_p, c_3, e_19, c_20, e_21, c_22, e_24, c_25, e_26, c_27, e_28, c_29, reduceIte, eq_self]; done) | (simp [tt_turn, tt_t0, tt_seq_p, c_3, e_19, c_20, e_21, c_22, e_24, c_25, e_26, c_27, e_28, c_29]; done)), by rw [ht]; exact hP9, va_K.moved hW.alike hK9, hD9⟩, hS.F ht⟩) hS.2.2 dX1_turn_151
            · refine lv_aload_n hx hb dX1_turn_103 rfl (lv_at hl 2 rfl) ?_
              refine va_get (D := (dC, dI)) (ci := 1) (v := .ref qf) (C := RX1) (T := TX1) (N := 1) hx hb hts (by decide +kernel) hown hK hP 0 rfl rfl 0 (by decide) (hts (.fieldLink RX1 7 "TornTryCounter$Pages" "flash" "LTornTryCounter$Flash;") (by decide +kernel)) (fun _ h9 => h9) rfl dX1_turn_104 ?_
              refine lv_iload hx hb dX1_turn_107 (lv_at hl 0 rfl) ?_
              refine lv_iconst (v := 4) hx hb dX1_turn_109 (by decide) ?_
              refine lv_iload_n hx hb dX1_turn_110 rfl (lv_at hl 4 rfl) ?_
              have hPc := hP.sub (ws' := [(qf, .inr (0, [.ref qb, .ref qe, .int od_28, .int ot_28, .int tm_28])), (qb, .inl (cA, 32, .inl b_28)), (qe, .inl (cE, 2, .inl g_28))]) [1, 2, 3] rfl
              have hDc := hD.sub (ws' := [(qf, .inr (0, [.ref qb, .ref qe, .int od_28, .int ot_28, .int tm_28])), (qb, .inl (cA, 32, .inl b_28)), (qe, .inl (cE, 2, .inl g_28))]) [1, 2, 3] (by decide) rfl
              have hKc := hK.sub (tys' := [(cA, .int), (cE, .int)]) [0, 1] rfl
              have hFc := va_free (wc := [(qf, .inr (0, [.ref qb, .ref qe, .int od_28, .int ot_28, .int tm_28])), (qb, .inl (cA, 32, .inl b_28)), (qe, .inl (cE, 2, .inl g_28))]) hD hS hA [1, 2, 3] rfl
              refine va_calli (va_runV (As := [.int (1 - (tt_ac b)), .int 4, .int a1]) (rest := []) ⟨hx, hb, hml, hown, hts⟩ (c_F_program l dC dI cA cE qf qb qe H.size b_28 g_28 od_28 ot_28 tm_28 (1 - (tt_ac b)) 4 a1) (cwV 3 hts gX1_turn_X0_program rfl rfl rfl (by decide +kernel) ⟨Nat.le_of_ble_eq_true rfl, Nat.le_of_ble_eq_true rfl⟩) ⟨fun a U g mk q => by obtain ⟨q0, q1, qP, qK, qD⟩ := q; exact ⟨q0, q1, qP, va_K.moved (u := U) (U := U.calling g mk a) (Vm.Alike.refl U.vm) qK, qD⟩, va_recv hKc hPc (ci := 0) (q0 := 0) rfl rfl, fun U hU hW => ⟨rfl, by rw [hU], by rw [hU]; exact hPc, va_K.moved hW.alike hKc, hDc.weaken (fun _ _ _ _ => trivial)⟩⟩ rfl rfl hl.1 rfl (lv_room (Nat.le_of_ble_eq_true rfl)) dX1_turn_111 ⟨(Nat.zero_le _), (Nat.zero_le _)⟩) hS (fun q _ h => hFc q h) hFc (fun r_30 u t H locs ht hvm hw hB hz1 hk1 hS => ?_)
              obtain ⟨b_30, g_30, od_30, ot_30, tm_30⟩ := u
              obtain ⟨hP1, hK1, hD1⟩ := hB
              have e_30 : tt_prog (b_28, g_28, od_28, ot_28, tm_28) (1 - (tt_ac b)) 4 a1 = (r_30, (b_30, g_30, od_30, ot_30, tm_30)) := hw
              rw [ht] at hP1
              obtain ⟨hP, hD⟩ := va_join (wr := [(qp, .inr (1, [.ref qf]))]) (w1 := [(qf, .inr (0, [.ref qb, .ref qe, .int od_30, .int ot_30, .int tm_30])), (qb, .inl (cA, 32, .inl b_30)), (qe, .inl (cE, 2, .inl g_30))]) hP hD [1, 2, 3] [0] rfl rfl (by decide) (by decide) hk1 hFc hP1 hD1
              have hP : va_P (dC, dI) ttCl [(qp, .inr (1, [.ref qf])), (qf, .inr (0, [.ref qb, .ref qe, .int od_30, .int ot_30, .int tm_30])), (qb, .inl (cA, 32, .inl b_30)), (qe, .inl (cE, 2, .inl g_30))] H := hP
              have hD : va_D A [(qp, .inr (1, [.ref qf])), (qf, .inr (0, [.ref qb, .ref qe, .int od_30, .int ot_30, .int tm_30])), (qb, .inl (cA, 32, .inl b_30)), (qe, .inl (cE, 2, .inl g_30))] := hD
              refine lv_if_eq (tgt := 150) hx hb dX1_turn_114 (by decide) (fun c_31 => ?_) (fun c_31 => ?_)
              · refine lv_iconst (v := 0) hx hb dX1_turn_150 (by decide) ?_
                have hP9 := hP.sub (ws' := [(qp, .inr (1, [.ref qf])), (qf, .inr (0, [.ref qb, .ref qe, .int od_30, .int ot_30, .int tm_30])), (qb, .inl (cA, 32, .inl b_30)), (qe, .inl (cE, 2, .inl g_30))]) [0, 1, 2, 3] rfl
                have hD9 := hD.sub (ws' := [(qp, .inr (1, [.ref qf])), (qf, .inr (0, [.ref qb, .ref qe, .int od_30, .int ot_30, .int tm_30])), (qb, .inl (cA, 32, .inl b_30)), (qe, .inl (cE, 2, .inl g_30))]) [0, 1, 2, 3] (by decide) rfl
                have hK9 := hK.sub (tys' := [(cA, .int), (cE, .int)]) [0, 1] rfl
                exact W.zret (v := 0) hx hb hr (by first | rfl | decide) (fun t ht hW => ⟨⟨0, (b_30, g_30, od_30, ot_30, tm_30), rfl, (by first | (simp only [tt_turn, tt_t0, tt_seq_p, c_3, e_19, c_20, e_21, c_22, e_24, c_25, e_26, c_27, e_28, c_29, e_30, c_31, reduceIte, eq_self]; done) | (simp [tt_turn, tt_t0, tt_seq_p, c_3, e_19, c_20, e_21, c_22, e_24, c_25, e_26, c_27, e_28, c_29, e_30, c_31]; done)), by rw [ht]; exact hP9, va_K.moved hW.alike hK9, hD9⟩, hS.F ht⟩) hS.2.2 dX1_turn_151
              · refine lv_aload_n hx hb dX1_turn_117 rfl (lv_at hl 2 rfl) ?_
                refine va_get (D := (dC, dI)) (ci := 1) (v := .ref qf) (C := RX1) (T := TX1) (N := 1) hx hb hts (by decide +kernel) hown hK hP 0 rfl rfl 0 (by decide) (hts (.fieldLink RX1 7 "TornTryCounter$Pages" "flash" "LTornTryCounter$Flash;") (by decide +kernel)) (fun _ h9 => h9) rfl dX1_turn_118 ?_
                refine lv_iload hx hb dX1_turn_121 (lv_at hl 0 rfl) ?_
                refine lv_iconst (v := 5) hx hb dX1_turn_123 (by decide) ?_
                refine lv_iload_n hx hb dX1_turn_124 rfl (lv_at hl 5 rfl) ?_
                have hPc := hP.sub (ws' := [(qf, .inr (0, [.ref qb, .ref qe, .int od_30, .int ot_30, .int tm_30])), (qb, .inl (cA, 32, .inl b_30)), (qe, .inl (cE, 2, .inl g_30))]) [1, 2, 3] rfl
                have hDc := hD.sub (ws' := [(qf, .inr (0, [.ref qb, .ref qe, .int od_30, .int ot_30, .int tm_30])), (qb, .inl (cA, 32, .inl b_30)), (qe, .inl (cE, 2, .inl g_30))]) [1, 2, 3] (by decide) rfl
                have hKc := hK.sub (tys' := [(cA, .int), (cE, .int)]) [0, 1] rfl
                have hFc := va_free (wc := [(qf, .inr (0, [.ref qb, .ref qe, .int od_30, .int ot_30, .int tm_30])), (qb, .inl (cA, 32, .inl b_30)), (qe, .inl (cE, 2, .inl g_30))]) hD hS hA [1, 2, 3] rfl
                refine va_calli (va_runV (As := [.int (1 - (tt_ac b)), .int 5, .int c1]) (rest := []) ⟨hx, hb, hml, hown, hts⟩ (c_F_program l dC dI cA cE qf qb qe H.size b_30 g_30 od_30 ot_30 tm_30 (1 - (tt_ac b)) 5 c1) (cwV 3 hts gX1_turn_X0_program rfl rfl rfl (by decide +kernel) ⟨Nat.le_of_ble_eq_true rfl, Nat.le_of_ble_eq_true rfl⟩) ⟨fun a U g mk q => by obtain ⟨q0, q1, qP, qK, qD⟩ := q; exact ⟨q0, q1, qP, va_K.moved (u := U) (U := U.calling g mk a) (Vm.Alike.refl U.vm) qK, qD⟩, va_recv hKc hPc (ci := 0) (q0 := 0) rfl rfl, fun U hU hW => ⟨rfl, by rw [hU], by rw [hU]; exact hPc, va_K.moved hW.alike hKc, hDc.weaken (fun _ _ _ _ => trivial)⟩⟩ rfl rfl hl.1 rfl (lv_room (Nat.le_of_ble_eq_true rfl)) dX1_turn_125 ⟨(Nat.zero_le _), (Nat.zero_le _)⟩) hS (fun q _ h => hFc q h) hFc (fun r_32 u t H locs ht hvm hw hB hz1 hk1 hS => ?_)
                obtain ⟨b_32, g_32, od_32, ot_32, tm_32⟩ := u
                obtain ⟨hP1, hK1, hD1⟩ := hB
                have e_32 : tt_prog (b_30, g_30, od_30, ot_30, tm_30) (1 - (tt_ac b)) 5 c1 = (r_32, (b_32, g_32, od_32, ot_32, tm_32)) := hw
                rw [ht] at hP1
                obtain ⟨hP, hD⟩ := va_join (wr := [(qp, .inr (1, [.ref qf]))]) (w1 := [(qf, .inr (0, [.ref qb, .ref qe, .int od_32, .int ot_32, .int tm_32])), (qb, .inl (cA, 32, .inl b_32)), (qe, .inl (cE, 2, .inl g_32))]) hP hD [1, 2, 3] [0] rfl rfl (by decide) (by decide) hk1 hFc hP1 hD1
                have hP : va_P (dC, dI) ttCl [(qp, .inr (1, [.ref qf])), (qf, .inr (0, [.ref qb, .ref qe, .int od_32, .int ot_32, .int tm_32])), (qb, .inl (cA, 32, .inl b_32)), (qe, .inl (cE, 2, .inl g_32))] H := hP
                have hD : va_D A [(qp, .inr (1, [.ref qf])), (qf, .inr (0, [.ref qb, .ref qe, .int od_32, .int ot_32, .int tm_32])), (qb, .inl (cA, 32, .inl b_32)), (qe, .inl (cE, 2, .inl g_32))] := hD
                refine lv_if_eq (tgt := 150) hx hb dX1_turn_128 (by decide) (fun c_33 => ?_) (fun c_33 => ?_)
                · refine lv_iconst (v := 0) hx hb dX1_turn_150 (by decide) ?_
                  have hP9 := hP.sub (ws' := [(qp, .inr (1, [.ref qf])), (qf, .inr (0, [.ref qb, .ref qe, .int od_32, .int ot_32, .int tm_32])), (qb, .inl (cA, 32, .inl b_32)), (qe, .inl (cE, 2, .inl g_32))]) [0, 1, 2, 3] rfl
                  have hD9 := hD.sub (ws' := [(qp, .inr (1, [.ref qf])), (qf, .inr (0, [.ref qb, .ref qe, .int od_32, .int ot_32, .int tm_32])), (qb, .inl (cA, 32, .inl b_32)), (qe, .inl (cE, 2, .inl g_32))]) [0, 1, 2, 3] (by decide) rfl
                  have hK9 := hK.sub (tys' := [(cA, .int), (cE, .int)]) [0, 1] rfl
                  exact W.zret (v := 0) hx hb hr (by first | rfl | decide) (fun t ht hW => ⟨⟨0, (b_32, g_32, od_32, ot_32, tm_32), rfl, (by first | (simp only [tt_turn, tt_t0, tt_seq_p, c_3, e_19, c_20, e_21, c_22, e_24, c_25, e_26, c_27, e_28, c_29, e_30, c_31, e_32, c_33, reduceIte, eq_self]; done) | (simp [tt_turn, tt_t0, tt_seq_p, c_3, e_19, c_20, e_21, c_22, e_24, c_25, e_26, c_27, e_28, c_29, e_30, c_31, e_32, c_33]; done)), by rw [ht]; exact hP9, va_K.moved hW.alike hK9, hD9⟩, hS.F ht⟩) hS.2.2 dX1_turn_151
                · refine lv_aload_n hx hb dX1_turn_131 rfl (lv_at hl 2 rfl) ?_
                  refine va_get (D := (dC, dI)) (ci := 1) (v := .ref qf) (C := RX1) (T := TX1) (N := 1) hx hb hts (by decide +kernel) hown hK hP 0 rfl rfl 0 (by decide) (hts (.fieldLink RX1 7 "TornTryCounter$Pages" "flash" "LTornTryCounter$Flash;") (by decide +kernel)) (fun _ h9 => h9) rfl dX1_turn_132 ?_
                  refine lv_iload hx hb dX1_turn_135 (lv_at hl 0 rfl) ?_
                  refine lv_iconst (v := 0) hx hb dX1_turn_137 (by decide) ?_
                  refine lv_bipush (v := 90) hx hb dX1_turn_138 (by decide) ?_
                  have hPc := hP.sub (ws' := [(qf, .inr (0, [.ref qb, .ref qe, .int od_32, .int ot_32, .int tm_32])), (qb, .inl (cA, 32, .inl b_32)), (qe, .inl (cE, 2, .inl g_32))]) [1, 2, 3] rfl
                  have hDc := hD.sub (ws' := [(qf, .inr (0, [.ref qb, .ref qe, .int od_32, .int ot_32, .int tm_32])), (qb, .inl (cA, 32, .inl b_32)), (qe, .inl (cE, 2, .inl g_32))]) [1, 2, 3] (by decide) rfl
                  have hKc := hK.sub (tys' := [(cA, .int), (cE, .int)]) [0, 1] rfl
                  have hFc := va_free (wc := [(qf, .inr (0, [.ref qb, .ref qe, .int od_32, .int ot_32, .int tm_32])), (qb, .inl (cA, 32, .inl b_32)), (qe, .inl (cE, 2, .inl g_32))]) hD hS hA [1, 2, 3] rfl
                  refine va_calli (va_runV (As := [.int (1 - (tt_ac b)), .int 0, .int 90]) (rest := []) ⟨hx, hb, hml, hown, hts⟩ (c_F_program l dC dI cA cE qf qb qe H.size b_32 g_32 od_32 ot_32 tm_32 (1 - (tt_ac b)) 0 90) (cwV 3 hts gX1_turn_X0_program rfl rfl rfl (by decide +kernel) ⟨Nat.le_of_ble_eq_true rfl, Nat.le_of_ble_eq_true rfl⟩) ⟨fun a U g mk q => by obtain ⟨q0, q1, qP, qK, qD⟩ := q; exact ⟨q0, q1, qP, va_K.moved (u := U) (U := U.calling g mk a) (Vm.Alike.refl U.vm) qK, qD⟩, va_recv hKc hPc (ci := 0) (q0 := 0) rfl rfl, fun U hU hW => ⟨rfl, by rw [hU], by rw [hU]; exact hPc, va_K.moved hW.alike hKc, hDc.weaken (fun _ _ _ _ => trivial)⟩⟩ rfl rfl hl.1 rfl (lv_room (Nat.le_of_ble_eq_true rfl)) dX1_turn_140 ⟨(Nat.zero_le _), (Nat.zero_le _)⟩) hS (fun q _ h => hFc q h) hFc (fun r_34 u t H locs ht hvm hw hB hz1 hk1 hS => ?_)
                  obtain ⟨b_34, g_34, od_34, ot_34, tm_34⟩ := u
                  obtain ⟨hP1, hK1, hD1⟩ := hB
                  have e_34 : tt_prog (b_32, g_32, od_32, ot_32, tm_32) (1 - (tt_ac b)) 0 90 = (r_34, (b_34, g_34, od_34, ot_34, tm_34)) := hw
                  rw [ht] at hP1
                  obtain ⟨hP, hD⟩ := va_join (wr := [(qp, .inr (1, [.ref qf]))]) (w1 := [(qf, .inr (0, [.ref qb, .ref qe, .int od_34, .int ot_34, .int tm_34])), (qb, .inl (cA, 32, .inl b_34)), (qe, .inl (cE, 2, .inl g_34))]) hP hD [1, 2, 3] [0] rfl rfl (by decide) (by decide) hk1 hFc hP1 hD1
                  have hP : va_P (dC, dI) ttCl [(qp, .inr (1, [.ref qf])), (qf, .inr (0, [.ref qb, .ref qe, .int od_34, .int ot_34, .int tm_34])), (qb, .inl (cA, 32, .inl b_34)), (qe, .inl (cE, 2, .inl g_34))] H := hP
                  have hD : va_D A [(qp, .inr (1, [.ref qf])), (qf, .inr (0, [.ref qb, .ref qe, .int od_34, .int ot_34, .int tm_34])), (qb, .inl (cA, 32, .inl b_34)), (qe, .inl (cE, 2, .inl g_34))] := hD
                  refine lv_if_eq (tgt := 150) hx hb dX1_turn_143 (by decide) (fun c_35 => ?_) (fun c_35 => ?_)
                  · refine lv_iconst (v := 0) hx hb dX1_turn_150 (by decide) ?_
                    have hP9 := hP.sub (ws' := [(qp, .inr (1, [.ref qf])), (qf, .inr (0, [.ref qb, .ref qe, .int od_34, .int ot_34, .int tm_34])), (qb, .inl (cA, 32, .inl b_34)), (qe, .inl (cE, 2, .inl g_34))]) [0, 1, 2, 3] rfl
                    have hD9 := hD.sub (ws' := [(qp, .inr (1, [.ref qf])), (qf, .inr (0, [.ref qb, .ref qe, .int od_34, .int ot_34, .int tm_34])), (qb, .inl (cA, 32, .inl b_34)), (qe, .inl (cE, 2, .inl g_34))]) [0, 1, 2, 3] (by decide) rfl
                    have hK9 := hK.sub (tys' := [(cA, .int), (cE, .int)]) [0, 1] rfl
                    exact W.zret (v := 0) hx hb hr (by first | rfl | decide) (fun t ht hW => ⟨⟨0, (b_34, g_34, od_34, ot_34, tm_34), rfl, (by first | (simp only [tt_turn, tt_t0, tt_seq_p, c_3, e_19, c_20, e_21, c_22, e_24, c_25, e_26, c_27, e_28, c_29, e_30, c_31, e_32, c_33, e_34, c_35, reduceIte, eq_self]; done) | (simp [tt_turn, tt_t0, tt_seq_p, c_3, e_19, c_20, e_21, c_22, e_24, c_25, e_26, c_27, e_28, c_29, e_30, c_31, e_32, c_33, e_34, c_35]; done)), by rw [ht]; exact hP9, va_K.moved hW.alike hK9, hD9⟩, hS.F ht⟩) hS.2.2 dX1_turn_151
                  · refine lv_iconst (v := 1) hx hb dX1_turn_146 (by decide) ?_
                    refine lv_goto (tgt := 151) hx hb dX1_turn_147 (by decide) ?_
                    have hP9 := hP.sub (ws' := [(qp, .inr (1, [.ref qf])), (qf, .inr (0, [.ref qb, .ref qe, .int od_34, .int ot_34, .int tm_34])), (qb, .inl (cA, 32, .inl b_34)), (qe, .inl (cE, 2, .inl g_34))]) [0, 1, 2, 3] rfl
                    have hD9 := hD.sub (ws' := [(qp, .inr (1, [.ref qf])), (qf, .inr (0, [.ref qb, .ref qe, .int od_34, .int ot_34, .int tm_34])), (qb, .inl (cA, 32, .inl b_34)), (qe, .inl (cE, 2, .inl g_34))]) [0, 1, 2, 3] (by decide) rfl
                    have hK9 := hK.sub (tys' := [(cA, .int), (cE, .int)]) [0, 1] rfl
                    exact W.zret (v := 1) hx hb hr (by first | rfl | decide) (fun t ht hW => ⟨⟨1, (b_34, g_34, od_34, ot_34, tm_34), rfl, (by first | (simp only [tt_turn, tt_t0, tt_seq_p, c_3, e_19, c_20, e_21, c_22, e_24, c_25, e_26, c_27, e_28, c_29, e_30, c_31, e_32, c_33, e_34, c_35, reduceIte, eq_self]; done) | (simp [tt_turn, tt_t0, tt_seq_p, c_3, e_19, c_20, e_21, c_22, e_24, c_25, e_26, c_27, e_28, c_29, e_30, c_31, e_32, c_33, e_34, c_35]; done)), by rw [ht]; exact hP9, va_K.moved hW.alike hK9, hD9⟩, hS.F ht⟩) hS.2.2 dX1_turn_151
    · refine lv_iconst (v := 0) hx hb dX1_turn_35 (by decide) ?_
      have hP9 := hP.sub (ws' := [(qp, .inr (1, [.ref qf])), (qf, .inr (0, [.ref qb, .ref qe, .int od_19, .int ot_19, .int tm_19])), (qb, .inl (cA, 32, .inl b_19)), (qe, .inl (cE, 2, .inl g_19))]) [0, 1, 2, 3] rfl
      have hD9 := hD.sub (ws' := [(qp, .inr (1, [.ref qf])), (qf, .inr (0, [.ref qb, .ref qe, .int od_19, .int ot_19, .int tm_19])), (qb, .inl (cA, 32, .inl b_19)), (qe, .inl (cE, 2, .inl g_19))]) [0, 1, 2, 3] (by decide) rfl
      have hK9 := hK.sub (tys' := [(cA, .int), (cE, .int)]) [0, 1] rfl
      exact W.zret (v := 0) hx hb hr (by first | rfl | decide) (fun t ht hW => ⟨⟨0, (b_19, g_19, od_19, ot_19, tm_19), rfl, (by first | (simp only [tt_turn, tt_t0, tt_seq_p, c_3, e_19, c_20, reduceIte, eq_self]; done) | (simp [tt_turn, tt_t0, tt_seq_p, c_3, e_19, c_20]; done)), by rw [ht]; exact hP9, va_K.moved hW.alike hK9, hD9⟩, hS.F ht⟩) hS.2.2 dX1_turn_36
set_option maxHeartbeats 4000000 in
set_option maxRecDepth 100000 in
theorem c_P_mark (l : Launch) (dC : Nat → ClassId) (dI : Nat → Nat → Nat) (cA cE : ClassId) (qp qf qb qe : Nat) (sz : Nat) (b g : Nat → Int32) (od ot tm : Int32) (v : Int32) : Met l yX1_mark wsX1_mark ({ frames := 4, cells := 0, slots := 0, locals := 89 }) (va_Pc [.ref qp, .int v] (fun U => U.heap.size = sz ∧ va_P (dC, dI) ttCl [(qp, .inr (1, [.ref qf])), (qf, .inr (0, [.ref qb, .ref qe, .int od, .int ot, .int tm])), (qb, .inl (cA, 32, .inl b)), (qe, .inl (cE, 2, .inl g))] U.heap ∧ va_K (dC, dI) ttCl [(cA, .int), (cE, .int)] U ∧ va_D (fun _ => True) [(qp, .inr (1, [.ref qf])), (qf, .inr (0, [.ref qb, .ref qe, .int od, .int ot, .int tm])), (qb, .inl (cA, 32, .inl b)), (qe, .inl (cE, 2, .inl g))])) (va_Qi (fun (r : Int32) (u : tt_F) => tt_mark (b, g, od, ot, tm) v = (r, u)) (fun (u : tt_F) (t : State) => at_P dC dI cA cE (va_A [(qp, .inr (1, [.ref qf])), (qf, .inr (0, [.ref qb, .ref qe, .int od, .int ot, .int tm])), (qb, .inl (cA, 32, .inl b)), (qe, .inl (cE, 2, .inl g))] sz) qp qf qb qe u t) (va_A [(qp, .inr (1, [.ref qf])), (qf, .inr (0, [.ref qb, .ref qe, .int od, .int ot, .int tm])), (qb, .inl (cA, 32, .inl b)), (qe, .inl (cE, 2, .inl g))] sz)) 0 0 (va_A [(qp, .inr (1, [.ref qf])), (qf, .inr (0, [.ref qb, .ref qe, .int od, .int ot, .int tm])), (qb, .inl (cA, 32, .inl b)), (qe, .inl (cE, 2, .inl g))] sz) := by
  refine Met.ofW (cc := cX1_mark) (maxL := 3) (ret := (some .int)) (by decide) rfl ?_
  intro p e s m args below meth c s₁ B hml hv
  obtain ⟨rfl, hsz, hP, hK, hD0⟩ := hv
  have hx := B.exec
  have hb := B.bytes
  have hr := B.returns
  have hts := atoms_spec (ws := wsX1_mark) B.pre
  have hown : s.vm.findClass RX1 = some m.cls := findClass_of_methodNamed B.named
  have hlocks := B.notSynchronized
  subst hsz
  have hD := hD0.self (sz := s.heap.size)
  generalize hAe : va_A [(qp, .inr (1, [.ref qf])), (qf, .inr (0, [.ref qb, .ref qe, .int od, .int ot, .int tm])), (qb, .inl (cA, 32, .inl b)), (qe, .inl (cE, 2, .inl g))] s.heap.size = A at hD ⊢
  have hA : ∀ q : Nat, s.heap.size ≤ q → A q := fun q h => by rw [← hAe]; exact Or.inr h
  have hS : va_S A s.heap s.heap [] := va_S.rf
  have hP : va_P (dC, dI) ttCl [(qp, .inr (1, [.ref qf])), (qf, .inr (0, [.ref qb, .ref qe, .int od, .int ot, .int tm])), (qb, .inl (cA, 32, .inl b)), (qe, .inl (cE, 2, .inl g))] s.heap := hP
  have hl := lv_entry ([.ref qp, .int v]) (n := 3) (Nat.le_of_ble_eq_true rfl)
  rw [lg_entry_eq]
  generalize (lg_sl ([.ref qp, .int v]) ++ List.replicate (3 - (lg_sl ([.ref qp, .int v])).length) Slot.unset).toArray = ls at hl ⊢
  have hl : lv_has ls 3 [(0, .ref qp), (1, .int v)] := hl
  refine lv_aload_n hx hb dX1_mark_0 rfl (lv_at hl 0 rfl) ?_
  have hPc := hP.sub (ws' := [(qp, .inr (1, [.ref qf])), (qf, .inr (0, [.ref qb, .ref qe, .int od, .int ot, .int tm])), (qb, .inl (cA, 32, .inl b)), (qe, .inl (cE, 2, .inl g))]) [0, 1, 2, 3] rfl
  have hDc := hD.sub (ws' := [(qp, .inr (1, [.ref qf])), (qf, .inr (0, [.ref qb, .ref qe, .int od, .int ot, .int tm])), (qb, .inl (cA, 32, .inl b)), (qe, .inl (cE, 2, .inl g))]) [0, 1, 2, 3] (by decide) rfl
  have hKc := hK.sub (tys' := [(cA, .int), (cE, .int)]) [0, 1] rfl
  have hFc := va_free (wc := [(qp, .inr (1, [.ref qf])), (qf, .inr (0, [.ref qb, .ref qe, .int od, .int ot, .int tm])), (qb, .inl (cA, 32, .inl b)), (qe, .inl (cE, 2, .inl g))]) hD hS hA [0, 1, 2, 3] rfl
  refine va_calli (va_runV (As := []) (rest := []) ⟨hx, hb, hml, hown, hts⟩ (c_P_firstFreeEntry l dC dI cA cE qp qf qb qe s.heap.size b g od ot tm) (cwV 0 hts gX1_mark_X1_firstFreeEntry rfl rfl rfl (by decide +kernel) ⟨Nat.le_of_ble_eq_true rfl, Nat.le_of_ble_eq_true rfl⟩) ⟨fun a U g mk q => by obtain ⟨q0, q1, qP, qK, qD⟩ := q; exact ⟨q0, q1, qP, va_K.moved (u := U) (U := U.calling g mk a) (Vm.Alike.refl U.vm) qK, qD⟩, va_recv hKc hPc (ci := 1) (q0 := 0) rfl rfl, fun U hU hW => ⟨rfl, by rw [hU], by rw [hU]; exact hPc, va_K.moved hW.alike hKc, hDc.weaken (fun _ _ _ _ => trivial)⟩⟩ rfl rfl hl.1 rfl (lv_room (Nat.le_of_ble_eq_true rfl)) dX1_mark_1 ⟨(Nat.zero_le _), (Nat.zero_le _)⟩) hS (fun q _ h => hFc q h) hFc (fun r_1 u t H locs ht hvm hw hB hz1 hk1 hS => ?_)
  have hw : tt_fst b = r_1 := hw.symm
  subst hw
  obtain ⟨hP1, hK1, hD1⟩ := hB
  rw [ht] at hP1
  obtain ⟨hP, hD⟩ := va_join (wr := []) (w1 := [(qp, .inr (1, [.ref qf])), (qf, .inr (0, [.ref qb, .ref qe, .int od, .int ot, .int tm])), (qb, .inl (cA, 32, .inl b)), (qe, .inl (cE, 2, .inl g))]) hP hD [0, 1, 2, 3] [] rfl rfl (by decide) (by decide) hk1 hFc hP1 hD1
  have hP : va_P (dC, dI) ttCl [(qp, .inr (1, [.ref qf])), (qf, .inr (0, [.ref qb, .ref qe, .int od, .int ot, .int tm])), (qb, .inl (cA, 32, .inl b)), (qe, .inl (cE, 2, .inl g))] H := hP
  have hD : va_D A [(qp, .inr (1, [.ref qf])), (qf, .inr (0, [.ref qb, .ref qe, .int od, .int ot, .int tm])), (qb, .inl (cA, 32, .inl b)), (qe, .inl (cE, 2, .inl g))] := hD
  refine lv_iconst (v := (-1)) hx hb dX1_mark_4 (by decide) ?_
  refine lv_icmp_ne (tgt := 29) hx hb dX1_mark_5 (by decide) (fun c_2 => ?_) (fun c_2 => ?_)
  · refine lv_aload_n hx hb dX1_mark_29 rfl (lv_at hl 0 rfl) ?_
    have hPc := hP.sub (ws' := [(qp, .inr (1, [.ref qf])), (qf, .inr (0, [.ref qb, .ref qe, .int od, .int ot, .int tm])), (qb, .inl (cA, 32, .inl b)), (qe, .inl (cE, 2, .inl g))]) [0, 1, 2, 3] rfl
    have hDc := hD.sub (ws' := [(qp, .inr (1, [.ref qf])), (qf, .inr (0, [.ref qb, .ref qe, .int od, .int ot, .int tm])), (qb, .inl (cA, 32, .inl b)), (qe, .inl (cE, 2, .inl g))]) [0, 1, 2, 3] (by decide) rfl
    have hKc := hK.sub (tys' := [(cA, .int), (cE, .int)]) [0, 1] rfl
    have hFc := va_free (wc := [(qp, .inr (1, [.ref qf])), (qf, .inr (0, [.ref qb, .ref qe, .int od, .int ot, .int tm])), (qb, .inl (cA, 32, .inl b)), (qe, .inl (cE, 2, .inl g))]) hD hS hA [0, 1, 2, 3] rfl
    refine va_calli (va_runV (As := []) (rest := []) ⟨hx, hb, hml, hown, hts⟩ (c_P_firstFreeEntry l dC dI cA cE qp qf qb qe H.size b g od ot tm) (cwV 0 hts gX1_mark_X1_firstFreeEntry rfl rfl rfl (by decide +kernel) ⟨Nat.le_of_ble_eq_true rfl, Nat.le_of_ble_eq_true rfl⟩) ⟨fun a U g mk q => by obtain ⟨q0, q1, qP, qK, qD⟩ := q; exact ⟨q0, q1, qP, va_K.moved (u := U) (U := U.calling g mk a) (Vm.Alike.refl U.vm) qK, qD⟩, va_recv hKc hPc (ci := 1) (q0 := 0) rfl rfl, fun U hU hW => ⟨rfl, by rw [hU], by rw [hU]; exact hPc, va_K.moved hW.alike hKc, hDc.weaken (fun _ _ _ _ => trivial)⟩⟩ rfl rfl hl.1 rfl (lv_room (Nat.le_of_ble_eq_true rfl)) dX1_mark_30 ⟨(Nat.zero_le _), (Nat.zero_le _)⟩) hS (fun q _ h => hFc q h) hFc (fun r_3 u t H locs ht hvm hw hB hz1 hk1 hS => ?_)
    have hw : tt_fst b = r_3 := hw.symm
    subst hw
    obtain ⟨hP1, hK1, hD1⟩ := hB
    rw [ht] at hP1
    obtain ⟨hP, hD⟩ := va_join (wr := []) (w1 := [(qp, .inr (1, [.ref qf])), (qf, .inr (0, [.ref qb, .ref qe, .int od, .int ot, .int tm])), (qb, .inl (cA, 32, .inl b)), (qe, .inl (cE, 2, .inl g))]) hP hD [0, 1, 2, 3] [] rfl rfl (by decide) (by decide) hk1 hFc hP1 hD1
    have hP : va_P (dC, dI) ttCl [(qp, .inr (1, [.ref qf])), (qf, .inr (0, [.ref qb, .ref qe, .int od, .int ot, .int tm])), (qb, .inl (cA, 32, .inl b)), (qe, .inl (cE, 2, .inl g))] H := hP
    have hD : va_D A [(qp, .inr (1, [.ref qf])), (qf, .inr (0, [.ref qb, .ref qe, .int od, .int ot, .int tm])), (qb, .inl (cA, 32, .inl b)), (qe, .inl (cE, 2, .inl g))] := hD
    refine lv_istore_n (lv' := [(2, .int (tt_fst b)), (0, .ref qp), (1, .int v)]) hx hb dX1_mark_33 rfl hl (by decide) rfl (fun ls hl => ?_)
    refine lv_iload_n hx hb dX1_mark_34 rfl (lv_at hl 0 rfl) ?_
    refine lv_iconst (v := (-1)) hx hb dX1_mark_35 (by decide) ?_
    refine lv_icmp_eq (tgt := 59) hx hb dX1_mark_36 (by decide) (fun c_4 => ?_) (fun c_4 => ?_)
    · exact absurd c_4 c_2
    · refine lv_aload_n hx hb dX1_mark_39 rfl (lv_at hl 1 rfl) ?_
      refine va_get (D := (dC, dI)) (ci := 1) (v := .ref qf) (C := RX1) (T := TX1) (N := 1) hx hb hts (by decide +kernel) hown hK hP 0 rfl rfl 0 (by decide) (hts (.fieldLink RX1 7 "TornTryCounter$Pages" "flash" "LTornTryCounter$Flash;") (by decide +kernel)) (fun _ h9 => h9) rfl dX1_mark_40 ?_
      refine lv_aload_n hx hb dX1_mark_43 rfl (lv_at hl 1 rfl) ?_
      have hPc := hP.sub (ws' := [(qp, .inr (1, [.ref qf])), (qf, .inr (0, [.ref qb, .ref qe, .int od, .int ot, .int tm])), (qb, .inl (cA, 32, .inl b)), (qe, .inl (cE, 2, .inl g))]) [0, 1, 2, 3] rfl
      have hDc := hD.sub (ws' := [(qp, .inr (1, [.ref qf])), (qf, .inr (0, [.ref qb, .ref qe, .int od, .int ot, .int tm])), (qb, .inl (cA, 32, .inl b)), (qe, .inl (cE, 2, .inl g))]) [0, 1, 2, 3] (by decide) rfl
      have hKc := hK.sub (tys' := [(cA, .int), (cE, .int)]) [0, 1] rfl
      have hFc := va_free (wc := [(qp, .inr (1, [.ref qf])), (qf, .inr (0, [.ref qb, .ref qe, .int od, .int ot, .int tm])), (qb, .inl (cA, 32, .inl b)), (qe, .inl (cE, 2, .inl g))]) hD hS hA [0, 1, 2, 3] rfl
      refine va_calli (va_runV (As := []) (rest := [.ref qf]) ⟨hx, hb, hml, hown, hts⟩ (c_P_active l dC dI cA cE qp qf qb qe H.size b g od ot tm) (cwV 0 hts gX1_mark_X1_active rfl rfl rfl (by decide +kernel) ⟨Nat.le_of_ble_eq_true rfl, Nat.le_of_ble_eq_true rfl⟩) ⟨fun a U g mk q => by obtain ⟨q0, q1, qP, qK, qD⟩ := q; exact ⟨q0, q1, qP, va_K.moved (u := U) (U := U.calling g mk a) (Vm.Alike.refl U.vm) qK, qD⟩, va_recv hKc hPc (ci := 1) (q0 := 0) rfl rfl, fun U hU hW => ⟨rfl, by rw [hU], by rw [hU]; exact hPc, va_K.moved hW.alike hKc, hDc.weaken (fun _ _ _ _ => trivial)⟩⟩ rfl rfl hl.1 rfl (lv_room (Nat.le_of_ble_eq_true rfl)) dX1_mark_44 ⟨(Nat.zero_le _), (Nat.zero_le _)⟩) hS (fun q _ h => hFc q h) hFc (fun r_5 u t H locs ht hvm hw hB hz1 hk1 hS => ?_)
      have hw : tt_ac b = r_5 := hw.symm
      subst hw
      obtain ⟨hP1, hK1, hD1⟩ := hB
      rw [ht] at hP1
      obtain ⟨hP, hD⟩ := va_join (wr := []) (w1 := [(qp, .inr (1, [.ref qf])), (qf, .inr (0, [.ref qb, .ref qe, .int od, .int ot, .int tm])), (qb, .inl (cA, 32, .inl b)), (qe, .inl (cE, 2, .inl g))]) hP hD [0, 1, 2, 3] [] rfl rfl (by decide) (by decide) hk1 hFc hP1 hD1
      have hP : va_P (dC, dI) ttCl [(qp, .inr (1, [.ref qf])), (qf, .inr (0, [.ref qb, .ref qe, .int od, .int ot, .int tm])), (qb, .inl (cA, 32, .inl b)), (qe, .inl (cE, 2, .inl g))] H := hP
      have hD : va_D A [(qp, .inr (1, [.ref qf])), (qf, .inr (0, [.ref qb, .ref qe, .int od, .int ot, .int tm])), (qb, .inl (cA, 32, .inl b)), (qe, .inl (cE, 2, .inl g))] := hD
      refine lv_iload_n hx hb dX1_mark_47 rfl (lv_at hl 0 rfl) ?_
      refine lv_iload_n hx hb dX1_mark_48 rfl (lv_at hl 2 rfl) ?_
      have hPc := hP.sub (ws' := [(qf, .inr (0, [.ref qb, .ref qe, .int od, .int ot, .int tm])), (qb, .inl (cA, 32, .inl b)), (qe, .inl (cE, 2, .inl g))]) [1, 2, 3] rfl
      have hDc := hD.sub (ws' := [(qf, .inr (0, [.ref qb, .ref qe, .int od, .int ot, .int tm])), (qb, .inl (cA, 32, .inl b)), (qe, .inl (cE, 2, .inl g))]) [1, 2, 3] (by decide) rfl
      have hKc := hK.sub (tys' := [(cA, .int), (cE, .int)]) [0, 1] rfl
      have hFc := va_free (wc := [(qf, .inr (0, [.ref qb, .ref qe, .int od, .int ot, .int tm])), (qb, .inl (cA, 32, .inl b)), (qe, .inl (cE, 2, .inl g))]) hD hS hA [1, 2, 3] rfl
      refine va_calli (va_runV (As := [.int (tt_ac b), .int (tt_fst b), .int v]) (rest := []) ⟨hx, hb, hml, hown, hts⟩ (c_F_program l dC dI cA cE qf qb qe H.size b g od ot tm (tt_ac b) (tt_fst b) v) (cwV 3 hts gX1_mark_X0_program rfl rfl rfl (by decide +kernel) ⟨Nat.le_of_ble_eq_true rfl, Nat.le_of_ble_eq_true rfl⟩) ⟨fun a U g mk q => by obtain ⟨q0, q1, qP, qK, qD⟩ := q; exact ⟨q0, q1, qP, va_K.moved (u := U) (U := U.calling g mk a) (Vm.Alike.refl U.vm) qK, qD⟩, va_recv hKc hPc (ci := 0) (q0 := 0) rfl rfl, fun U hU hW => ⟨rfl, by rw [hU], by rw [hU]; exact hPc, va_K.moved hW.alike hKc, hDc.weaken (fun _ _ _ _ => trivial)⟩⟩ rfl rfl hl.1 rfl (lv_room (Nat.le_of_ble_eq_true rfl)) dX1_mark_49 ⟨(Nat.zero_le _), (Nat.zero_le _)⟩) hS (fun q _ h => hFc q h) hFc (fun r_6 u t H locs ht hvm hw hB hz1 hk1 hS => ?_)
      obtain ⟨b_6, g_6, od_6, ot_6, tm_6⟩ := u
      obtain ⟨hP1, hK1, hD1⟩ := hB
      have e_6 : tt_prog (b, g, od, ot, tm) (tt_ac b) (tt_fst b) v = (r_6, (b_6, g_6, od_6, ot_6, tm_6)) := hw
      rw [ht] at hP1
      obtain ⟨hP, hD⟩ := va_join (wr := [(qp, .inr (1, [.ref qf]))]) (w1 := [(qf, .inr (0, [.ref qb, .ref qe, .int od_6, .int ot_6, .int tm_6])), (qb, .inl (cA, 32, .inl b_6)), (qe, .inl (cE, 2, .inl g_6))]) hP hD [1, 2, 3] [0] rfl rfl (by decide) (by decide) hk1 hFc hP1 hD1
      have hP : va_P (dC, dI) ttCl [(qp, .inr (1, [.ref qf])), (qf, .inr (0, [.ref qb, .ref qe, .int od_6, .int ot_6, .int tm_6])), (qb, .inl (cA, 32, .inl b_6)), (qe, .inl (cE, 2, .inl g_6))] H := hP
      have hD : va_D A [(qp, .inr (1, [.ref qf])), (qf, .inr (0, [.ref qb, .ref qe, .int od_6, .int ot_6, .int tm_6])), (qb, .inl (cA, 32, .inl b_6)), (qe, .inl (cE, 2, .inl g_6))] := hD
      refine lv_if_eq (tgt := 59) hx hb dX1_mark_52 (by decide) (fun c_7 => ?_) (fun c_7 => ?_)
      · refine lv_iconst (v := (-1)) hx hb dX1_mark_59 (by decide) ?_
        have hP9 := hP.sub (ws' := [(qp, .inr (1, [.ref qf])), (qf, .inr (0, [.ref qb, .ref qe, .int od_6, .int ot_6, .int tm_6])), (qb, .inl (cA, 32, .inl b_6)), (qe, .inl (cE, 2, .inl g_6))]) [0, 1, 2, 3] rfl
        have hD9 := hD.sub (ws' := [(qp, .inr (1, [.ref qf])), (qf, .inr (0, [.ref qb, .ref qe, .int od_6, .int ot_6, .int tm_6])), (qb, .inl (cA, 32, .inl b_6)), (qe, .inl (cE, 2, .inl g_6))]) [0, 1, 2, 3] (by decide) rfl
        have hK9 := hK.sub (tys' := [(cA, .int), (cE, .int)]) [0, 1] rfl
        exact W.iret (v := (-1)) hx hb hr (fun t ht hW => ⟨⟨(-1), (b_6, g_6, od_6, ot_6, tm_6), rfl, (by first | (simp only [tt_mark, tt_m1, c_2, e_6, c_7, reduceIte, eq_self]; done) | (simp [tt_mark, tt_m1, c_2, e_6, c_7]; done)), by rw [ht]; exact hP9, va_K.moved hW.alike hK9, hD9⟩, hS.F ht⟩) hS.2.2 dX1_mark_60
      · refine lv_iload_n hx hb dX1_mark_55 rfl (lv_at hl 0 rfl) ?_
        refine lv_goto (tgt := 60) hx hb dX1_mark_56 (by decide) ?_
        have hP9 := hP.sub (ws' := [(qp, .inr (1, [.ref qf])), (qf, .inr (0, [.ref qb, .ref qe, .int od_6, .int ot_6, .int tm_6])), (qb, .inl (cA, 32, .inl b_6)), (qe, .inl (cE, 2, .inl g_6))]) [0, 1, 2, 3] rfl
        have hD9 := hD.sub (ws' := [(qp, .inr (1, [.ref qf])), (qf, .inr (0, [.ref qb, .ref qe, .int od_6, .int ot_6, .int tm_6])), (qb, .inl (cA, 32, .inl b_6)), (qe, .inl (cE, 2, .inl g_6))]) [0, 1, 2, 3] (by decide) rfl
        have hK9 := hK.sub (tys' := [(cA, .int), (cE, .int)]) [0, 1] rfl
        exact W.iret (v := tt_fst b) hx hb hr (fun t ht hW => ⟨⟨tt_fst b, (b_6, g_6, od_6, ot_6, tm_6), rfl, (by first | (simp only [tt_mark, tt_m1, c_2, e_6, c_7, reduceIte, eq_self]; done) | (simp [tt_mark, tt_m1, c_2, e_6, c_7]; done)), by rw [ht]; exact hP9, va_K.moved hW.alike hK9, hD9⟩, hS.F ht⟩) hS.2.2 dX1_mark_60
  · refine lv_aload_n hx hb dX1_mark_8 rfl (lv_at hl 0 rfl) ?_
    refine lv_aload_n hx hb dX1_mark_9 rfl (lv_at hl 0 rfl) ?_
    have hPc := hP.sub (ws' := [(qp, .inr (1, [.ref qf])), (qf, .inr (0, [.ref qb, .ref qe, .int od, .int ot, .int tm])), (qb, .inl (cA, 32, .inl b)), (qe, .inl (cE, 2, .inl g))]) [0, 1, 2, 3] rfl
    have hDc := hD.sub (ws' := [(qp, .inr (1, [.ref qf])), (qf, .inr (0, [.ref qb, .ref qe, .int od, .int ot, .int tm])), (qb, .inl (cA, 32, .inl b)), (qe, .inl (cE, 2, .inl g))]) [0, 1, 2, 3] (by decide) rfl
    have hKc := hK.sub (tys' := [(cA, .int), (cE, .int)]) [0, 1] rfl
    have hFc := va_free (wc := [(qp, .inr (1, [.ref qf])), (qf, .inr (0, [.ref qb, .ref qe, .int od, .int ot, .int tm])), (qb, .inl (cA, 32, .inl b)), (qe, .inl (cE, 2, .inl g))]) hD hS hA [0, 1, 2, 3] rfl
    refine va_calli (va_runV (As := []) (rest := [.ref qp]) ⟨hx, hb, hml, hown, hts⟩ (c_P_pin l dC dI cA cE qp qf qb qe H.size b g od ot tm) (cwV 0 hts gX1_mark_X1_pin rfl rfl rfl (by decide +kernel) ⟨Nat.le_of_ble_eq_true rfl, Nat.le_of_ble_eq_true rfl⟩) ⟨fun a U g mk q => by obtain ⟨q0, q1, qP, qK, qD⟩ := q; exact ⟨q0, q1, qP, va_K.moved (u := U) (U := U.calling g mk a) (Vm.Alike.refl U.vm) qK, qD⟩, va_recv hKc hPc (ci := 1) (q0 := 0) rfl rfl, fun U hU hW => ⟨rfl, by rw [hU], by rw [hU]; exact hPc, va_K.moved hW.alike hKc, hDc.weaken (fun _ _ _ _ => trivial)⟩⟩ rfl rfl hl.1 rfl (lv_room (Nat.le_of_ble_eq_true rfl)) dX1_mark_10 ⟨(Nat.zero_le _), (Nat.zero_le _)⟩) hS (fun q _ h => hFc q h) hFc (fun r_8 u t H locs ht hvm hw hB hz1 hk1 hS => ?_)
    have hw : tt_pin b = r_8 := hw.symm
    subst hw
    obtain ⟨hP1, hK1, hD1⟩ := hB
    rw [ht] at hP1
    obtain ⟨hP, hD⟩ := va_join (wr := []) (w1 := [(qp, .inr (1, [.ref qf])), (qf, .inr (0, [.ref qb, .ref qe, .int od, .int ot, .int tm])), (qb, .inl (cA, 32, .inl b)), (qe, .inl (cE, 2, .inl g))]) hP hD [0, 1, 2, 3] [] rfl rfl (by decide) (by decide) hk1 hFc hP1 hD1
    have hP : va_P (dC, dI) ttCl [(qp, .inr (1, [.ref qf])), (qf, .inr (0, [.ref qb, .ref qe, .int od, .int ot, .int tm])), (qb, .inl (cA, 32, .inl b)), (qe, .inl (cE, 2, .inl g))] H := hP
    have hD : va_D A [(qp, .inr (1, [.ref qf])), (qf, .inr (0, [.ref qb, .ref qe, .int od, .int ot, .int tm])), (qb, .inl (cA, 32, .inl b)), (qe, .inl (cE, 2, .inl g))] := hD
    refine lv_aload_n hx hb dX1_mark_13 rfl (lv_at hl 0 rfl) ?_
    have hPc := hP.sub (ws' := [(qp, .inr (1, [.ref qf])), (qf, .inr (0, [.ref qb, .ref qe, .int od, .int ot, .int tm])), (qb, .inl (cA, 32, .inl b)), (qe, .inl (cE, 2, .inl g))]) [0, 1, 2, 3] rfl
    have hDc := hD.sub (ws' := [(qp, .inr (1, [.ref qf])), (qf, .inr (0, [.ref qb, .ref qe, .int od, .int ot, .int tm])), (qb, .inl (cA, 32, .inl b)), (qe, .inl (cE, 2, .inl g))]) [0, 1, 2, 3] (by decide) rfl
    have hKc := hK.sub (tys' := [(cA, .int), (cE, .int)]) [0, 1] rfl
    have hFc := va_free (wc := [(qp, .inr (1, [.ref qf])), (qf, .inr (0, [.ref qb, .ref qe, .int od, .int ot, .int tm])), (qb, .inl (cA, 32, .inl b)), (qe, .inl (cE, 2, .inl g))]) hD hS hA [0, 1, 2, 3] rfl
    refine va_calli (va_runV (As := []) (rest := [.int (tt_pin b), .ref qp]) ⟨hx, hb, hml, hown, hts⟩ (c_P_pinTriesUsed l dC dI cA cE qp qf qb qe H.size b g od ot tm) (cwV 0 hts gX1_mark_X1_pinTriesUsed rfl rfl rfl (by decide +kernel) ⟨Nat.le_of_ble_eq_true rfl, Nat.le_of_ble_eq_true rfl⟩) ⟨fun a U g mk q => by obtain ⟨q0, q1, qP, qK, qD⟩ := q; exact ⟨q0, q1, qP, va_K.moved (u := U) (U := U.calling g mk a) (Vm.Alike.refl U.vm) qK, qD⟩, va_recv hKc hPc (ci := 1) (q0 := 0) rfl rfl, fun U hU hW => ⟨rfl, by rw [hU], by rw [hU]; exact hPc, va_K.moved hW.alike hKc, hDc.weaken (fun _ _ _ _ => trivial)⟩⟩ rfl rfl hl.1 rfl (lv_room (Nat.le_of_ble_eq_true rfl)) dX1_mark_14 ⟨(Nat.zero_le _), (Nat.zero_le _)⟩) hS (fun q _ h => hFc q h) hFc (fun r_9 u t H locs ht hvm hw hB hz1 hk1 hS => ?_)
    have hw : tt_pu b = r_9 := hw.symm
    subst hw
    obtain ⟨hP1, hK1, hD1⟩ := hB
    rw [ht] at hP1
    obtain ⟨hP, hD⟩ := va_join (wr := []) (w1 := [(qp, .inr (1, [.ref qf])), (qf, .inr (0, [.ref qb, .ref qe, .int od, .int ot, .int tm])), (qb, .inl (cA, 32, .inl b)), (qe, .inl (cE, 2, .inl g))]) hP hD [0, 1, 2, 3] [] rfl rfl (by decide) (by decide) hk1 hFc hP1 hD1
    have hP : va_P (dC, dI) ttCl [(qp, .inr (1, [.ref qf])), (qf, .inr (0, [.ref qb, .ref qe, .int od, .int ot, .int tm])), (qb, .inl (cA, 32, .inl b)), (qe, .inl (cE, 2, .inl g))] H := hP
    have hD : va_D A [(qp, .inr (1, [.ref qf])), (qf, .inr (0, [.ref qb, .ref qe, .int od, .int ot, .int tm])), (qb, .inl (cA, 32, .inl b)), (qe, .inl (cE, 2, .inl g))] := hD
    refine lv_aload_n hx hb dX1_mark_17 rfl (lv_at hl 0 rfl) ?_
    have hPc := hP.sub (ws' := [(qp, .inr (1, [.ref qf])), (qf, .inr (0, [.ref qb, .ref qe, .int od, .int ot, .int tm])), (qb, .inl (cA, 32, .inl b)), (qe, .inl (cE, 2, .inl g))]) [0, 1, 2, 3] rfl
    have hDc := hD.sub (ws' := [(qp, .inr (1, [.ref qf])), (qf, .inr (0, [.ref qb, .ref qe, .int od, .int ot, .int tm])), (qb, .inl (cA, 32, .inl b)), (qe, .inl (cE, 2, .inl g))]) [0, 1, 2, 3] (by decide) rfl
    have hKc := hK.sub (tys' := [(cA, .int), (cE, .int)]) [0, 1] rfl
    have hFc := va_free (wc := [(qp, .inr (1, [.ref qf])), (qf, .inr (0, [.ref qb, .ref qe, .int od, .int ot, .int tm])), (qb, .inl (cA, 32, .inl b)), (qe, .inl (cE, 2, .inl g))]) hD hS hA [0, 1, 2, 3] rfl
    refine va_calli (va_runV (As := []) (rest := [.int (tt_pu b), .int (tt_pin b), .ref qp]) ⟨hx, hb, hml, hown, hts⟩ (c_P_pukTriesUsed l dC dI cA cE qp qf qb qe H.size b g od ot tm) (cwV 0 hts gX1_mark_X1_pukTriesUsed rfl rfl rfl (by decide +kernel) ⟨Nat.le_of_ble_eq_true rfl, Nat.le_of_ble_eq_true rfl⟩) ⟨fun a U g mk q => by obtain ⟨q0, q1, qP, qK, qD⟩ := q; exact ⟨q0, q1, qP, va_K.moved (u := U) (U := U.calling g mk a) (Vm.Alike.refl U.vm) qK, qD⟩, va_recv hKc hPc (ci := 1) (q0 := 0) rfl rfl, fun U hU hW => ⟨rfl, by rw [hU], by rw [hU]; exact hPc, va_K.moved hW.alike hKc, hDc.weaken (fun _ _ _ _ => trivial)⟩⟩ rfl rfl hl.1 rfl (lv_room (Nat.le_of_ble_eq_true rfl)) dX1_mark_18 ⟨(Nat.zero_le _), (Nat.zero_le _)⟩) hS (fun q _ h => hFc q h) hFc (fun r_10 u t H locs ht hvm hw hB hz1 hk1 hS => ?_)
    have hw : tt_uu b = r_10 := hw.symm
    subst hw
    obtain ⟨hP1, hK1, hD1⟩ := hB
    rw [ht] at hP1
    obtain ⟨hP, hD⟩ := va_join (wr := []) (w1 := [(qp, .inr (1, [.ref qf])), (qf, .inr (0, [.ref qb, .ref qe, .int od, .int ot, .int tm])), (qb, .inl (cA, 32, .inl b)), (qe, .inl (cE, 2, .inl g))]) hP hD [0, 1, 2, 3] [] rfl rfl (by decide) (by decide) hk1 hFc hP1 hD1
    have hP : va_P (dC, dI) ttCl [(qp, .inr (1, [.ref qf])), (qf, .inr (0, [.ref qb, .ref qe, .int od, .int ot, .int tm])), (qb, .inl (cA, 32, .inl b)), (qe, .inl (cE, 2, .inl g))] H := hP
    have hD : va_D A [(qp, .inr (1, [.ref qf])), (qf, .inr (0, [.ref qb, .ref qe, .int od, .int ot, .int tm])), (qb, .inl (cA, 32, .inl b)), (qe, .inl (cE, 2, .inl g))] := hD
    have hPc := hP.sub (ws' := [(qp, .inr (1, [.ref qf])), (qf, .inr (0, [.ref qb, .ref qe, .int od, .int ot, .int tm])), (qb, .inl (cA, 32, .inl b)), (qe, .inl (cE, 2, .inl g))]) [0, 1, 2, 3] rfl
    have hDc := hD.sub (ws' := [(qp, .inr (1, [.ref qf])), (qf, .inr (0, [.ref qb, .ref qe, .int od, .int ot, .int tm])), (qb, .inl (cA, 32, .inl b)), (qe, .inl (cE, 2, .inl g))]) [0, 1, 2, 3] (by decide) rfl
    have hKc := hK.sub (tys' := [(cA, .int), (cE, .int)]) [0, 1] rfl
    have hFc := va_free (wc := [(qp, .inr (1, [.ref qf])), (qf, .inr (0, [.ref qb, .ref qe, .int od, .int ot, .int tm])), (qb, .inl (cA, 32, .inl b)), (qe, .inl (cE, 2, .inl g))]) hD hS hA [0, 1, 2, 3] rfl
    refine va_calli (va_runV (As := [.int (tt_pin b), .int (tt_pu b), .int (tt_uu b)]) (rest := []) ⟨hx, hb, hml, hown, hts⟩ (c_P_turn l dC dI cA cE qp qf qb qe H.size b g od ot tm (tt_pin b) (tt_pu b) (tt_uu b)) (cwV 3 hts gX1_mark_X1_turn rfl rfl rfl (by decide +kernel) ⟨Nat.le_of_ble_eq_true rfl, Nat.le_of_ble_eq_true rfl⟩) ⟨fun a U g mk q => by obtain ⟨q0, q1, qP, qK, qD⟩ := q; exact ⟨q0, q1, qP, va_K.moved (u := U) (U := U.calling g mk a) (Vm.Alike.refl U.vm) qK, qD⟩, va_recv hKc hPc (ci := 1) (q0 := 0) rfl rfl, fun U hU hW => ⟨rfl, by rw [hU], by rw [hU]; exact hPc, va_K.moved hW.alike hKc, hDc.weaken (fun _ _ _ _ => trivial)⟩⟩ rfl rfl hl.1 rfl (lv_room (Nat.le_of_ble_eq_true rfl)) dX1_mark_21 ⟨(Nat.zero_le _), (Nat.zero_le _)⟩) hS (fun q _ h => hFc q h) hFc (fun r_11 u t H locs ht hvm hw hB hz1 hk1 hS => ?_)
    obtain ⟨b_11, g_11, od_11, ot_11, tm_11⟩ := u
    obtain ⟨hP1, hK1, hD1⟩ := hB
    have e_11 : tt_turn (b, g, od, ot, tm) (tt_pin b) (tt_pu b) (tt_uu b) = (r_11, (b_11, g_11, od_11, ot_11, tm_11)) := hw
    rw [ht] at hP1
    obtain ⟨hP, hD⟩ := va_join (wr := []) (w1 := [(qp, .inr (1, [.ref qf])), (qf, .inr (0, [.ref qb, .ref qe, .int od_11, .int ot_11, .int tm_11])), (qb, .inl (cA, 32, .inl b_11)), (qe, .inl (cE, 2, .inl g_11))]) hP hD [0, 1, 2, 3] [] rfl rfl (by decide) (by decide) hk1 hFc hP1 hD1
    have hP : va_P (dC, dI) ttCl [(qp, .inr (1, [.ref qf])), (qf, .inr (0, [.ref qb, .ref qe, .int od_11, .int ot_11, .int tm_11])), (qb, .inl (cA, 32, .inl b_11)), (qe, .inl (cE, 2, .inl g_11))] H := hP
    have hD : va_D A [(qp, .inr (1, [.ref qf])), (qf, .inr (0, [.ref qb, .ref qe, .int od_11, .int ot_11, .int tm_11])), (qb, .inl (cA, 32, .inl b_11)), (qe, .inl (cE, 2, .inl g_11))] := hD
    refine lv_if_ne (tgt := 29) hx hb dX1_mark_24 (by decide) (fun c_12 => ?_) (fun c_12 => ?_)
    · refine lv_aload_n hx hb dX1_mark_29 rfl (lv_at hl 0 rfl) ?_
      have hPc := hP.sub (ws' := [(qp, .inr (1, [.ref qf])), (qf, .inr (0, [.ref qb, .ref qe, .int od_11, .int ot_11, .int tm_11])), (qb, .inl (cA, 32, .inl b_11)), (qe, .inl (cE, 2, .inl g_11))]) [0, 1, 2, 3] rfl
      have hDc := hD.sub (ws' := [(qp, .inr (1, [.ref qf])), (qf, .inr (0, [.ref qb, .ref qe, .int od_11, .int ot_11, .int tm_11])), (qb, .inl (cA, 32, .inl b_11)), (qe, .inl (cE, 2, .inl g_11))]) [0, 1, 2, 3] (by decide) rfl
      have hKc := hK.sub (tys' := [(cA, .int), (cE, .int)]) [0, 1] rfl
      have hFc := va_free (wc := [(qp, .inr (1, [.ref qf])), (qf, .inr (0, [.ref qb, .ref qe, .int od_11, .int ot_11, .int tm_11])), (qb, .inl (cA, 32, .inl b_11)), (qe, .inl (cE, 2, .inl g_11))]) hD hS hA [0, 1, 2, 3] rfl
      refine va_calli (va_runV (As := []) (rest := []) ⟨hx, hb, hml, hown, hts⟩ (c_P_firstFreeEntry l dC dI cA cE qp qf qb qe H.size b_11 g_11 od_11 ot_11 tm_11) (cwV 0 hts gX1_mark_X1_firstFreeEntry rfl rfl rfl (by decide +kernel) ⟨Nat.le_of_ble_eq_true rfl, Nat.le_of_ble_eq_true rfl⟩) ⟨fun a U g mk q => by obtain ⟨q0, q1, qP, qK, qD⟩ := q; exact ⟨q0, q1, qP, va_K.moved (u := U) (U := U.calling g mk a) (Vm.Alike.refl U.vm) qK, qD⟩, va_recv hKc hPc (ci := 1) (q0 := 0) rfl rfl, fun U hU hW => ⟨rfl, by rw [hU], by rw [hU]; exact hPc, va_K.moved hW.alike hKc, hDc.weaken (fun _ _ _ _ => trivial)⟩⟩ rfl rfl hl.1 rfl (lv_room (Nat.le_of_ble_eq_true rfl)) dX1_mark_30 ⟨(Nat.zero_le _), (Nat.zero_le _)⟩) hS (fun q _ h => hFc q h) hFc (fun r_13 u t H locs ht hvm hw hB hz1 hk1 hS => ?_)
      have hw : tt_fst b_11 = r_13 := hw.symm
      subst hw
      obtain ⟨hP1, hK1, hD1⟩ := hB
      rw [ht] at hP1
      obtain ⟨hP, hD⟩ := va_join (wr := []) (w1 := [(qp, .inr (1, [.ref qf])), (qf, .inr (0, [.ref qb, .ref qe, .int od_11, .int ot_11, .int tm_11])), (qb, .inl (cA, 32, .inl b_11)), (qe, .inl (cE, 2, .inl g_11))]) hP hD [0, 1, 2, 3] [] rfl rfl (by decide) (by decide) hk1 hFc hP1 hD1
      have hP : va_P (dC, dI) ttCl [(qp, .inr (1, [.ref qf])), (qf, .inr (0, [.ref qb, .ref qe, .int od_11, .int ot_11, .int tm_11])), (qb, .inl (cA, 32, .inl b_11)), (qe, .inl (cE, 2, .inl g_11))] H := hP
      have hD : va_D A [(qp, .inr (1, [.ref qf])), (qf, .inr (0, [.ref qb, .ref qe, .int od_11, .int ot_11, .int tm_11])), (qb, .inl (cA, 32, .inl b_11)), (qe, .inl (cE, 2, .inl g_11))] := hD
      refine lv_istore_n (lv' := [(2, .int (tt_fst b_11)), (0, .ref qp), (1, .int v)]) hx hb dX1_mark_33 rfl hl (by decide) rfl (fun ls hl => ?_)
      refine lv_iload_n hx hb dX1_mark_34 rfl (lv_at hl 0 rfl) ?_
      refine lv_iconst (v := (-1)) hx hb dX1_mark_35 (by decide) ?_
      refine lv_icmp_eq (tgt := 59) hx hb dX1_mark_36 (by decide) (fun c_14 => ?_) (fun c_14 => ?_)
      · refine lv_iconst (v := (-1)) hx hb dX1_mark_59 (by decide) ?_
        have hP9 := hP.sub (ws' := [(qp, .inr (1, [.ref qf])), (qf, .inr (0, [.ref qb, .ref qe, .int od_11, .int ot_11, .int tm_11])), (qb, .inl (cA, 32, .inl b_11)), (qe, .inl (cE, 2, .inl g_11))]) [0, 1, 2, 3] rfl
        have hD9 := hD.sub (ws' := [(qp, .inr (1, [.ref qf])), (qf, .inr (0, [.ref qb, .ref qe, .int od_11, .int ot_11, .int tm_11])), (qb, .inl (cA, 32, .inl b_11)), (qe, .inl (cE, 2, .inl g_11))]) [0, 1, 2, 3] (by decide) rfl
        have hK9 := hK.sub (tys' := [(cA, .int), (cE, .int)]) [0, 1] rfl
        exact W.iret (v := (-1)) hx hb hr (fun t ht hW => ⟨⟨(-1), (b_11, g_11, od_11, ot_11, tm_11), rfl, (by first | (simp only [tt_mark, tt_m1, c_2, e_11, c_12, c_14, reduceIte, eq_self]; done) | (simp [tt_mark, tt_m1, c_2, e_11, c_12, c_14]; done)), by rw [ht]; exact hP9, va_K.moved hW.alike hK9, hD9⟩, hS.F ht⟩) hS.2.2 dX1_mark_60
      · refine lv_aload_n hx hb dX1_mark_39 rfl (lv_at hl 1 rfl) ?_
        refine va_get (D := (dC, dI)) (ci := 1) (v := .ref qf) (C := RX1) (T := TX1) (N := 1) hx hb hts (by decide +kernel) hown hK hP 0 rfl rfl 0 (by decide) (hts (.fieldLink RX1 7 "TornTryCounter$Pages" "flash" "LTornTryCounter$Flash;") (by decide +kernel)) (fun _ h9 => h9) rfl dX1_mark_40 ?_
        refine lv_aload_n hx hb dX1_mark_43 rfl (lv_at hl 1 rfl) ?_
        have hPc := hP.sub (ws' := [(qp, .inr (1, [.ref qf])), (qf, .inr (0, [.ref qb, .ref qe, .int od_11, .int ot_11, .int tm_11])), (qb, .inl (cA, 32, .inl b_11)), (qe, .inl (cE, 2, .inl g_11))]) [0, 1, 2, 3] rfl
        have hDc := hD.sub (ws' := [(qp, .inr (1, [.ref qf])), (qf, .inr (0, [.ref qb, .ref qe, .int od_11, .int ot_11, .int tm_11])), (qb, .inl (cA, 32, .inl b_11)), (qe, .inl (cE, 2, .inl g_11))]) [0, 1, 2, 3] (by decide) rfl
        have hKc := hK.sub (tys' := [(cA, .int), (cE, .int)]) [0, 1] rfl
        have hFc := va_free (wc := [(qp, .inr (1, [.ref qf])), (qf, .inr (0, [.ref qb, .ref qe, .int od_11, .int ot_11, .int tm_11])), (qb, .inl (cA, 32, .inl b_11)), (qe, .inl (cE, 2, .inl g_11))]) hD hS hA [0, 1, 2, 3] rfl
        refine va_calli (va_runV (As := []) (rest := [.ref qf]) ⟨hx, hb, hml, hown, hts⟩ (c_P_active l dC dI cA cE qp qf qb qe H.size b_11 g_11 od_11 ot_11 tm_11) (cwV 0 hts gX1_mark_X1_active rfl rfl rfl (by decide +kernel) ⟨Nat.le_of_ble_eq_true rfl, Nat.le_of_ble_eq_true rfl⟩) ⟨fun a U g mk q => by obtain ⟨q0, q1, qP, qK, qD⟩ := q; exact ⟨q0, q1, qP, va_K.moved (u := U) (U := U.calling g mk a) (Vm.Alike.refl U.vm) qK, qD⟩, va_recv hKc hPc (ci := 1) (q0 := 0) rfl rfl, fun U hU hW => ⟨rfl, by rw [hU], by rw [hU]; exact hPc, va_K.moved hW.alike hKc, hDc.weaken (fun _ _ _ _ => trivial)⟩⟩ rfl rfl hl.1 rfl (lv_room (Nat.le_of_ble_eq_true rfl)) dX1_mark_44 ⟨(Nat.zero_le _), (Nat.zero_le _)⟩) hS (fun q _ h => hFc q h) hFc (fun r_15 u t H locs ht hvm hw hB hz1 hk1 hS => ?_)
        have hw : tt_ac b_11 = r_15 := hw.symm
        subst hw
        obtain ⟨hP1, hK1, hD1⟩ := hB
        rw [ht] at hP1
        obtain ⟨hP, hD⟩ := va_join (wr := []) (w1 := [(qp, .inr (1, [.ref qf])), (qf, .inr (0, [.ref qb, .ref qe, .int od_11, .int ot_11, .int tm_11])), (qb, .inl (cA, 32, .inl b_11)), (qe, .inl (cE, 2, .inl g_11))]) hP hD [0, 1, 2, 3] [] rfl rfl (by decide) (by decide) hk1 hFc hP1 hD1
        have hP : va_P (dC, dI) ttCl [(qp, .inr (1, [.ref qf])), (qf, .inr (0, [.ref qb, .ref qe, .int od_11, .int ot_11, .int tm_11])), (qb, .inl (cA, 32, .inl b_11)), (qe, .inl (cE, 2, .inl g_11))] H := hP
        have hD : va_D A [(qp, .inr (1, [.ref qf])), (qf, .inr (0, [.ref qb, .ref qe, .int od_11, .int ot_11, .int tm_11])), (qb, .inl (cA, 32, .inl b_11)), (qe, .inl (cE, 2, .inl g_11))] := hD
        refine lv_iload_n hx hb dX1_mark_47 rfl (lv_at hl 0 rfl) ?_
        refine lv_iload_n hx hb dX1_mark_48 rfl (lv_at hl 2 rfl) ?_
        have hPc := hP.sub (ws' := [(qf, .inr (0, [.ref qb, .ref qe, .int od_11, .int ot_11, .int tm_11])), (qb, .inl (cA, 32, .inl b_11)), (qe, .inl (cE, 2, .inl g_11))]) [1, 2, 3] rfl
        have hDc := hD.sub (ws' := [(qf, .inr (0, [.ref qb, .ref qe, .int od_11, .int ot_11, .int tm_11])), (qb, .inl (cA, 32, .inl b_11)), (qe, .inl (cE, 2, .inl g_11))]) [1, 2, 3] (by decide) rfl
        have hKc := hK.sub (tys' := [(cA, .int), (cE, .int)]) [0, 1] rfl
        have hFc := va_free (wc := [(qf, .inr (0, [.ref qb, .ref qe, .int od_11, .int ot_11, .int tm_11])), (qb, .inl (cA, 32, .inl b_11)), (qe, .inl (cE, 2, .inl g_11))]) hD hS hA [1, 2, 3] rfl
        refine va_calli (va_runV (As := [.int (tt_ac b_11), .int (tt_fst b_11), .int v]) (rest := []) ⟨hx, hb, hml, hown, hts⟩ (c_F_program l dC dI cA cE qf qb qe H.size b_11 g_11 od_11 ot_11 tm_11 (tt_ac b_11) (tt_fst b_11) v) (cwV 3 hts gX1_mark_X0_program rfl rfl rfl (by decide +kernel) ⟨Nat.le_of_ble_eq_true rfl, Nat.le_of_ble_eq_true rfl⟩) ⟨fun a U g mk q => by obtain ⟨q0, q1, qP, qK, qD⟩ := q; exact ⟨q0, q1, qP, va_K.moved (u := U) (U := U.calling g mk a) (Vm.Alike.refl U.vm) qK, qD⟩, va_recv hKc hPc (ci := 0) (q0 := 0) rfl rfl, fun U hU hW => ⟨rfl, by rw [hU], by rw [hU]; exact hPc, va_K.moved hW.alike hKc, hDc.weaken (fun _ _ _ _ => trivial)⟩⟩ rfl rfl hl.1 rfl (lv_room (Nat.le_of_ble_eq_true rfl)) dX1_mark_49 ⟨(Nat.zero_le _), (Nat.zero_le _)⟩) hS (fun q _ h => hFc q h) hFc (fun r_16 u t H locs ht hvm hw hB hz1 hk1 hS => ?_)
        obtain ⟨b_16, g_16, od_16, ot_16, tm_16⟩ := u
        obtain ⟨hP1, hK1, hD1⟩ := hB
        have e_16 : tt_prog (b_11, g_11, od_11, ot_11, tm_11) (tt_ac b_11) (tt_fst b_11) v = (r_16, (b_16, g_16, od_16, ot_16, tm_16)) := hw
        rw [ht] at hP1
        obtain ⟨hP, hD⟩ := va_join (wr := [(qp, .inr (1, [.ref qf]))]) (w1 := [(qf, .inr (0, [.ref qb, .ref qe, .int od_16, .int ot_16, .int tm_16])), (qb, .inl (cA, 32, .inl b_16)), (qe, .inl (cE, 2, .inl g_16))]) hP hD [1, 2, 3] [0] rfl rfl (by decide) (by decide) hk1 hFc hP1 hD1
        have hP : va_P (dC, dI) ttCl [(qp, .inr (1, [.ref qf])), (qf, .inr (0, [.ref qb, .ref qe, .int od_16, .int ot_16, .int tm_16])), (qb, .inl (cA, 32, .inl b_16)), (qe, .inl (cE, 2, .inl g_16))] H := hP
        have hD : va_D A [(qp, .inr (1, [.ref qf])), (qf, .inr (0, [.ref qb, .ref qe, .int od_16, .int ot_16, .int tm_16])), (qb, .inl (cA, 32, .inl b_16)), (qe, .inl (cE, 2, .inl g_16))] := hD
        refine lv_if_eq (tgt := 59) hx hb dX1_mark_52 (by decide) (fun c_17 => ?_) (fun c_17 => ?_)
        · refine lv_iconst (v := (-1)) hx hb dX1_mark_59 (by decide) ?_
          have hP9 := hP.sub (ws' := [(qp, .inr (1, [.ref qf])), (qf, .inr (0, [.ref qb, .ref qe, .int od_16, .int ot_16, .int tm_16])), (qb, .inl (cA, 32, .inl b_16)), (qe, .inl (cE, 2, .inl g_16))]) [0, 1, 2, 3] rfl
          have hD9 := hD.sub (ws' := [(qp, .inr (1, [.ref qf])), (qf, .inr (0, [.ref qb, .ref qe, .int od_16, .int ot_16, .int tm_16])), (qb, .inl (cA, 32, .inl b_16)), (qe, .inl (cE, 2, .inl g_16))]) [0, 1, 2, 3] (by decide) rfl
          have hK9 := hK.sub (tys' := [(cA, .int), (cE, .int)]) [0, 1] rfl
          exact W.iret (v := (-1)) hx hb hr (fun t ht hW => ⟨⟨(-1), (b_16, g_16, od_16, ot_16, tm_16), rfl, (by first | (simp only [tt_mark, tt_m1, c_2, e_11, c_12, c_14, e_16, c_17, reduceIte, eq_self]; done) | (simp [tt_mark, tt_m1, c_2, e_11, c_12, c_14, e_16, c_17]; done)), by rw [ht]; exact hP9, va_K.moved hW.alike hK9, hD9⟩, hS.F ht⟩) hS.2.2 dX1_mark_60
        · refine lv_iload_n hx hb dX1_mark_55 rfl (lv_at hl 0 rfl) ?_
          refine lv_goto (tgt := 60) hx hb dX1_mark_56 (by decide) ?_
          have hP9 := hP.sub (ws' := [(qp, .inr (1, [.ref qf])), (qf, .inr (0, [.ref qb, .ref qe, .int od_16, .int ot_16, .int tm_16])), (qb, .inl (cA, 32, .inl b_16)), (qe, .inl (cE, 2, .inl g_16))]) [0, 1, 2, 3] rfl
          have hD9 := hD.sub (ws' := [(qp, .inr (1, [.ref qf])), (qf, .inr (0, [.ref qb, .ref qe, .int od_16, .int ot_16, .int tm_16])), (qb, .inl (cA, 32, .inl b_16)), (qe, .inl (cE, 2, .inl g_16))]) [0, 1, 2, 3] (by decide) rfl
          have hK9 := hK.sub (tys' := [(cA, .int), (cE, .int)]) [0, 1] rfl
          exact W.iret (v := tt_fst b_11) hx hb hr (fun t ht hW => ⟨⟨tt_fst b_11, (b_16, g_16, od_16, ot_16, tm_16), rfl, (by first | (simp only [tt_mark, tt_m1, c_2, e_11, c_12, c_14, e_16, c_17, reduceIte, eq_self]; done) | (simp [tt_mark, tt_m1, c_2, e_11, c_12, c_14, e_16, c_17]; done)), by rw [ht]; exact hP9, va_K.moved hW.alike hK9, hD9⟩, hS.F ht⟩) hS.2.2 dX1_mark_60
    · refine lv_iconst (v := (-1)) hx hb dX1_mark_27 (by decide) ?_
      have hP9 := hP.sub (ws' := [(qp, .inr (1, [.ref qf])), (qf, .inr (0, [.ref qb, .ref qe, .int od_11, .int ot_11, .int tm_11])), (qb, .inl (cA, 32, .inl b_11)), (qe, .inl (cE, 2, .inl g_11))]) [0, 1, 2, 3] rfl
      have hD9 := hD.sub (ws' := [(qp, .inr (1, [.ref qf])), (qf, .inr (0, [.ref qb, .ref qe, .int od_11, .int ot_11, .int tm_11])), (qb, .inl (cA, 32, .inl b_11)), (qe, .inl (cE, 2, .inl g_11))]) [0, 1, 2, 3] (by decide) rfl
      have hK9 := hK.sub (tys' := [(cA, .int), (cE, .int)]) [0, 1] rfl
      exact W.iret (v := (-1)) hx hb hr (fun t ht hW => ⟨⟨(-1), (b_11, g_11, od_11, ot_11, tm_11), rfl, (by first | (simp only [tt_mark, tt_m1, c_2, e_11, c_12, reduceIte, eq_self]; done) | (simp [tt_mark, tt_m1, c_2, e_11, c_12]; done)), by rw [ht]; exact hP9, va_K.moved hW.alike hK9, hD9⟩, hS.F ht⟩) hS.2.2 dX1_mark_28
end
