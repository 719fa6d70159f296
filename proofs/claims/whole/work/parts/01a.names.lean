-- ===== PART A: goes FIRST, ahead of the names: the tables' words, and 'selects' of the private methods out of them =====
/-- a private method of a class that the tables say can be made, by its rows of tables_1 -/
def lw_okq (q : MethodName × Nat) : Prop := (q.1.cls ≠ "java/lang/invoke/MethodHandle" ∧ q.1.cls ≠ "java/lang/invoke/VarHandle") ∧ Cond.instantiable q.1.cls q.2 ∈ tables_1 ∧ Cond.privateMethod q.1 ∈ tables_1 ∧ Cond.instanceMethod q.1 ∈ tables_1
theorem lw_p0 : lw_okq (⟨"ProcessTurns", "startLeastFree", "(III)I"⟩, 8) := ⟨⟨by decide +kernel, by decide +kernel⟩, List.mem_of_getElem? (i := 9) (by decide +kernel), List.mem_of_getElem? (i := 177) (by decide +kernel), List.mem_of_getElem? (i := 178) (by decide +kernel)⟩
theorem lw_p1 : lw_okq (⟨"ProcessTurns", "leastFree", "()LProcessTurns$Proc;"⟩, 8) := ⟨⟨by decide +kernel, by decide +kernel⟩, List.mem_of_getElem? (i := 9) (by decide +kernel), List.mem_of_getElem? (i := 181) (by decide +kernel), List.mem_of_getElem? (i := 182) (by decide +kernel)⟩
theorem lw_p2 : lw_okq (⟨"ProcessTurns", "becomeReady", "(LProcessTurns$Proc;)V"⟩, 8) := ⟨⟨by decide +kernel, by decide +kernel⟩, List.mem_of_getElem? (i := 9) (by decide +kernel), List.mem_of_getElem? (i := 189) (by decide +kernel), List.mem_of_getElem? (i := 190) (by decide +kernel)⟩
theorem lw_p3 : lw_okq (⟨"ProcessTurns", "rowOf", "(I)LProcessTurns$Row;"⟩, 8) := ⟨⟨by decide +kernel, by decide +kernel⟩, List.mem_of_getElem? (i := 9) (by decide +kernel), List.mem_of_getElem? (i := 193) (by decide +kernel), List.mem_of_getElem? (i := 194) (by decide +kernel)⟩
theorem lw_p4 : lw_okq (⟨"ProcessTurns", "step", "()Z"⟩, 8) := ⟨⟨by decide +kernel, by decide +kernel⟩, List.mem_of_getElem? (i := 9) (by decide +kernel), List.mem_of_getElem? (i := 205) (by decide +kernel), List.mem_of_getElem? (i := 206) (by decide +kernel)⟩
theorem lw_p5 : lw_okq (⟨"ProcessTurns", "wakeThoseWhoseTimeHasCome", "()V"⟩, 8) := ⟨⟨by decide +kernel, by decide +kernel⟩, List.mem_of_getElem? (i := 9) (by decide +kernel), List.mem_of_getElem? (i := 209) (by decide +kernel), List.mem_of_getElem? (i := 210) (by decide +kernel)⟩
theorem lw_p6 : lw_okq (⟨"ProcessTurns", "hasCome", "(I)Z"⟩, 8) := ⟨⟨by decide +kernel, by decide +kernel⟩, List.mem_of_getElem? (i := 9) (by decide +kernel), List.mem_of_getElem? (i := 213) (by decide +kernel), List.mem_of_getElem? (i := 214) (by decide +kernel)⟩
theorem lw_p7 : lw_okq (⟨"ProcessTurns", "giveWayToHigh", "()V"⟩, 8) := ⟨⟨by decide +kernel, by decide +kernel⟩, List.mem_of_getElem? (i := 9) (by decide +kernel), List.mem_of_getElem? (i := 217) (by decide +kernel), List.mem_of_getElem? (i := 218) (by decide +kernel)⟩
theorem lw_p8 : lw_okq (⟨"ProcessTurns", "takeNext", "()V"⟩, 8) := ⟨⟨by decide +kernel, by decide +kernel⟩, List.mem_of_getElem? (i := 9) (by decide +kernel), List.mem_of_getElem? (i := 225) (by decide +kernel), List.mem_of_getElem? (i := 226) (by decide +kernel)⟩
theorem lw_p9 : lw_okq (⟨"ProcessTurns", "execute", "(LProcessTurns$Proc;)V"⟩, 8) := ⟨⟨by decide +kernel, by decide +kernel⟩, List.mem_of_getElem? (i := 9) (by decide +kernel), List.mem_of_getElem? (i := 233) (by decide +kernel), List.mem_of_getElem? (i := 234) (by decide +kernel)⟩
theorem lw_p10 : lw_okq (⟨"ProcessTurns", "jump", "(LProcessTurns$Proc;I)V"⟩, 8) := ⟨⟨by decide +kernel, by decide +kernel⟩, List.mem_of_getElem? (i := 9) (by decide +kernel), List.mem_of_getElem? (i := 249) (by decide +kernel), List.mem_of_getElem? (i := 250) (by decide +kernel)⟩
theorem lw_p11 : lw_okq (⟨"ProcessTurns", "jumpIfZero", "(LProcessTurns$Proc;I)V"⟩, 8) := ⟨⟨by decide +kernel, by decide +kernel⟩, List.mem_of_getElem? (i := 9) (by decide +kernel), List.mem_of_getElem? (i := 253) (by decide +kernel), List.mem_of_getElem? (i := 254) (by decide +kernel)⟩
theorem lw_p12 : lw_okq (⟨"ProcessTurns", "channelAt", "(I)LProcessTurns$Channel;"⟩, 8) := ⟨⟨by decide +kernel, by decide +kernel⟩, List.mem_of_getElem? (i := 9) (by decide +kernel), List.mem_of_getElem? (i := 261) (by decide +kernel), List.mem_of_getElem? (i := 262) (by decide +kernel)⟩
theorem lw_p13 : lw_okq (⟨"ProcessTurns", "send", "(LProcessTurns$Proc;LProcessTurns$Channel;)V"⟩, 8) := ⟨⟨by decide +kernel, by decide +kernel⟩, List.mem_of_getElem? (i := 9) (by decide +kernel), List.mem_of_getElem? (i := 265) (by decide +kernel), List.mem_of_getElem? (i := 266) (by decide +kernel)⟩
theorem lw_p14 : lw_okq (⟨"ProcessTurns", "deliver", "(ILProcessTurns$Proc;LProcessTurns$Proc;I)V"⟩, 8) := ⟨⟨by decide +kernel, by decide +kernel⟩, List.mem_of_getElem? (i := 9) (by decide +kernel), List.mem_of_getElem? (i := 281) (by decide +kernel), List.mem_of_getElem? (i := 282) (by decide +kernel)⟩
theorem lw_p15 : lw_okq (⟨"ProcessTurns", "receive", "(LProcessTurns$Proc;LProcessTurns$Channel;)V"⟩, 8) := ⟨⟨by decide +kernel, by decide +kernel⟩, List.mem_of_getElem? (i := 9) (by decide +kernel), List.mem_of_getElem? (i := 296) (by decide +kernel), List.mem_of_getElem? (i := 297) (by decide +kernel)⟩
def lw_privs_1 : List (MethodName × Nat) := [(⟨"ProcessTurns", "startLeastFree", "(III)I"⟩, 8), (⟨"ProcessTurns", "leastFree", "()LProcessTurns$Proc;"⟩, 8), (⟨"ProcessTurns", "becomeReady", "(LProcessTurns$Proc;)V"⟩, 8), (⟨"ProcessTurns", "rowOf", "(I)LProcessTurns$Row;"⟩, 8), (⟨"ProcessTurns", "step", "()Z"⟩, 8), (⟨"ProcessTurns", "wakeThoseWhoseTimeHasCome", "()V"⟩, 8), (⟨"ProcessTurns", "hasCome", "(I)Z"⟩, 8), (⟨"ProcessTurns", "giveWayToHigh", "()V"⟩, 8), (⟨"ProcessTurns", "takeNext", "()V"⟩, 8), (⟨"ProcessTurns", "execute", "(LProcessTurns$Proc;)V"⟩, 8), (⟨"ProcessTurns", "jump", "(LProcessTurns$Proc;I)V"⟩, 8), (⟨"ProcessTurns", "jumpIfZero", "(LProcessTurns$Proc;I)V"⟩, 8), (⟨"ProcessTurns", "channelAt", "(I)LProcessTurns$Channel;"⟩, 8), (⟨"ProcessTurns", "send", "(LProcessTurns$Proc;LProcessTurns$Channel;)V"⟩, 8), (⟨"ProcessTurns", "deliver", "(ILProcessTurns$Proc;LProcessTurns$Proc;I)V"⟩, 8), (⟨"ProcessTurns", "receive", "(LProcessTurns$Proc;LProcessTurns$Channel;)V"⟩, 8)]
theorem lw_r1 : ∀ q ∈ lw_privs_1, lw_okq q := List.forall_mem_cons.mpr ⟨lw_p0, List.forall_mem_cons.mpr ⟨lw_p1, List.forall_mem_cons.mpr ⟨lw_p2, List.forall_mem_cons.mpr ⟨lw_p3, List.forall_mem_cons.mpr ⟨lw_p4, List.forall_mem_cons.mpr ⟨lw_p5, List.forall_mem_cons.mpr ⟨lw_p6, List.forall_mem_cons.mpr ⟨lw_p7, List.forall_mem_cons.mpr ⟨lw_p8, List.forall_mem_cons.mpr ⟨lw_p9, List.forall_mem_cons.mpr ⟨lw_p10, List.forall_mem_cons.mpr ⟨lw_p11, List.forall_mem_cons.mpr ⟨lw_p12, List.forall_mem_cons.mpr ⟨lw_p13, List.forall_mem_cons.mpr ⟨lw_p14, List.forall_mem_cons.mpr ⟨lw_p15, fun _ h => absurd h List.not_mem_nil⟩⟩⟩⟩⟩⟩⟩⟩⟩⟩⟩⟩⟩⟩⟩⟩
theorem lw_p16 : lw_okq (⟨"ProcessTurns", "awaitTime", "(LProcessTurns$Proc;)V"⟩, 8) := ⟨⟨by decide +kernel, by decide +kernel⟩, List.mem_of_getElem? (i := 9) (by decide +kernel), List.mem_of_getElem? (i := 304) (by decide +kernel), List.mem_of_getElem? (i := 305) (by decide +kernel)⟩
theorem lw_p17 : lw_okq (⟨"ProcessTurns", "compute", "(LProcessTurns$Proc;II)V"⟩, 8) := ⟨⟨by decide +kernel, by decide +kernel⟩, List.mem_of_getElem? (i := 9) (by decide +kernel), List.mem_of_getElem? (i := 308) (by decide +kernel), List.mem_of_getElem? (i := 309) (by decide +kernel)⟩
theorem lw_p18 : lw_okq (⟨"ProcessTurnsModel", "begin", "(III)I"⟩, 16) := ⟨⟨by decide +kernel, by decide +kernel⟩, List.mem_of_getElem? (i := 391) (by decide +kernel), List.mem_of_getElem? (i := 457) (by decide +kernel), List.mem_of_getElem? (i := 458) (by decide +kernel)⟩
theorem lw_p19 : lw_okq (⟨"ProcessTurnsModel", "atEnd", "(I)V"⟩, 16) := ⟨⟨by decide +kernel, by decide +kernel⟩, List.mem_of_getElem? (i := 391) (by decide +kernel), List.mem_of_getElem? (i := 461) (by decide +kernel), List.mem_of_getElem? (i := 462) (by decide +kernel)⟩
theorem lw_p20 : lw_okq (⟨"ProcessTurnsModel", "step", "()Z"⟩, 16) := ⟨⟨by decide +kernel, by decide +kernel⟩, List.mem_of_getElem? (i := 391) (by decide +kernel), List.mem_of_getElem? (i := 477) (by decide +kernel), List.mem_of_getElem? (i := 478) (by decide +kernel)⟩
theorem lw_p21 : lw_okq (⟨"ProcessTurnsModel", "current", "()I"⟩, 16) := ⟨⟨by decide +kernel, by decide +kernel⟩, List.mem_of_getElem? (i := 391) (by decide +kernel), List.mem_of_getElem? (i := 481) (by decide +kernel), List.mem_of_getElem? (i := 482) (by decide +kernel)⟩
theorem lw_p22 : lw_okq (⟨"ProcessTurnsModel", "ready", "(II)I"⟩, 16) := ⟨⟨by decide +kernel, by decide +kernel⟩, List.mem_of_getElem? (i := 391) (by decide +kernel), List.mem_of_getElem? (i := 485) (by decide +kernel), List.mem_of_getElem? (i := 486) (by decide +kernel)⟩
theorem lw_p23 : lw_okq (⟨"ProcessTurnsModel", "instruction", "(I)V"⟩, 16) := ⟨⟨by decide +kernel, by decide +kernel⟩, List.mem_of_getElem? (i := 391) (by decide +kernel), List.mem_of_getElem? (i := 489) (by decide +kernel), List.mem_of_getElem? (i := 490) (by decide +kernel)⟩
theorem lw_p24 : lw_okq (⟨"ProcessTurnsModel", "push", "(II)V"⟩, 16) := ⟨⟨by decide +kernel, by decide +kernel⟩, List.mem_of_getElem? (i := 391) (by decide +kernel), List.mem_of_getElem? (i := 493) (by decide +kernel), List.mem_of_getElem? (i := 494) (by decide +kernel)⟩
theorem lw_p25 : lw_okq (⟨"ProcessTurnsModel", "pull", "(I)V"⟩, 16) := ⟨⟨by decide +kernel, by decide +kernel⟩, List.mem_of_getElem? (i := 391) (by decide +kernel), List.mem_of_getElem? (i := 497) (by decide +kernel), List.mem_of_getElem? (i := 498) (by decide +kernel)⟩
theorem lw_p26 : lw_okq (⟨"ProcessTurnsModel", "send", "(II)V"⟩, 16) := ⟨⟨by decide +kernel, by decide +kernel⟩, List.mem_of_getElem? (i := 391) (by decide +kernel), List.mem_of_getElem? (i := 504) (by decide +kernel), List.mem_of_getElem? (i := 505) (by decide +kernel)⟩
theorem lw_p27 : lw_okq (⟨"ProcessTurnsModel", "tell", "(IIII)V"⟩, 16) := ⟨⟨by decide +kernel, by decide +kernel⟩, List.mem_of_getElem? (i := 391) (by decide +kernel), List.mem_of_getElem? (i := 508) (by decide +kernel), List.mem_of_getElem? (i := 509) (by decide +kernel)⟩
theorem lw_p28 : lw_okq (⟨"ProcessTurnsModel", "receive", "(II)V"⟩, 16) := ⟨⟨by decide +kernel, by decide +kernel⟩, List.mem_of_getElem? (i := 391) (by decide +kernel), List.mem_of_getElem? (i := 512) (by decide +kernel), List.mem_of_getElem? (i := 513) (by decide +kernel)⟩
def lw_privs_2 : List (MethodName × Nat) := [(⟨"ProcessTurns", "awaitTime", "(LProcessTurns$Proc;)V"⟩, 8), (⟨"ProcessTurns", "compute", "(LProcessTurns$Proc;II)V"⟩, 8), (⟨"ProcessTurnsModel", "begin", "(III)I"⟩, 16), (⟨"ProcessTurnsModel", "atEnd", "(I)V"⟩, 16), (⟨"ProcessTurnsModel", "step", "()Z"⟩, 16), (⟨"ProcessTurnsModel", "current", "()I"⟩, 16), (⟨"ProcessTurnsModel", "ready", "(II)I"⟩, 16), (⟨"ProcessTurnsModel", "instruction", "(I)V"⟩, 16), (⟨"ProcessTurnsModel", "push", "(II)V"⟩, 16), (⟨"ProcessTurnsModel", "pull", "(I)V"⟩, 16), (⟨"ProcessTurnsModel", "send", "(II)V"⟩, 16), (⟨"ProcessTurnsModel", "tell", "(IIII)V"⟩, 16), (⟨"ProcessTurnsModel", "receive", "(II)V"⟩, 16)]
theorem lw_r2 : ∀ q ∈ lw_privs_2, lw_okq q := List.forall_mem_cons.mpr ⟨lw_p16, List.forall_mem_cons.mpr ⟨lw_p17, List.forall_mem_cons.mpr ⟨lw_p18, List.forall_mem_cons.mpr ⟨lw_p19, List.forall_mem_cons.mpr ⟨lw_p20, List.forall_mem_cons.mpr ⟨lw_p21, List.forall_mem_cons.mpr ⟨lw_p22, List.forall_mem_cons.mpr ⟨lw_p23, List.forall_mem_cons.mpr ⟨lw_p24, List.forall_mem_cons.mpr ⟨lw_p25, List.forall_mem_cons.mpr ⟨lw_p26, List.forall_mem_cons.mpr ⟨lw_p27, List.forall_mem_cons.mpr ⟨lw_p28, fun _ h => absurd h List.not_mem_nil⟩⟩⟩⟩⟩⟩⟩⟩⟩⟩⟩⟩⟩
def lw_privs : List (MethodName × Nat) := lw_privs_1 ++ (lw_privs_2)
def lw_tbl : List Cond := k2_sels lw_privs ++ tables_1
theorem lw_privs_ok : ∀ q ∈ lw_privs, lw_okq q := by
  show ∀ q ∈ lw_privs_1 ++ (lw_privs_2), lw_okq q
  exact List.forall_mem_append.mpr ⟨lw_r1, lw_r2⟩

/-! ===== BEGIN words of one list among another's, by their places ===== -/
theorem goodIn_r {big : List Cond} (ws : List Cond) (ps : List Nat) (hp : ws = ps.filterMap (fun i => big[i]?)) (h : ws.all goodWord = true) : GoodIn big ws := by
  intro w hw
  have h1 := List.all_eq_true.mp h w hw
  rw [hp] at hw
  obtain ⟨i, -, hi⟩ := List.mem_filterMap.mp hw
  have hm : w ∈ big := by first | exact List.mem_of_getElem? hi | exact List.getElem?_mem hi
  exact ⟨hm, good_of_word h1⟩
theorem goodIn_app {big a b : List Cond} (ha : GoodIn big a) (hb : GoodIn big b) : GoodIn big (a ++ b) := fun w h => (List.mem_append.mp h).elim (ha w) (hb w)
theorem goodIn_ca {big a b : List Cond} {c : Cond} (ha : GoodIn big (c :: a)) (hb : GoodIn big b) : GoodIn big (c :: (a ++ b)) := fun w h => (List.mem_cons.mp h).elim (fun e => ha w (List.mem_cons.mpr (Or.inl e))) (fun h => (List.mem_append.mp h).elim (fun h => ha w (List.mem_cons.mpr (Or.inr h))) (hb w))
theorem goodIn_sub {big ws : List Cond} (hm : ∀ w ∈ ws, w ∈ big) (h : ws.all goodWord = true) : GoodIn big ws := fun w hw => ⟨hm w hw, good_of_word (List.all_eq_true.mp h w hw)⟩
/-! ===== END ===== -/

/-! ===== BEGIN printed: names, fields, word lists, decode rows ===== -/
def RX0 : String := "ProcessTurns$Channel"
def TX0 : u_T := fun k => match k with
  | 0 => ("ProcessTurns$Channel", "number", "I", true)
  | 1 => ("ProcessTurns$Channel", "waiter", "LProcessTurns$Proc;", false)
  | 2 => ("ProcessTurns$Channel", "waiterSends", "Z", false)
  | _ => ("ProcessTurns$Channel", "message", "I", false)
def tyX0 : Nat → FieldType := fun k => match k with
  | 0 => .int
  | 1 => .object "ProcessTurns$Proc"
  | 2 => .boolean
  | _ => .int
abbrev wsX00 : List Cond := u_ws RX0 TX0 4
theorem nmX0 : ∀ a, a < 4 → ∀ b, b < 4 → a ≠ b → (TX0 a).2.1 ≠ (TX0 b).2.1 := by decide +kernel
theorem tyX0_ok : ∀ k, k < 4 → parseFieldDescriptor (TX0 k).2.2.1 = some (tyX0 k) := by decide +kernel
abbrev cX0_init : ByteArray := prog_2_method_1_code
def yX0_init : MethodName := ⟨RX0, "<init>", "(I)V"⟩
abbrev cX0_clear : ByteArray := prog_2_method_2_code
def yX0_clear : MethodName := ⟨RX0, "clear", "()V"⟩
abbrev cX0_hold : ByteArray := prog_2_method_3_code
def yX0_hold : MethodName := ⟨RX0, "hold", "(LProcessTurns$Proc;ZI)V"⟩
abbrev cX0_hasSender : ByteArray := prog_2_method_4_code
def yX0_hasSender : MethodName := ⟨RX0, "hasSender", "()Z"⟩
abbrev cX0_hasReceiver : ByteArray := prog_2_method_5_code
def yX0_hasReceiver : MethodName := ⟨RX0, "hasReceiver", "()Z"⟩
abbrev cX0_code : ByteArray := prog_2_method_6_code
def yX0_code : MethodName := ⟨RX0, "code", "()I"⟩
def RX1 : String := "ProcessTurns$Log"
def TX1 : u_T := fun k => match k with
  | 0 => ("ProcessTurns$Log", "parts", "[I", true)
  | _ => ("ProcessTurns$Log", "count", "I", false)
def tyX1 : Nat → FieldType := fun k => match k with
  | 0 => .array .int
  | _ => .int
abbrev wsX10 : List Cond := u_ws RX1 TX1 2
theorem nmX1 : ∀ a, a < 2 → ∀ b, b < 2 → a ≠ b → (TX1 a).2.1 ≠ (TX1 b).2.1 := by decide +kernel
theorem tyX1_ok : ∀ k, k < 2 → parseFieldDescriptor (TX1 k).2.2.1 = some (tyX1 k) := by decide +kernel
abbrev cX1_init : ByteArray := prog_3_method_1_code
def yX1_init : MethodName := ⟨RX1, "<init>", "()V"⟩
abbrev cX1_roomOf : ByteArray := prog_3_method_2_code
def yX1_roomOf : MethodName := ⟨RX1, "roomOf", "(I)I"⟩
abbrev cX1_append : ByteArray := prog_3_method_3_code
def yX1_append : MethodName := ⟨RX1, "append", "(IIIII)V"⟩
abbrev cX1_part : ByteArray := prog_3_method_4_code
def yX1_part : MethodName := ⟨RX1, "part", "(II)J"⟩
def RX2 : String := "ProcessTurns$Proc"
def TX2 : u_T := fun k => match k with
  | 0 => ("ProcessTurns$Proc", "number", "I", true)
  | 1 => ("ProcessTurns$Proc", "words", "[I", true)
  | 2 => ("ProcessTurns$Proc", "state", "I", false)
  | 3 => ("ProcessTurns$Proc", "priority", "I", false)
  | 4 => ("ProcessTurns$Proc", "place", "I", false)
  | 5 => ("ProcessTurns$Proc", "a", "I", false)
  | 6 => ("ProcessTurns$Proc", "b", "I", false)
  | 7 => ("ProcessTurns$Proc", "c", "I", false)
  | 8 => ("ProcessTurns$Proc", "wakeTime", "I", false)
  | _ => ("ProcessTurns$Proc", "done", "I", false)
def tyX2 : Nat → FieldType := fun k => match k with
  | 0 => .int
  | 1 => .array .int
  | 2 => .int
  | 3 => .int
  | 4 => .int
  | 5 => .int
  | 6 => .int
  | 7 => .int
  | 8 => .int
  | _ => .int
abbrev wsX20 : List Cond := u_ws RX2 TX2 10
theorem nmX2 : ∀ a, a < 10 → ∀ b, b < 10 → a ≠ b → (TX2 a).2.1 ≠ (TX2 b).2.1 := by decide +kernel
theorem tyX2_ok : ∀ k, k < 10 → parseFieldDescriptor (TX2 k).2.2.1 = some (tyX2 k) := by decide +kernel
abbrev cX2_init : ByteArray := prog_4_method_1_code
def yX2_init : MethodName := ⟨RX2, "<init>", "(I)V"⟩
abbrev cX2_begin : ByteArray := prog_4_method_2_code
def yX2_begin : MethodName := ⟨RX2, "begin", "(III)V"⟩
abbrev cX2_put : ByteArray := prog_4_method_3_code
def yX2_put : MethodName := ⟨RX2, "put", "(I)V"⟩
abbrev cX2_drop : ByteArray := prog_4_method_4_code
def yX2_drop : MethodName := ⟨RX2, "drop", "()V"⟩
abbrev cX2_replaceTwo : ByteArray := prog_4_method_5_code
def yX2_replaceTwo : MethodName := ⟨RX2, "replaceTwo", "(I)V"⟩
abbrev cX2_word : ByteArray := prog_4_method_6_code
def yX2_word : MethodName := ⟨RX2, "word", "(I)I"⟩
abbrev cX2_setWord : ByteArray := prog_4_method_7_code
def yX2_setWord : MethodName := ⟨RX2, "setWord", "(II)V"⟩
abbrev cX2_part : ByteArray := prog_4_method_8_code
def yX2_part : MethodName := ⟨RX2, "part", "(I)J"⟩
def RX3 : String := "ProcessTurns$Program"
def TX3 : u_T := fun k => match k with
  | 0 => ("ProcessTurns$Program", "ops", "[I", true)
  | 1 => ("ProcessTurns$Program", "operands", "[I", true)
  | _ => ("ProcessTurns$Program", "size", "I", false)
def tyX3 : Nat → FieldType := fun k => match k with
  | 0 => .array .int
  | 1 => .array .int
  | _ => .int
abbrev wsX30 : List Cond := u_ws RX3 TX3 3
theorem nmX3 : ∀ a, a < 3 → ∀ b, b < 3 → a ≠ b → (TX3 a).2.1 ≠ (TX3 b).2.1 := by decide +kernel
theorem tyX3_ok : ∀ k, k < 3 → parseFieldDescriptor (TX3 k).2.2.1 = some (tyX3 k) := by decide +kernel
abbrev cX3_init : ByteArray := prog_5_method_1_code
def yX3_init : MethodName := ⟨RX3, "<init>", "()V"⟩
abbrev cX3_append : ByteArray := prog_5_method_2_code
def yX3_append : MethodName := ⟨RX3, "append", "(II)I"⟩
abbrev cX3_holds : ByteArray := prog_5_method_3_code
def yX3_holds : MethodName := ⟨RX3, "holds", "(I)Z"⟩
abbrev cX3_opAt : ByteArray := prog_5_method_4_code
def yX3_opAt : MethodName := ⟨RX3, "opAt", "(I)I"⟩
abbrev cX3_operandAt : ByteArray := prog_5_method_5_code
def yX3_operandAt : MethodName := ⟨RX3, "operandAt", "(I)I"⟩
def RX4 : String := "ProcessTurns$Row"
def TX4 : u_T := fun k => match k with
  | 0 => ("ProcessTurns$Row", "members", "[LProcessTurns$Proc;", true)
  | _ => ("ProcessTurns$Row", "size", "I", false)
def tyX4 : Nat → FieldType := fun k => match k with
  | 0 => .array (.object "ProcessTurns$Proc")
  | _ => .int
abbrev wsX40 : List Cond := u_ws RX4 TX4 2
theorem nmX4 : ∀ a, a < 2 → ∀ b, b < 2 → a ≠ b → (TX4 a).2.1 ≠ (TX4 b).2.1 := by decide +kernel
theorem tyX4_ok : ∀ k, k < 2 → parseFieldDescriptor (TX4 k).2.2.1 = some (tyX4 k) := by decide +kernel
abbrev cX4_init : ByteArray := prog_6_method_1_code
def yX4_init : MethodName := ⟨RX4, "<init>", "()V"⟩
abbrev cX4_clear : ByteArray := prog_6_method_2_code
def yX4_clear : MethodName := ⟨RX4, "clear", "()V"⟩
abbrev cX4_putLast : ByteArray := prog_6_method_3_code
def yX4_putLast : MethodName := ⟨RX4, "putLast", "(LProcessTurns$Proc;)V"⟩
abbrev cX4_putFirst : ByteArray := prog_6_method_4_code
def yX4_putFirst : MethodName := ⟨RX4, "putFirst", "(LProcessTurns$Proc;)V"⟩
abbrev cX4_takeFirst : ByteArray := prog_6_method_5_code
def yX4_takeFirst : MethodName := ⟨RX4, "takeFirst", "()LProcessTurns$Proc;"⟩
abbrev cX4_numberAt : ByteArray := prog_6_method_6_code
def yX4_numberAt : MethodName := ⟨RX4, "numberAt", "(I)I"⟩
def RX5 : String := "ProcessTurns"
def TX5 : u_T := fun k => match k with
  | 0 => ("ProcessTurns", "program", "LProcessTurns$Program;", true)
  | 1 => ("ProcessTurns", "processes", "[LProcessTurns$Proc;", true)
  | 2 => ("ProcessTurns", "channels", "[LProcessTurns$Channel;", true)
  | 3 => ("ProcessTurns", "highRow", "LProcessTurns$Row;", true)
  | 4 => ("ProcessTurns", "lowRow", "LProcessTurns$Row;", true)
  | 5 => ("ProcessTurns", "log", "LProcessTurns$Log;", true)
  | 6 => ("ProcessTurns", "active", "LProcessTurns$Proc;", false)
  | _ => ("ProcessTurns", "time", "I", false)
def tyX5 : Nat → FieldType := fun k => match k with
  | 0 => .object "ProcessTurns$Program"
  | 1 => .array (.object "ProcessTurns$Proc")
  | 2 => .array (.object "ProcessTurns$Channel")
  | 3 => .object "ProcessTurns$Row"
  | 4 => .object "ProcessTurns$Row"
  | 5 => .object "ProcessTurns$Log"
  | 6 => .object "ProcessTurns$Proc"
  | _ => .int
abbrev wsX50 : List Cond := u_ws RX5 TX5 8
theorem nmX5 : ∀ a, a < 8 → ∀ b, b < 8 → a ≠ b → (TX5 a).2.1 ≠ (TX5 b).2.1 := by decide +kernel
theorem tyX5_ok : ∀ k, k < 8 → parseFieldDescriptor (TX5 k).2.2.1 = some (tyX5 k) := by decide +kernel
abbrev cX5_init : ByteArray := prog_1_method_1_code
def yX5_init : MethodName := ⟨RX5, "<init>", "()V"⟩
abbrev cX5_add : ByteArray := prog_1_method_2_code
def yX5_add : MethodName := ⟨RX5, "add", "(II)I"⟩
abbrev cX5_start : ByteArray := prog_1_method_3_code
def yX5_start : MethodName := ⟨RX5, "start", "(III)I"⟩
abbrev cX5_run : ByteArray := prog_1_method_4_code
def yX5_run : MethodName := ⟨RX5, "run", "(I)I"⟩
abbrev cX5_setClock : ByteArray := prog_1_method_5_code
def yX5_setClock : MethodName := ⟨RX5, "setClock", "(I)V"⟩
abbrev cX5_reset : ByteArray := prog_1_method_6_code
def yX5_reset : MethodName := ⟨RX5, "reset", "()V"⟩
abbrev cX5_clock : ByteArray := prog_1_method_7_code
def yX5_clock : MethodName := ⟨RX5, "clock", "()I"⟩
abbrev cX5_running : ByteArray := prog_1_method_8_code
def yX5_running : MethodName := ⟨RX5, "running", "()I"⟩
abbrev cX5_state : ByteArray := prog_1_method_9_code
def yX5_state : MethodName := ⟨RX5, "state", "(I)I"⟩
abbrev cX5_look : ByteArray := prog_1_method_10_code
def yX5_look : MethodName := ⟨RX5, "look", "(II)J"⟩
abbrev cX5_waiting : ByteArray := prog_1_method_11_code
def yX5_waiting : MethodName := ⟨RX5, "waiting", "(II)I"⟩
abbrev cX5_channel : ByteArray := prog_1_method_12_code
def yX5_channel : MethodName := ⟨RX5, "channel", "(I)I"⟩
abbrev cX5_messages : ByteArray := prog_1_method_13_code
def yX5_messages : MethodName := ⟨RX5, "messages", "()I"⟩
abbrev cX5_message : ByteArray := prog_1_method_14_code
def yX5_message : MethodName := ⟨RX5, "message", "(II)J"⟩
abbrev cX5_isPriority : ByteArray := prog_1_method_15_code
def yX5_isPriority : MethodName := ⟨RX5, "isPriority", "(I)Z"⟩
abbrev cX5_isProcess : ByteArray := prog_1_method_16_code
def yX5_isProcess : MethodName := ⟨RX5, "isProcess", "(I)Z"⟩
abbrev cX5_isOperand : ByteArray := prog_1_method_17_code
def yX5_isOperand : MethodName := ⟨RX5, "isOperand", "(II)Z"⟩
abbrev cX5_rowOf : ByteArray := prog_1_method_18_code
def yX5_rowOf : MethodName := ⟨RX5, "rowOf", "(I)LProcessTurns$Row;"⟩
abbrev cX5_channelAt : ByteArray := prog_1_method_19_code
def yX5_channelAt : MethodName := ⟨RX5, "channelAt", "(I)LProcessTurns$Channel;"⟩
abbrev cX5_leastFree : ByteArray := prog_1_method_20_code
def yX5_leastFree : MethodName := ⟨RX5, "leastFree", "()LProcessTurns$Proc;"⟩
abbrev cX5_startLeastFree : ByteArray := prog_1_method_21_code
def yX5_startLeastFree : MethodName := ⟨RX5, "startLeastFree", "(III)I"⟩
abbrev cX5_becomeReady : ByteArray := prog_1_method_22_code
def yX5_becomeReady : MethodName := ⟨RX5, "becomeReady", "(LProcessTurns$Proc;)V"⟩
abbrev cX5_step : ByteArray := prog_1_method_23_code
def yX5_step : MethodName := ⟨RX5, "step", "()Z"⟩
abbrev cX5_wakeThoseWhoseTimeHasCome : ByteArray := prog_1_method_24_code
def yX5_wakeThoseWhoseTimeHasCome : MethodName := ⟨RX5, "wakeThoseWhoseTimeHasCome", "()V"⟩
abbrev cX5_hasCome : ByteArray := prog_1_method_25_code
def yX5_hasCome : MethodName := ⟨RX5, "hasCome", "(I)Z"⟩
abbrev cX5_giveWayToHigh : ByteArray := prog_1_method_26_code
def yX5_giveWayToHigh : MethodName := ⟨RX5, "giveWayToHigh", "()V"⟩
abbrev cX5_takeNext : ByteArray := prog_1_method_27_code
def yX5_takeNext : MethodName := ⟨RX5, "takeNext", "()V"⟩
abbrev cX5_execute : ByteArray := prog_1_method_28_code
def yX5_execute : MethodName := ⟨RX5, "execute", "(LProcessTurns$Proc;)V"⟩
abbrev cX5_compute : ByteArray := prog_1_method_29_code
def yX5_compute : MethodName := ⟨RX5, "compute", "(LProcessTurns$Proc;II)V"⟩
abbrev cX5_jump : ByteArray := prog_1_method_30_code
def yX5_jump : MethodName := ⟨RX5, "jump", "(LProcessTurns$Proc;I)V"⟩
abbrev cX5_jumpIfZero : ByteArray := prog_1_method_31_code
def yX5_jumpIfZero : MethodName := ⟨RX5, "jumpIfZero", "(LProcessTurns$Proc;I)V"⟩
abbrev cX5_awaitTime : ByteArray := prog_1_method_32_code
def yX5_awaitTime : MethodName := ⟨RX5, "awaitTime", "(LProcessTurns$Proc;)V"⟩
abbrev cX5_send : ByteArray := prog_1_method_33_code
def yX5_send : MethodName := ⟨RX5, "send", "(LProcessTurns$Proc;LProcessTurns$Channel;)V"⟩
abbrev cX5_receive : ByteArray := prog_1_method_34_code
def yX5_receive : MethodName := ⟨RX5, "receive", "(LProcessTurns$Proc;LProcessTurns$Channel;)V"⟩
abbrev cX5_deliver : ByteArray := prog_1_method_35_code
def yX5_deliver : MethodName := ⟨RX5, "deliver", "(ILProcessTurns$Proc;LProcessTurns$Proc;I)V"⟩
def RX6 : String := "ProcessTurnsModel"
def TX6 : u_T := fun k => match k with
  | 0 => ("ProcessTurnsModel", "code", "[I", true)
  | 1 => ("ProcessTurnsModel", "length", "I", false)
  | 2 => ("ProcessTurnsModel", "state", "[I", true)
  | 3 => ("ProcessTurnsModel", "priority", "[I", true)
  | 4 => ("ProcessTurnsModel", "place", "[I", true)
  | 5 => ("ProcessTurnsModel", "cells", "[I", true)
  | 6 => ("ProcessTurnsModel", "rank", "[I", true)
  | 7 => ("ProcessTurnsModel", "until", "[I", true)
  | 8 => ("ProcessTurnsModel", "message", "[I", true)
  | 9 => ("ProcessTurnsModel", "first", "I", false)
  | 10 => ("ProcessTurnsModel", "last", "I", false)
  | 11 => ("ProcessTurnsModel", "clock", "I", false)
  | 12 => ("ProcessTurnsModel", "done", "I", false)
  | 13 => ("ProcessTurnsModel", "channel", "[I", true)
  | 14 => ("ProcessTurnsModel", "messages", "I", false)
  | _ => ("ProcessTurnsModel", "log", "[I", true)
def tyX6 : Nat → FieldType := fun k => match k with
  | 0 => .array .int
  | 1 => .int
  | 2 => .array .int
  | 3 => .array .int
  | 4 => .array .int
  | 5 => .array .int
  | 6 => .array .int
  | 7 => .array .int
  | 8 => .array .int
  | 9 => .int
  | 10 => .int
  | 11 => .int
  | 12 => .int
  | 13 => .array .int
  | 14 => .int
  | _ => .array .int
abbrev wsX60 : List Cond := u_ws RX6 TX6 16
theorem nmX6 : ∀ a, a < 16 → ∀ b, b < 16 → a ≠ b → (TX6 a).2.1 ≠ (TX6 b).2.1 := by decide +kernel
theorem tyX6_ok : ∀ k, k < 16 → parseFieldDescriptor (TX6 k).2.2.1 = some (tyX6 k) := by decide +kernel
abbrev cX6_init : ByteArray := prog_8_method_1_code
def yX6_init : MethodName := ⟨RX6, "<init>", "()V"⟩
abbrev cX6_within : ByteArray := prog_8_method_2_code
def yX6_within : MethodName := ⟨RX6, "within", "(III)Z"⟩
abbrev cX6_add : ByteArray := prog_8_method_3_code
def yX6_add : MethodName := ⟨RX6, "add", "(II)I"⟩
abbrev cX6_atEnd : ByteArray := prog_8_method_4_code
def yX6_atEnd : MethodName := ⟨RX6, "atEnd", "(I)V"⟩
abbrev cX6_begin : ByteArray := prog_8_method_5_code
def yX6_begin : MethodName := ⟨RX6, "begin", "(III)I"⟩
abbrev cX6_start : ByteArray := prog_8_method_6_code
def yX6_start : MethodName := ⟨RX6, "start", "(III)I"⟩
abbrev cX6_setClock : ByteArray := prog_8_method_7_code
def yX6_setClock : MethodName := ⟨RX6, "setClock", "(I)V"⟩
abbrev cX6_reset : ByteArray := prog_8_method_8_code
def yX6_reset : MethodName := ⟨RX6, "reset", "()V"⟩
abbrev cX6_ready : ByteArray := prog_8_method_9_code
def yX6_ready : MethodName := ⟨RX6, "ready", "(II)I"⟩
abbrev cX6_current : ByteArray := prog_8_method_10_code
def yX6_current : MethodName := ⟨RX6, "current", "()I"⟩
abbrev cX6_push : ByteArray := prog_8_method_11_code
def yX6_push : MethodName := ⟨RX6, "push", "(II)V"⟩
abbrev cX6_pull : ByteArray := prog_8_method_12_code
def yX6_pull : MethodName := ⟨RX6, "pull", "(I)V"⟩
abbrev cX6_tell : ByteArray := prog_8_method_13_code
def yX6_tell : MethodName := ⟨RX6, "tell", "(IIII)V"⟩
abbrev cX6_send : ByteArray := prog_8_method_14_code
def yX6_send : MethodName := ⟨RX6, "send", "(II)V"⟩
abbrev cX6_receive : ByteArray := prog_8_method_15_code
def yX6_receive : MethodName := ⟨RX6, "receive", "(II)V"⟩
abbrev cX6_value : ByteArray := prog_8_method_16_code
def yX6_value : MethodName := ⟨RX6, "value", "(III)I"⟩
abbrev cX6_instruction : ByteArray := prog_8_method_17_code
def yX6_instruction : MethodName := ⟨RX6, "instruction", "(I)V"⟩
abbrev cX6_step : ByteArray := prog_8_method_18_code
def yX6_step : MethodName := ⟨RX6, "step", "()Z"⟩
abbrev cX6_run : ByteArray := prog_8_method_19_code
def yX6_run : MethodName := ⟨RX6, "run", "(I)I"⟩
abbrev cX6_clock : ByteArray := prog_8_method_20_code
def yX6_clock : MethodName := ⟨RX6, "clock", "()I"⟩
abbrev cX6_running : ByteArray := prog_8_method_21_code
def yX6_running : MethodName := ⟨RX6, "running", "()I"⟩
abbrev cX6_state : ByteArray := prog_8_method_22_code
def yX6_state : MethodName := ⟨RX6, "state", "(I)I"⟩
abbrev cX6_look : ByteArray := prog_8_method_23_code
def yX6_look : MethodName := ⟨RX6, "look", "(II)J"⟩
abbrev cX6_waiting : ByteArray := prog_8_method_24_code
def yX6_waiting : MethodName := ⟨RX6, "waiting", "(II)I"⟩
abbrev cX6_channel : ByteArray := prog_8_method_25_code
def yX6_channel : MethodName := ⟨RX6, "channel", "(I)I"⟩
abbrev cX6_messages : ByteArray := prog_8_method_26_code
def yX6_messages : MethodName := ⟨RX6, "messages", "()I"⟩
abbrev cX6_message : ByteArray := prog_8_method_27_code
def yX6_message : MethodName := ⟨RX6, "message", "(II)J"⟩
def RL : String := "ProcessTurnsLaw"
abbrev cL_law : ByteArray := code
def yL_law : MethodName := ⟨RL, "law", "([I)Z"⟩
abbrev vwCl : List vw_C := [(RX0, TX0, 4), (RX1, TX1, 2), (RX2, TX2, 10), (RX3, TX3, 3), (RX4, TX4, 2), (RX5, TX5, 8), (RX6, TX6, 16)]

