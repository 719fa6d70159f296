section
-- ===== PART A: goes FIRST, ahead of the names: the tables' words, and 'selects' of the private methods out of them =====
/-- a private method of a class that the tables say can be made, by its rows of tables_1 -/
def lw_okq (q : MethodName × Nat) : Prop := (q.1.cls ≠ "java/lang/invoke/MethodHandle" ∧ q.1.cls ≠ "java/lang/invoke/VarHandle") ∧ Cond.instantiable q.1.cls q.2 ∈ tables_1 ∧ Cond.privateMethod q.1 ∈ tables_1 ∧ Cond.instanceMethod q.1 ∈ tables_1
theorem lw_p0 : lw_okq (⟨"ProcessTurns", "startLeastFree", "(III)I"⟩, 8) := ⟨⟨by decide +kernel, by decide +kernel⟩, List.mem_of_getElem? (i := 9) (by decide +kernel), List.mem_of_getElem? (i := 177) (by decide +kernel), List.mem_of_getElem? (i := 178) (by decide +kernel)⟩
theorem lw_p1 : lw_okq (⟨"ProcessTurns", "leastFree", "()LProcessTurns$Proc;"⟩, 8) := ⟨⟨by decide +kernel, by decide +kernel⟩, List.mem_of_getElem? (i := 9) (by decide +kernel), List.mem_of_getElem? (i := 181) (by decide +kernel), List.mem_of_getElem? (i := 182) (by decide +kernel)⟩
theorem lw_p2 : lw_okq (⟨"ProcessTurns", "becomeReady", "(LProcessTurns$Proc;)V"⟩, 8) := ⟨⟨by decide +kernel, by decide +kernel⟩, List.mem_of_getElem? (i := 9) (by decide +kernel), List.mem_of_getElem? (i := 189) (by decide +kernel), List.mem_of_getElem? (i := 190) (by decide +kernel)⟩
theorem lw_p3 : lw_okq (⟨"ProcessTurns", "rowOf", "(I)LProcessTurns$Row;"⟩, 8) := ⟨⟨by decide +kernel, by decide +kernel⟩, List.mem_of_getElem? (i := 9) (by decide +kernel), List.mem_of_getElem? (i := 193) (by decide +kernel), List.mem_of_getElem? (i := 194) (by decide +kernel)⟩
theorem lw_p4 : lw_okq (⟨"ProcessTurns", "step", "()Z"⟩, 8) := ⟨⟨by decide +kernel, by decide +kernel⟩, List.mem_of_getElem? (i := 9) (by decide +kernel), List.mem_of_getElem? (i := 205) (by decide +kernel), List.mem_of_getElem? (i := 206) (by decide +kernel)⟩
theorem lw_p5 : lw_okq (⟨"ProcessTurns", "wakeThoseWhoseTimeHasCome", "()V"⟩, 8) := ⟨⟨by decide +kernel, by decide +kernel⟩, List.mem_of_getElem? (i := 9) (by decide +kernel), List.mem_of_getElem? (i := 209) (by decide +kernel), List.mem_of_getElem? (i := 210) (by decide +kernel)⟩
theorem lw_p6 : lw_okq (⟨"ProcessTurns", "hasCome", "(I)Z"⟩, 8) := ⟨⟨by decide +kernel, by decide +kernel⟩, List.mem_of_getElem? (i := 9) (by decide +kernel), List.mem_of_getElem? (i := 213) (by decide +kernel), List.mem_of_getElem? (i := 214) (by decide +kernel)⟩
theorem lw_p7 : lw_okq (⟨"ProcessTurns", "giveWayToHigh", "()V"⟩, 8) := ⟨⟨by decide +kernel, by decide +kernel⟩, List.mem_of_getElem? (i := 9) (by decide +kernel), List.mem_of_getElem? (i := 217) (by decide +kernel), List.mem_of_getElem? (i := 218) (by decide +kernel)⟩
theorem lw_p8 : lw_okq (⟨"ProcessTurns", "takeNext", "()V"⟩, 8) := ⟨⟨by decide +kernel, by decide +kernel⟩, List.mem_of_getElem? (i := 9) (by decide +kernel), List.mem_of_getElem? (i := 225) (by decide +kernel), List.mem_of_getElem? (i := 226) (by decide +kernel)⟩
theorem lw_p9 : lw_okq (⟨"ProcessTurns", "execute", "(LProcessTurns$Proc;)V"⟩, 8) := ⟨⟨by decide +kernel, by decide +kernel⟩, List.mem_of_getElem? (i := 9) (by decide +kernel), List.mem_of_getElem? (i := 233) (by decide +kernel), List.mem_of_getElem? (i := 234) (by decide +kernel)⟩
theorem lw_p10 : lw_okq (⟨"ProcessTurns", "jump", "(LProcessTurns$Proc;I)V"⟩, 8) := ⟨⟨by decide +kernel, by decide +kernel⟩, List.mem_of_getElem? (i := 9) (by decide +kernel), List.mem_of_getElem? (i := 249) (by decide +kernel), List.mem_of_getElem? (i := 250) (by decide +kernel)⟩
theorem lw_p11 : lw_okq (⟨"ProcessTurns", "jumpIfZero", "(LProcessTurns$Proc;I)V"⟩, 8) := ⟨⟨by decide +kernel, by decide +kernel⟩, List.mem_of_getElem? (i := 9) (by decide +kernel), List.mem_of_getElem? (i := 253) (by decide +kernel), List.mem_of_getElem? (i := 254) (by decide +kernel)⟩
theorem lw_p12 : lw_okq (⟨"ProcessTurns", "channelAt", "(I)LProcessTurns$Channel;"⟩, 8) := ⟨⟨by decide +kernel, by decide +kernel⟩, List.mem_of_getElem? (i := 9) (by decide +kernel), List.mem_of_getElem? (i := 261) (by decide +kernel), List.mem_of_getElem? (i := 262) (by decide +kernel)⟩
theorem lw_p13 : lw_okq (⟨"ProcessTurns", "send", "(LProcessTurns$Proc;LProcessTurns$Channel;)V"⟩, 8) := ⟨⟨by decide +kernel, by decide +kernel⟩, List.mem_of_getElem? (i := 9) (by decide +kernel), List.mem_of_getElem? (i := 265) (by decide +kernel), List.mem_of_getElem? (i := 266) (by decide +kernel)⟩
theorem lw_p14 : lw_okq (⟨"ProcessTurns", "deliver", "(ILProcessTurns$Proc;LProcessTurns$Proc;I)V"⟩, 8) := ⟨⟨by decide +kernel, by decide +kernel⟩, List.mem_of_getElem? (i := 9) (by decide +kernel), List.mem_of_getElem? (i := 281) (by decide +kernel), List.mem_of_getElem? (i := 282) (by decide +kernel)⟩
theorem lw_p15 : lw_okq (⟨"ProcessTurns", "receive", "(LProcessTurns$Proc;LProcessTurns$Channel;)V"⟩, 8) := ⟨⟨by decide +kernel, by decide +kernel⟩, List.mem_of_getElem? (i := 9) (by decide +kernel), List.mem_of_getElem? (i := 296) (by decide +kernel), List.mem_of_getElem? (i := 297) (by decide +kernel)⟩
def lw_privs_1 : List (MethodName × Nat) := [(⟨"ProcessTurns", "startLeastFree", "(III)I"⟩, 8), (⟨"ProcessTurns", "leastFree", "()LProcessTurns$Proc;"⟩, 8), (⟨"ProcessTurns", "becomeReady", "(LProcessTurns$Proc;)V"⟩, 8), (⟨"ProcessTurns", "rowOf", "(I)LProcessTurns$Row;"⟩, 8), (⟨"ProcessTurns", "step", "()Z"⟩, 8), (⟨"ProcessTurns", "wakeThoseWhoseTimeHasCome", "()V"⟩, 8), (⟨"ProcessTurns", "hasCome", "(I)Z"⟩, 8), (⟨"ProcessTurns", "giveWayToHigh", "()V"⟩, 8), (⟨"ProcessTurns", "takeNext", "()V"⟩, 8), (⟨"ProcessTurns", "execute", "(LProcessTurns$Proc;)V"⟩, 8), (⟨"ProcessTurns", "jump", "(LProcessTurns$Proc;I)V"⟩, 8), (⟨"ProcessTurns", "jumpIfZero", "(LProcessTurns$Proc;I)V"⟩, 8), (⟨"ProcessTurns", "channelAt", "(I)LProcessTurns$Channel;"⟩, 8), (⟨"ProcessTurns", "send", "(LProcessTurns$Proc;LProcessTurns$Channel;)V"⟩, 8), (⟨"ProcessTurns", "deliver", "(ILProcessTurns$Proc;LProcessTurns$Proc;I)V"⟩, 8), (⟨"ProcessTurns", "receive", "(LProcessTurns$Proc;LProcessTurns$Channel;)V"⟩, 8)]
theorem lw_r1 : ∀ q ∈ lw_privs_1, lw_okq q := List.forall_mem_cons.mpr ⟨lw_p0, List.forall_mem_cons.mpr ⟨lw_p1, List.forall_mem_cons.mpr ⟨lw_p2, List.forall_mem_cons.mpr ⟨lw_p3, List.forall_mem_cons.mpr ⟨lw_p4, List.forall_mem_cons.mpr ⟨lw_p5, List.forall_mem_cons.mpr ⟨lw_p6, List.forall_mem_cons.mpr ⟨lw_p7, List.forall_mem_cons.mpr ⟨lw_p8, List.forall_mem_cons.mpr ⟨lw_p9, List.forall_mem_cons.mpr ⟨lw_p10, List.forall_mem_cons.mpr ⟨lw_p11, List.forall_mem_cons.mpr ⟨lw_p12, List.forall_mem_cons.mpr ⟨lw_p13, List.forall_mem_cons.mpr ⟨lw_p14, List.forall_mem_cons.mpr ⟨lw_p15, fun _ h => absurd h List.not_mem_nil⟩⟩⟩⟩⟩⟩⟩⟩⟩⟩⟩⟩⟩⟩⟩⟩
theorem lw_p16 : lw_okq (⟨"ProcessTurns", "awaitTime", "(LProcessTurns$Proc;)V"⟩, 8) := ⟨⟨by decide +kernel, by decide +kernel⟩, List.mem_of_getElem? (i := 9) (by decide +kernel), List.mem_of_getElem? (i := 304) (by decide +kernel), List.mem_of_getElem? (i := 305) (by decide +kernel)⟩
theorem lw_p17 : lw_okq (⟨"ProcessTurns", "compute", "(LProcessTurns$Proc;II)V"⟩, 8) := ⟨⟨by decide +kernel, by decide +kernel⟩, List.mem_of_getElem? (i := 9) (by decide +kernel), List.mem_of_getElem? (i := 308) (by decide +kernel), List.mem_of_getElem? (i := 309) (by decide +kernel)⟩
theorem lw_p18 : lw_okq (⟨"ProcessTurnsModel", "begin", "(III)I"⟩, 16) := ⟨⟨by decide +kernel, by decide +kernel⟩, List.mem_of_getElem? (i := 391) (by decide +kernel), List.mem_of_getElem? (i := 457) (by decide +kernel), List.mem_of_getElem? (i := 458) (by decide +kernel)⟩
theorem lw_p19 : lw_okq (⟨"ProcessTurnsModel", "atEnd", "(I)V"⟩, 16) := ⟨⟨by decide +kernel, by decide +kernel⟩, List.mem_of_getElem? (i := 391) (by decide +kernel), List.mem_of_getElem? (i := 461) (by decide +kernel), List.mem_of_getElem? (i := 462) (by decide +kernel)⟩
theorem lw_p20 : lw_okq (⟨"ProcessTurnsModel", "step", "()Z"⟩, 16) := ⟨⟨by decide +kernel, by decide +kernel⟩, List.mem_of_getElem? (i := 391) (by decide +kernel), List.mem_of_getElem? (i := 477) (by decide +kernel), List.mem_of_getElem? (i := 478) (by decide +kernel)⟩
theorem lw_p21 : lw_okq (⟨"ProcessTurnsModel", "current", "()I"⟩, 16) := ⟨⟨by decide +kernel, by decide +kernel⟩, List.mem_of_getElem? (i := 391) (by decide +kernel), List.mem_of_getElem? (i := 481) (by decide +kernel), List.mem_of_getElem? (i := 482) (by decide +kernel)⟩
theorem lw_p22 : lw_okq (⟨"ProcessTurnsModel", "ready", "(II)I"⟩, 16) := ⟨⟨by decide +kernel, by decide +kernel⟩, List.mem_of_getElem? (i := 391) (by decide +kernel), List.mem_of_getElem? (i := 485) (by decide +kernel), List.mem_of_getElem? (i := 486) (by decide +kernel)⟩
theorem lw_p23 : lw_okq (⟨"ProcessTurnsModel", "instruction", "(I)V"⟩, 16) := ⟨⟨by decide +kernel, by decide +kernel⟩, List.mem_of_getElem? (i := 391) (by decide +kernel), List.mem_of_getElem? (i := 489) (by decide +kernel), List.mem_of_getElem? (i := 490) (by decide +kernel)⟩
theorem lw_p24 : lw_okq (⟨"ProcessTurnsModel", "push", "(II)V"⟩, 16) := ⟨⟨by decide +kernel, by decide +kernel⟩, List.mem_of_getElem? (i := 391) (by decide +kernel), List.mem_of_getElem? (i := 493) (by decide +kernel), List.mem_of_getElem? (i := 494) (by decide +kernel)⟩
theorem lw_p25 : lw_okq (⟨"ProcessTurnsModel", "pull", "(I)V"⟩, 16) := ⟨⟨by decide +kernel, by decide +kernel⟩, List.mem_of_getElem? (i := 391) (by decide +kernel), List.mem_of_getElem? (i := 497) (by decide +kernel), List.mem_of_getElem? (i := 498) (by decide +kernel)⟩
theorem lw_p26 : lw_okq (⟨"ProcessTurnsModel", "send", "(II)V"⟩, 16) := ⟨⟨by decide +kernel, by decide +kernel⟩, List.mem_of_getElem? (i := 391) (by decide +kernel), List.mem_of_getElem? (i := 504) (by decide +kernel), List.mem_of_getElem? (i := 505) (by decide +kernel)⟩
theorem lw_p27 : lw_okq (⟨"ProcessTurnsModel", "tell", "(IIII)V"⟩, 16) := ⟨⟨by decide +kernel, by decide +kernel⟩, List.mem_of_getElem? (i := 391) (by decide +kernel), List.mem_of_getElem? (i := 508) (by decide +kernel), List.mem_of_getElem? (i := 509) (by decide +kernel)⟩
theorem lw_p28 : lw_okq (⟨"ProcessTurnsModel", "receive", "(II)V"⟩, 16) := ⟨⟨by decide +kernel, by decide +kernel⟩, List.mem_of_getElem? (i := 391) (by decide +kernel), List.mem_of_getElem? (i := 512) (by decide +kernel), List.mem_of_getElem? (i := 513) (by decide +kernel)⟩
def lw_privs_2 : List (MethodName × Nat) := [(⟨"ProcessTurns", "awaitTime", "(LProcessTurns$Proc;)V"⟩, 8), (⟨"ProcessTurns", "compute", "(LProcessTurns$Proc;II)V"⟩, 8), (⟨"ProcessTurnsModel", "begin", "(III)I"⟩, 16), (⟨"ProcessTurnsModel", "atEnd", "(I)V"⟩, 16), (⟨"ProcessTurnsModel", "step", "()Z"⟩, 16), (⟨"ProcessTurnsModel", "current", "()I"⟩, 16), (⟨"ProcessTurnsModel", "ready", "(II)I"⟩, 16), (⟨"ProcessTurnsModel", "instruction", "(I)V"⟩, 16), (⟨"ProcessTurnsModel", "push", "(II)V"⟩, 16), (⟨"ProcessTurnsModel", "pull", "(I)V"⟩, 16), (⟨"ProcessTurnsModel", "send", "(II)V"⟩, 16), (⟨"ProcessTurnsModel", "tell", "(IIII)V"⟩, 16), (⟨"ProcessTurnsModel", "receive", "(II)V"⟩, 16)]
theorem lw_r2 : ∀ q ∈ lw_privs_2, lw_okq q := List.forall_mem_cons.mpr ⟨lw_p16, List.forall_mem_cons.mpr ⟨lw_p17, List.forall_mem_cons.mpr ⟨lw_p18, List.forall_mem_cons.mpr ⟨lw_p19, List.forall_mem_cons.mpr ⟨lw_p20, List.forall_mem_cons.mpr ⟨lw_p21, List.forall_mem_cons.mpr ⟨lw_p22, List.forall_mem_cons.mpr ⟨lw_p23, List.forall_mem_cons.mpr ⟨lw_p24, List.forall_mem_cons.mpr ⟨lw_p25, List.forall_mem_cons.mpr ⟨lw_p26, List.forall_mem_cons.mpr ⟨lw_p27, List.forall_mem_cons.mpr ⟨lw_p28, fun _ h => absurd h List.not_mem_nil⟩⟩⟩⟩⟩⟩⟩⟩⟩⟩⟩⟩⟩
def lw_privs : List (MethodName × Nat) := lw_privs_1 ++ (lw_privs_2)
def lw_tbl : List Cond := k2_sels lw_privs ++ tables_1
theorem lw_privs_ok : ∀ q ∈ lw_privs, lw_okq q := by
  show ∀ q ∈ lw_privs_1 ++ (lw_privs_2), lw_okq q
  exact List.forall_mem_append.mpr ⟨lw_r1, lw_r2⟩

/-! ===== BEGIN words of one list among another's, by their places ===== -/
theorem goodIn_r {big : List Cond} (ws : List Cond) (ps : List Nat) (hp : ws = ps.filterMap (fun i => big[i]?)) (h : ws.all goodWord = true) : GoodIn big ws := by
  intro w hw
  have h1 := List.all_eq_true.mp h w hw
  rw [hp] at hw
  obtain ⟨i, -, hi⟩ := List.mem_filterMap.mp hw
  have hm : w ∈ big := by first | exact List.mem_of_getElem? hi | exact List.getElem?_mem hi
  exact ⟨hm, good_of_word h1⟩
theorem goodIn_app {big a b : List Cond} (ha : GoodIn big a) (hb : GoodIn big b) : GoodIn big (a ++ b) := fun w h => (List.mem_append.mp h).elim (ha w) (hb w)
theorem goodIn_ca {big a b : List Cond} {c : Cond} (ha : GoodIn big (c :: a)) (hb : GoodIn big b) : GoodIn big (c :: (a ++ b)) := fun w h => (List.mem_cons.mp h).elim (fun e => ha w (List.mem_cons.mpr (Or.inl e))) (fun h => (List.mem_append.mp h).elim (fun h => ha w (List.mem_cons.mpr (Or.inr h))) (hb w))
theorem goodIn_sub {big ws : List Cond} (hm : ∀ w ∈ ws, w ∈ big) (h : ws.all goodWord = true) : GoodIn big ws := fun w hw => ⟨hm w hw, good_of_word (List.all_eq_true.mp h w hw)⟩
/-! ===== END ===== -/

/-! ===== BEGIN printed: names, fields, word lists, decode rows ===== -/
def RX0 : String := "ProcessTurns$Channel"
def TX0 : u_T := fun k => match k with
  | 0 => ("ProcessTurns$Channel", "number", "I", true)
  | 1 => ("ProcessTurns$Channel", "waiter", "LProcessTurns$Proc;", false)
  | 2 => ("ProcessTurns$Channel", "waiterSends", "Z", false)
  | _ => ("ProcessTurns$Channel", "message", "I", false)
def tyX0 : Nat → FieldType := fun k => match k with
  | 0 => .int
  | 1 => .object "ProcessTurns$Proc"
  | 2 => .boolean
  | _ => .int
abbrev wsX00 : List Cond := u_ws RX0 TX0 4
theorem nmX0 : ∀ a, a < 4 → ∀ b, b < 4 → a ≠ b → (TX0 a).2.1 ≠ (TX0 b).2.1 := by decide +kernel
theorem tyX0_ok : ∀ k, k < 4 → parseFieldDescriptor (TX0 k).2.2.1 = some (tyX0 k) := by decide +kernel
abbrev cX0_init : ByteArray := prog_2_method_1_code
def yX0_init : MethodName := ⟨RX0, "<init>", "(I)V"⟩
abbrev cX0_clear : ByteArray := prog_2_method_2_code
def yX0_clear : MethodName := ⟨RX0, "clear", "()V"⟩
abbrev cX0_hold : ByteArray := prog_2_method_3_code
def yX0_hold : MethodName := ⟨RX0, "hold", "(LProcessTurns$Proc;ZI)V"⟩
abbrev cX0_hasSender : ByteArray := prog_2_method_4_code
def yX0_hasSender : MethodName := ⟨RX0, "hasSender", "()Z"⟩
abbrev cX0_hasReceiver : ByteArray := prog_2_method_5_code
def yX0_hasReceiver : MethodName := ⟨RX0, "hasReceiver", "()Z"⟩
abbrev cX0_code : ByteArray := prog_2_method_6_code
def yX0_code : MethodName := ⟨RX0, "code", "()I"⟩
def RX1 : String := "ProcessTurns$Log"
def TX1 : u_T := fun k => match k with
  | 0 => ("ProcessTurns$Log", "parts", "[I", true)
  | _ => ("ProcessTurns$Log", "count", "I", false)
def tyX1 : Nat → FieldType := fun k => match k with
  | 0 => .array .int
  | _ => .int
abbrev wsX10 : List Cond := u_ws RX1 TX1 2
theorem nmX1 : ∀ a, a < 2 → ∀ b, b < 2 → a ≠ b → (TX1 a).2.1 ≠ (TX1 b).2.1 := by decide +kernel
theorem tyX1_ok : ∀ k, k < 2 → parseFieldDescriptor (TX1 k).2.2.1 = some (tyX1 k) := by decide +kernel
abbrev cX1_init : ByteArray := prog_3_method_1_code
def yX1_init : MethodName := ⟨RX1, "<init>", "()V"⟩
abbrev cX1_roomOf : ByteArray := prog_3_method_2_code
def yX1_roomOf : MethodName := ⟨RX1, "roomOf", "(I)I"⟩
abbrev cX1_append : ByteArray := prog_3_method_3_code
def yX1_append : MethodName := ⟨RX1, "append", "(IIIII)V"⟩
abbrev cX1_part : ByteArray := prog_3_method_4_code
def yX1_part : MethodName := ⟨RX1, "part", "(II)J"⟩
def RX2 : String := "ProcessTurns$Proc"
def TX2 : u_T := fun k => match k with
  | 0 => ("ProcessTurns$Proc", "number", "I", true)
  | 1 => ("ProcessTurns$Proc", "words", "[I", true)
  | 2 => ("ProcessTurns$Proc", "state", "I", false)
  | 3 => ("ProcessTurns$Proc", "priority", "I", false)
  | 4 => ("ProcessTurns$Proc", "place", "I", false)
  | 5 => ("ProcessTurns$Proc", "a", "I", false)
  | 6 => ("ProcessTurns$Proc", "b", "I", false)
  | 7 => ("ProcessTurns$Proc", "c", "I", false)
  | 8 => ("ProcessTurns$Proc", "wakeTime", "I", false)
  | _ => ("ProcessTurns$Proc", "done", "I", false)
def tyX2 : Nat → FieldType := fun k => match k with
  | 0 => .int
  | 1 => .array .int
  | 2 => .int
  | 3 => .int
  | 4 => .int
  | 5 => .int
  | 6 => .int
  | 7 => .int
  | 8 => .int
  | _ => .int
abbrev wsX20 : List Cond := u_ws RX2 TX2 10
theorem nmX2 : ∀ a, a < 10 → ∀ b, b < 10 → a ≠ b → (TX2 a).2.1 ≠ (TX2 b).2.1 := by decide +kernel
theorem tyX2_ok : ∀ k, k < 10 → parseFieldDescriptor (TX2 k).2.2.1 = some (tyX2 k) := by decide +kernel
abbrev cX2_init : ByteArray := prog_4_method_1_code
def yX2_init : MethodName := ⟨RX2, "<init>", "(I)V"⟩
abbrev cX2_begin : ByteArray := prog_4_method_2_code
def yX2_begin : MethodName := ⟨RX2, "begin", "(III)V"⟩
abbrev cX2_put : ByteArray := prog_4_method_3_code
def yX2_put : MethodName := ⟨RX2, "put", "(I)V"⟩
abbrev cX2_drop : ByteArray := prog_4_method_4_code
def yX2_drop : MethodName := ⟨RX2, "drop", "()V"⟩
abbrev cX2_replaceTwo : ByteArray := prog_4_method_5_code
def yX2_replaceTwo : MethodName := ⟨RX2, "replaceTwo", "(I)V"⟩
abbrev cX2_word : ByteArray := prog_4_method_6_code
def yX2_word : MethodName := ⟨RX2, "word", "(I)I"⟩
abbrev cX2_setWord : ByteArray := prog_4_method_7_code
def yX2_setWord : MethodName := ⟨RX2, "setWord", "(II)V"⟩
abbrev cX2_part : ByteArray := prog_4_method_8_code
def yX2_part : MethodName := ⟨RX2, "part", "(I)J"⟩
def RX3 : String := "ProcessTurns$Program"
def TX3 : u_T := fun k => match k with
  | 0 => ("ProcessTurns$Program", "ops", "[I", true)
  | 1 => ("ProcessTurns$Program", "operands", "[I", true)
  | _ => ("ProcessTurns$Program", "size", "I", false)
def tyX3 : Nat → FieldType := fun k => match k with
  | 0 => .array .int
  | 1 => .array .int
  | _ => .int
abbrev wsX30 : List Cond := u_ws RX3 TX3 3
theorem nmX3 : ∀ a, a < 3 → ∀ b, b < 3 → a ≠ b → (TX3 a).2.1 ≠ (TX3 b).2.1 := by decide +kernel
theorem tyX3_ok : ∀ k, k < 3 → parseFieldDescriptor (TX3 k).2.2.1 = some (tyX3 k) := by decide +kernel
abbrev cX3_init : ByteArray := prog_5_method_1_code
def yX3_init : MethodName := ⟨RX3, "<init>", "()V"⟩
abbrev cX3_append : ByteArray := prog_5_method_2_code
def yX3_append : MethodName := ⟨RX3, "append", "(II)I"⟩
abbrev cX3_holds : ByteArray := prog_5_method_3_code
def yX3_holds : MethodName := ⟨RX3, "holds", "(I)Z"⟩
abbrev cX3_opAt : ByteArray := prog_5_method_4_code
def yX3_opAt : MethodName := ⟨RX3, "opAt", "(I)I"⟩
abbrev cX3_operandAt : ByteArray := prog_5_method_5_code
def yX3_operandAt : MethodName := ⟨RX3, "operandAt", "(I)I"⟩
def RX4 : String := "ProcessTurns$Row"
def TX4 : u_T := fun k => match k with
  | 0 => ("ProcessTurns$Row", "members", "[LProcessTurns$Proc;", true)
  | _ => ("ProcessTurns$Row", "size", "I", false)
def tyX4 : Nat → FieldType := fun k => match k with
  | 0 => .array (.object "ProcessTurns$Proc")
  | _ => .int
abbrev wsX40 : List Cond := u_ws RX4 TX4 2
theorem nmX4 : ∀ a, a < 2 → ∀ b, b < 2 → a ≠ b → (TX4 a).2.1 ≠ (TX4 b).2.1 := by decide +kernel
theorem tyX4_ok : ∀ k, k < 2 → parseFieldDescriptor (TX4 k).2.2.1 = some (tyX4 k) := by decide +kernel
abbrev cX4_init : ByteArray := prog_6_method_1_code
def yX4_init : MethodName := ⟨RX4, "<init>", "()V"⟩
abbrev cX4_clear : ByteArray := prog_6_method_2_code
def yX4_clear : MethodName := ⟨RX4, "clear", "()V"⟩
abbrev cX4_putLast : ByteArray := prog_6_method_3_code
def yX4_putLast : MethodName := ⟨RX4, "putLast", "(LProcessTurns$Proc;)V"⟩
abbrev cX4_putFirst : ByteArray := prog_6_method_4_code
def yX4_putFirst : MethodName := ⟨RX4, "putFirst", "(LProcessTurns$Proc;)V"⟩
abbrev cX4_takeFirst : ByteArray := prog_6_method_5_code
def yX4_takeFirst : MethodName := ⟨RX4, "takeFirst", "()LProcessTurns$Proc;"⟩
abbrev cX4_numberAt : ByteArray := prog_6_method_6_code
def yX4_numberAt : MethodName := ⟨RX4, "numberAt", "(I)I"⟩
def RX5 : String := "ProcessTurns"
def TX5 : u_T := fun k => match k with
  | 0 => ("ProcessTurns", "program", "LProcessTurns$Program;", true)
  | 1 => ("ProcessTurns", "processes", "[LProcessTurns$Proc;", true)
  | 2 => ("ProcessTurns", "channels", "[LProcessTurns$Channel;", true)
  | 3 => ("ProcessTurns", "highRow", "LProcessTurns$Row;", true)
  | 4 => ("ProcessTurns", "lowRow", "LProcessTurns$Row;", true)
  | 5 => ("ProcessTurns", "log", "LProcessTurns$Log;", true)
  | 6 => ("ProcessTurns", "active", "LProcessTurns$Proc;", false)
  | _ => ("ProcessTurns", "time", "I", false)
def tyX5 : Nat → FieldType := fun k => match k with
  | 0 => .object "ProcessTurns$Program"
  | 1 => .array (.object "ProcessTurns$Proc")
  | 2 => .array (.object "ProcessTurns$Channel")
  | 3 => .object "ProcessTurns$Row"
  | 4 => .object "ProcessTurns$Row"
  | 5 => .object "ProcessTurns$Log"
  | 6 => .object "ProcessTurns$Proc"
  | _ => .int
abbrev wsX50 : List Cond := u_ws RX5 TX5 8
theorem nmX5 : ∀ a, a < 8 → ∀ b, b < 8 → a ≠ b → (TX5 a).2.1 ≠ (TX5 b).2.1 := by decide +kernel
theorem tyX5_ok : ∀ k, k < 8 → parseFieldDescriptor (TX5 k).2.2.1 = some (tyX5 k) := by decide +kernel
abbrev cX5_init : ByteArray := prog_1_method_1_code
def yX5_init : MethodName := ⟨RX5, "<init>", "()V"⟩
abbrev cX5_add : ByteArray := prog_1_method_2_code
def yX5_add : MethodName := ⟨RX5, "add", "(II)I"⟩
abbrev cX5_start : ByteArray := prog_1_method_3_code
def yX5_start : MethodName := ⟨RX5, "start", "(III)I"⟩
abbrev cX5_run : ByteArray := prog_1_method_4_code
def yX5_run : MethodName := ⟨RX5, "run", "(I)I"⟩
abbrev cX5_setClock : ByteArray := prog_1_method_5_code
def yX5_setClock : MethodName := ⟨RX5, "setClock", "(I)V"⟩
abbrev cX5_reset : ByteArray := prog_1_method_6_code
def yX5_reset : MethodName := ⟨RX5, "reset", "()V"⟩
abbrev cX5_clock : ByteArray := prog_1_method_7_code
def yX5_clock : MethodName := ⟨RX5, "clock", "()I"⟩
abbrev cX5_running : ByteArray := prog_1_method_8_code
def yX5_running : MethodName := ⟨RX5, "running", "()I"⟩
abbrev cX5_state : ByteArray := prog_1_method_9_code
def yX5_state : MethodName := ⟨RX5, "state", "(I)I"⟩
abbrev cX5_look : ByteArray := prog_1_method_10_code
def yX5_look : MethodName := ⟨RX5, "look", "(II)J"⟩
abbrev cX5_waiting : ByteArray := prog_1_method_11_code
def yX5_waiting : MethodName := ⟨RX5, "waiting", "(II)I"⟩
abbrev cX5_channel : ByteArray := prog_1_method_12_code
def yX5_channel : MethodName := ⟨RX5, "channel", "(I)I"⟩
abbrev cX5_messages : ByteArray := prog_1_method_13_code
def yX5_messages : MethodName := ⟨RX5, "messages", "()I"⟩
abbrev cX5_message : ByteArray := prog_1_method_14_code
def yX5_message : MethodName := ⟨RX5, "message", "(II)J"⟩
abbrev cX5_isPriority : ByteArray := prog_1_method_15_code
def yX5_isPriority : MethodName := ⟨RX5, "isPriority", "(I)Z"⟩
abbrev cX5_isProcess : ByteArray := prog_1_method_16_code
def yX5_isProcess : MethodName := ⟨RX5, "isProcess", "(I)Z"⟩
abbrev cX5_isOperand : ByteArray := prog_1_method_17_code
def yX5_isOperand : MethodName := ⟨RX5, "isOperand", "(II)Z"⟩
abbrev cX5_rowOf : ByteArray := prog_1_method_18_code
def yX5_rowOf : MethodName := ⟨RX5, "rowOf", "(I)LProcessTurns$Row;"⟩
abbrev cX5_channelAt : ByteArray := prog_1_method_19_code
def yX5_channelAt : MethodName := ⟨RX5, "channelAt", "(I)LProcessTurns$Channel;"⟩
abbrev cX5_leastFree : ByteArray := prog_1_method_20_code
def yX5_leastFree : MethodName := ⟨RX5, "leastFree", "()LProcessTurns$Proc;"⟩
abbrev cX5_startLeastFree : ByteArray := prog_1_method_21_code
def yX5_startLeastFree : MethodName := ⟨RX5, "startLeastFree", "(III)I"⟩
abbrev cX5_becomeReady : ByteArray := prog_1_method_22_code
def yX5_becomeReady : MethodName := ⟨RX5, "becomeReady", "(LProcessTurns$Proc;)V"⟩
abbrev cX5_step : ByteArray := prog_1_method_23_code
def yX5_step : MethodName := ⟨RX5, "step", "()Z"⟩
abbrev cX5_wakeThoseWhoseTimeHasCome : ByteArray := prog_1_method_24_code
def yX5_wakeThoseWhoseTimeHasCome : MethodName := ⟨RX5, "wakeThoseWhoseTimeHasCome", "()V"⟩
abbrev cX5_hasCome : ByteArray := prog_1_method_25_code
def yX5_hasCome : MethodName := ⟨RX5, "hasCome", "(I)Z"⟩
abbrev cX5_giveWayToHigh : ByteArray := prog_1_method_26_code
def yX5_giveWayToHigh : MethodName := ⟨RX5, "giveWayToHigh", "()V"⟩
abbrev cX5_takeNext : ByteArray := prog_1_method_27_code
def yX5_takeNext : MethodName := ⟨RX5, "takeNext", "()V"⟩
abbrev cX5_execute : ByteArray := prog_1_method_28_code
def yX5_execute : MethodName := ⟨RX5, "execute", "(LProcessTurns$Proc;)V"⟩
abbrev cX5_compute : ByteArray := prog_1_method_29_code
def yX5_compute : MethodName := ⟨RX5, "compute", "(LProcessTurns$Proc;II)V"⟩
abbrev cX5_jump : ByteArray := prog_1_method_30_code
def yX5_jump : MethodName := ⟨RX5, "jump", "(LProcessTurns$Proc;I)V"⟩
abbrev cX5_jumpIfZero : ByteArray := prog_1_method_31_code
def yX5_jumpIfZero : MethodName := ⟨RX5, "jumpIfZero", "(LProcessTurns$Proc;I)V"⟩
abbrev cX5_awaitTime : ByteArray := prog_1_method_32_code
def yX5_awaitTime : MethodName := ⟨RX5, "awaitTime", "(LProcessTurns$Proc;)V"⟩
abbrev cX5_send : ByteArray := prog_1_method_33_code
def yX5_send : MethodName := ⟨RX5, "send", "(LProcessTurns$Proc;LProcessTurns$Channel;)V"⟩
abbrev cX5_receive : ByteArray := prog_1_method_34_code
def yX5_receive : MethodName := ⟨RX5, "receive", "(LProcessTurns$Proc;LProcessTurns$Channel;)V"⟩
abbrev cX5_deliver : ByteArray := prog_1_method_35_code
def yX5_deliver : MethodName := ⟨RX5, "deliver", "(ILProcessTurns$Proc;LProcessTurns$Proc;I)V"⟩
def RX6 : String := "ProcessTurnsModel"
def TX6 : u_T := fun k => match k with
  | 0 => ("ProcessTurnsModel", "code", "[I", true)
  | 1 => ("ProcessTurnsModel", "length", "I", false)
  | 2 => ("ProcessTurnsModel", "state", "[I", true)
  | 3 => ("ProcessTurnsModel", "priority", "[I", true)
  | 4 => ("ProcessTurnsModel", "place", "[I", true)
  | 5 => ("ProcessTurnsModel", "cells", "[I", true)
  | 6 => ("ProcessTurnsModel", "rank", "[I", true)
  | 7 => ("ProcessTurnsModel", "until", "[I", true)
  | 8 => ("ProcessTurnsModel", "message", "[I", true)
  | 9 => ("ProcessTurnsModel", "first", "I", false)
  | 10 => ("ProcessTurnsModel", "last", "I", false)
  | 11 => ("ProcessTurnsModel", "clock", "I", false)
  | 12 => ("ProcessTurnsModel", "done", "I", false)
  | 13 => ("ProcessTurnsModel", "channel", "[I", true)
  | 14 => ("ProcessTurnsModel", "messages", "I", false)
  | _ => ("ProcessTurnsModel", "log", "[I", true)
def tyX6 : Nat → FieldType := fun k => match k with
  | 0 => .array .int
  | 1 => .int
  | 2 => .array .int
  | 3 => .array .int
  | 4 => .array .int
  | 5 => .array .int
  | 6 => .array .int
  | 7 => .array .int
  | 8 => .array .int
  | 9 => .int
  | 10 => .int
  | 11 => .int
  | 12 => .int
  | 13 => .array .int
  | 14 => .int
  | _ => .array .int
abbrev wsX60 : List Cond := u_ws RX6 TX6 16
theorem nmX6 : ∀ a, a < 16 → ∀ b, b < 16 → a ≠ b → (TX6 a).2.1 ≠ (TX6 b).2.1 := by decide +kernel
theorem tyX6_ok : ∀ k, k < 16 → parseFieldDescriptor (TX6 k).2.2.1 = some (tyX6 k) := by decide +kernel
abbrev cX6_init : ByteArray := prog_8_method_1_code
def yX6_init : MethodName := ⟨RX6, "<init>", "()V"⟩
abbrev cX6_within : ByteArray := prog_8_method_2_code
def yX6_within : MethodName := ⟨RX6, "within", "(III)Z"⟩
abbrev cX6_add : ByteArray := prog_8_method_3_code
def yX6_add : MethodName := ⟨RX6, "add", "(II)I"⟩
abbrev cX6_atEnd : ByteArray := prog_8_method_4_code
def yX6_atEnd : MethodName := ⟨RX6, "atEnd", "(I)V"⟩
abbrev cX6_begin : ByteArray := prog_8_method_5_code
def yX6_begin : MethodName := ⟨RX6, "begin", "(III)I"⟩
abbrev cX6_start : ByteArray := prog_8_method_6_code
def yX6_start : MethodName := ⟨RX6, "start", "(III)I"⟩
abbrev cX6_setClock : ByteArray := prog_8_method_7_code
def yX6_setClock : MethodName := ⟨RX6, "setClock", "(I)V"⟩
abbrev cX6_reset : ByteArray := prog_8_method_8_code
def yX6_reset : MethodName := ⟨RX6, "reset", "()V"⟩
abbrev cX6_ready : ByteArray := prog_8_method_9_code
def yX6_ready : MethodName := ⟨RX6, "ready", "(II)I"⟩
abbrev cX6_current : ByteArray := prog_8_method_10_code
def yX6_current : MethodName := ⟨RX6, "current", "()I"⟩
abbrev cX6_push : ByteArray := prog_8_method_11_code
def yX6_push : MethodName := ⟨RX6, "push", "(II)V"⟩
abbrev cX6_pull : ByteArray := prog_8_method_12_code
def yX6_pull : MethodName := ⟨RX6, "pull", "(I)V"⟩
abbrev cX6_tell : ByteArray := prog_8_method_13_code
def yX6_tell : MethodName := ⟨RX6, "tell", "(IIII)V"⟩
abbrev cX6_send : ByteArray := prog_8_method_14_code
def yX6_send : MethodName := ⟨RX6, "send", "(II)V"⟩
abbrev cX6_receive : ByteArray := prog_8_method_15_code
def yX6_receive : MethodName := ⟨RX6, "receive", "(II)V"⟩
abbrev cX6_value : ByteArray := prog_8_method_16_code
def yX6_value : MethodName := ⟨RX6, "value", "(III)I"⟩
abbrev cX6_instruction : ByteArray := prog_8_method_17_code
def yX6_instruction : MethodName := ⟨RX6, "instruction", "(I)V"⟩
abbrev cX6_step : ByteArray := prog_8_method_18_code
def yX6_step : MethodName := ⟨RX6, "step", "()Z"⟩
abbrev cX6_run : ByteArray := prog_8_method_19_code
def yX6_run : MethodName := ⟨RX6, "run", "(I)I"⟩
abbrev cX6_clock : ByteArray := prog_8_method_20_code
def yX6_clock : MethodName := ⟨RX6, "clock", "()I"⟩
abbrev cX6_running : ByteArray := prog_8_method_21_code
def yX6_running : MethodName := ⟨RX6, "running", "()I"⟩
abbrev cX6_state : ByteArray := prog_8_method_22_code
def yX6_state : MethodName := ⟨RX6, "state", "(I)I"⟩
abbrev cX6_look : ByteArray := prog_8_method_23_code
def yX6_look : MethodName := ⟨RX6, "look", "(II)J"⟩
abbrev cX6_waiting : ByteArray := prog_8_method_24_code
def yX6_waiting : MethodName := ⟨RX6, "waiting", "(II)I"⟩
abbrev cX6_channel : ByteArray := prog_8_method_25_code
def yX6_channel : MethodName := ⟨RX6, "channel", "(I)I"⟩
abbrev cX6_messages : ByteArray := prog_8_method_26_code
def yX6_messages : MethodName := ⟨RX6, "messages", "()I"⟩
abbrev cX6_message : ByteArray := prog_8_method_27_code
def yX6_message : MethodName := ⟨RX6, "message", "(II)J"⟩
def RL : String := "ProcessTurnsLaw"
abbrev cL_law : ByteArray := code
def yL_law : MethodName := ⟨RL, "law", "([I)Z"⟩
abbrev vwCl : List vw_C := [(RX0, TX0, 4), (RX1, TX1, 2), (RX2, TX2, 10), (RX3, TX3, 3), (RX4, TX4, 2), (RX5, TX5, 8), (RX6, TX6, 16)]
end
section
def T0 : List Cond := lw_tbl.filter goodWord
theorem mT {w : Cond} (h : w ∈ lw_tbl) (hg : goodWord w = true) : w ∈ T0 := List.mem_filter.mpr ⟨h, hg⟩
theorem T0_in {w : Cond} (h : w ∈ T0) : w ∈ lw_tbl := (List.mem_filter.mp h).1
theorem T0_good : GoodIn T0 T0 := fun _ h => ⟨h, good_of_word (List.mem_filter.mp h).2⟩
set_option maxRecDepth 20000 in
theorem wi_L : Cond.initialized RL ∈ T0 := mT (List.mem_append_right _ (List.mem_append_left _ (List.mem_of_getElem? (i := 0) (by decide +kernel)))) (by decide +kernel)
set_option maxRecDepth 20000 in
theorem wi_X5 : Cond.initialized RX5 ∈ T0 := mT (List.mem_append_right _ (List.mem_append_left _ (List.mem_of_getElem? (i := 1) (by decide +kernel)))) (by decide +kernel)
set_option maxRecDepth 20000 in
theorem wi_X3 : Cond.initialized RX3 ∈ T0 := mT (List.mem_append_right _ (List.mem_append_left _ (List.mem_of_getElem? (i := 2) (by decide +kernel)))) (by decide +kernel)
set_option maxRecDepth 20000 in
theorem wi_X2 : Cond.initialized RX2 ∈ T0 := mT (List.mem_append_right _ (List.mem_append_left _ (List.mem_of_getElem? (i := 3) (by decide +kernel)))) (by decide +kernel)
set_option maxRecDepth 20000 in
theorem wi_X0 : Cond.initialized RX0 ∈ T0 := mT (List.mem_append_right _ (List.mem_append_left _ (List.mem_of_getElem? (i := 4) (by decide +kernel)))) (by decide +kernel)
set_option maxRecDepth 20000 in
theorem wi_X4 : Cond.initialized RX4 ∈ T0 := mT (List.mem_append_right _ (List.mem_append_left _ (List.mem_of_getElem? (i := 5) (by decide +kernel)))) (by decide +kernel)
set_option maxRecDepth 20000 in
theorem wi_X1 : Cond.initialized RX1 ∈ T0 := mT (List.mem_append_right _ (List.mem_append_left _ (List.mem_of_getElem? (i := 6) (by decide +kernel)))) (by decide +kernel)
set_option maxRecDepth 20000 in
theorem wi_X6 : Cond.initialized RX6 ∈ T0 := mT (List.mem_append_right _ (List.mem_append_left _ (List.mem_of_getElem? (i := 7) (by decide +kernel)))) (by decide +kernel)
set_option maxRecDepth 20000 in
theorem wL_L_7 : Cond.classLink RL 7 RX5 ∈ T0 := mT (List.mem_append_right _ (List.mem_append_left _ (List.mem_of_getElem? (i := 8) (by decide +kernel)))) (by decide +kernel)
set_option maxRecDepth 20000 in
theorem wn_X5 : Cond.instantiable RX5 8 ∈ T0 := mT (List.mem_append_right _ (List.mem_append_left _ (List.mem_of_getElem? (i := 9) (by decide +kernel)))) (by decide +kernel)
set_option maxRecDepth 20000 in
theorem wM_L_9 : Cond.methodLink RL 9 yX5_init ∈ T0 := mT (List.mem_append_right _ (List.mem_append_left _ (List.mem_of_getElem? (i := 10) (by decide +kernel)))) (by decide +kernel)
set_option maxRecDepth 20000 in
theorem wN_X5_init : Cond.instanceMethod yX5_init ∈ T0 := mT (List.mem_append_right _ (List.mem_append_left _ (List.mem_of_getElem? (i := 11) (by decide +kernel)))) (by decide +kernel)
set_option maxRecDepth 20000 in
theorem wC_X5_init : Cond.code yX5_init cX5_init 2 (none : Option FieldType) ∈ T0 := mT (List.mem_append_right _ (List.mem_append_left _ (List.mem_of_getElem? (i := 12) (by decide +kernel)))) (by decide +kernel)
set_option maxRecDepth 20000 in
theorem wM_X5_1 : Cond.methodLink RX5 1 objectInit ∈ T0 := mT (List.mem_append_right _ (List.mem_append_left _ (List.mem_of_getElem? (i := 13) (by decide +kernel)))) (by decide +kernel)
set_option maxRecDepth 20000 in
theorem wN_obj : Cond.instanceMethod objectInit ∈ T0 := mT (List.mem_append_right _ (List.mem_append_left _ (List.mem_of_getElem? (i := 14) (by decide +kernel)))) (by decide +kernel)
set_option maxRecDepth 20000 in
theorem wC_obj : Cond.code objectInit ⟨#[0xb1]⟩ 1 none ∈ T0 := mT (List.mem_append_right _ (List.mem_append_left _ (List.mem_of_getElem? (i := 15) (by decide +kernel)))) (by decide +kernel)
set_option maxRecDepth 20000 in
theorem wL_X5_7 : Cond.classLink RX5 7 RX3 ∈ T0 := mT (List.mem_append_right _ (List.mem_append_left _ (List.mem_of_getElem? (i := 16) (by decide +kernel)))) (by decide +kernel)
set_option maxRecDepth 20000 in
theorem wn_X3 : Cond.instantiable RX3 3 ∈ T0 := mT (List.mem_append_right _ (List.mem_append_left _ (List.mem_of_getElem? (i := 17) (by decide +kernel)))) (by decide +kernel)
set_option maxRecDepth 20000 in
theorem wM_X5_9 : Cond.methodLink RX5 9 yX3_init ∈ T0 := mT (List.mem_append_right _ (List.mem_append_left _ (List.mem_of_getElem? (i := 18) (by decide +kernel)))) (by decide +kernel)
set_option maxRecDepth 20000 in
theorem wN_X3_init : Cond.instanceMethod yX3_init ∈ T0 := mT (List.mem_append_right _ (List.mem_append_left _ (List.mem_of_getElem? (i := 19) (by decide +kernel)))) (by decide +kernel)
set_option maxRecDepth 20000 in
theorem wC_X3_init : Cond.code yX3_init cX3_init 1 (none : Option FieldType) ∈ T0 := mT (List.mem_append_right _ (List.mem_append_left _ (List.mem_of_getElem? (i := 20) (by decide +kernel)))) (by decide +kernel)
set_option maxRecDepth 20000 in
theorem wM_X3_3 : Cond.methodLink RX3 3 objectInit ∈ T0 := mT (List.mem_append_right _ (List.mem_append_left _ (List.mem_of_getElem? (i := 21) (by decide +kernel)))) (by decide +kernel)
set_option maxRecDepth 20000 in
theorem wF_X3_9 : Cond.fieldLink RX3 9 "ProcessTurns$Program" "ops" "[I" ∈ T0 := mT (List.mem_append_right _ (List.mem_append_left _ (List.mem_of_getElem? (i := 22) (by decide +kernel)))) (by decide +kernel)
set_option maxRecDepth 20000 in
theorem wF_X3_15 : Cond.fieldLink RX3 15 "ProcessTurns$Program" "operands" "[I" ∈ T0 := mT (List.mem_append_right _ (List.mem_append_left _ (List.mem_of_getElem? (i := 23) (by decide +kernel)))) (by decide +kernel)
set_option maxRecDepth 20000 in
theorem wF_X3_18 : Cond.fieldLink RX3 18 "ProcessTurns$Program" "size" "I" ∈ T0 := mT (List.mem_append_right _ (List.mem_append_left _ (List.mem_of_getElem? (i := 24) (by decide +kernel)))) (by decide +kernel)
set_option maxRecDepth 20000 in
theorem wF_X5_61 : Cond.fieldLink RX5 61 "ProcessTurns$Program" "size" "I" ∈ T0 := mT (List.mem_append_right _ (List.mem_append_left _ (List.mem_of_getElem? (i := 25) (by decide +kernel)))) (by decide +kernel)
set_option maxRecDepth 20000 in
theorem wA_int : Cond.arrayClass FieldType.int ∈ T0 := mT (List.mem_append_right _ (List.mem_append_left _ (List.mem_of_getElem? (i := 33) (by decide +kernel)))) (by decide +kernel)
set_option maxRecDepth 20000 in
theorem wL_X5_16 : Cond.classLink RX5 16 RX2 ∈ T0 := mT (List.mem_append_right _ (List.mem_append_left _ (List.mem_of_getElem? (i := 34) (by decide +kernel)))) (by decide +kernel)
set_option maxRecDepth 20000 in
theorem wO_X2 : Cond.arrayOver (.object RX2) ∈ lw_tbl := List.mem_append_right _ (List.mem_append_left _ (List.mem_of_getElem? (i := 35) (by decide +kernel)))
set_option maxRecDepth 20000 in
theorem wn_X2 : Cond.instantiable RX2 10 ∈ T0 := mT (List.mem_append_right _ (List.mem_append_left _ (List.mem_of_getElem? (i := 36) (by decide +kernel)))) (by decide +kernel)
set_option maxRecDepth 20000 in
theorem wM_X5_22 : Cond.methodLink RX5 22 yX2_init ∈ T0 := mT (List.mem_append_right _ (List.mem_append_left _ (List.mem_of_getElem? (i := 37) (by decide +kernel)))) (by decide +kernel)
set_option maxRecDepth 20000 in
theorem wN_X2_init : Cond.instanceMethod yX2_init ∈ T0 := mT (List.mem_append_right _ (List.mem_append_left _ (List.mem_of_getElem? (i := 38) (by decide +kernel)))) (by decide +kernel)
set_option maxRecDepth 20000 in
theorem wC_X2_init : Cond.code yX2_init cX2_init 2 (none : Option FieldType) ∈ T0 := mT (List.mem_append_right _ (List.mem_append_left _ (List.mem_of_getElem? (i := 39) (by decide +kernel)))) (by decide +kernel)
set_option maxRecDepth 20000 in
theorem wM_X2_3 : Cond.methodLink RX2 3 objectInit ∈ T0 := mT (List.mem_append_right _ (List.mem_append_left _ (List.mem_of_getElem? (i := 40) (by decide +kernel)))) (by decide +kernel)
set_option maxRecDepth 20000 in
theorem wF_X2_9 : Cond.fieldLink RX2 9 "ProcessTurns$Proc" "number" "I" ∈ T0 := mT (List.mem_append_right _ (List.mem_append_left _ (List.mem_of_getElem? (i := 41) (by decide +kernel)))) (by decide +kernel)
set_option maxRecDepth 20000 in
theorem wF_X4_21 : Cond.fieldLink RX4 21 "ProcessTurns$Proc" "number" "I" ∈ T0 := mT (List.mem_append_right _ (List.mem_append_left _ (List.mem_of_getElem? (i := 42) (by decide +kernel)))) (by decide +kernel)
set_option maxRecDepth 20000 in
theorem wF_X0_31 : Cond.fieldLink RX0 31 "ProcessTurns$Proc" "number" "I" ∈ T0 := mT (List.mem_append_right _ (List.mem_append_left _ (List.mem_of_getElem? (i := 43) (by decide +kernel)))) (by decide +kernel)
set_option maxRecDepth 20000 in
theorem wF_X5_87 : Cond.fieldLink RX5 87 "ProcessTurns$Proc" "number" "I" ∈ T0 := mT (List.mem_append_right _ (List.mem_append_left _ (List.mem_of_getElem? (i := 44) (by decide +kernel)))) (by decide +kernel)
set_option maxRecDepth 20000 in
theorem wF_X2_15 : Cond.fieldLink RX2 15 "ProcessTurns$Proc" "words" "[I" ∈ T0 := mT (List.mem_append_right _ (List.mem_append_left _ (List.mem_of_getElem? (i := 45) (by decide +kernel)))) (by decide +kernel)
set_option maxRecDepth 20000 in
theorem wF_X2_19 : Cond.fieldLink RX2 19 "ProcessTurns$Proc" "state" "I" ∈ T0 := mT (List.mem_append_right _ (List.mem_append_left _ (List.mem_of_getElem? (i := 46) (by decide +kernel)))) (by decide +kernel)
set_option maxRecDepth 20000 in
theorem wF_X0_26 : Cond.fieldLink RX0 26 "ProcessTurns$Proc" "state" "I" ∈ T0 := mT (List.mem_append_right _ (List.mem_append_left _ (List.mem_of_getElem? (i := 47) (by decide +kernel)))) (by decide +kernel)
set_option maxRecDepth 20000 in
theorem wF_X5_80 : Cond.fieldLink RX5 80 "ProcessTurns$Proc" "state" "I" ∈ T0 := mT (List.mem_append_right _ (List.mem_append_left _ (List.mem_of_getElem? (i := 48) (by decide +kernel)))) (by decide +kernel)
set_option maxRecDepth 20000 in
theorem wF_X2_22 : Cond.fieldLink RX2 22 "ProcessTurns$Proc" "priority" "I" ∈ T0 := mT (List.mem_append_right _ (List.mem_append_left _ (List.mem_of_getElem? (i := 49) (by decide +kernel)))) (by decide +kernel)
set_option maxRecDepth 20000 in
theorem wF_X5_133 : Cond.fieldLink RX5 133 "ProcessTurns$Proc" "priority" "I" ∈ T0 := mT (List.mem_append_right _ (List.mem_append_left _ (List.mem_of_getElem? (i := 50) (by decide +kernel)))) (by decide +kernel)
set_option maxRecDepth 20000 in
theorem wF_X2_25 : Cond.fieldLink RX2 25 "ProcessTurns$Proc" "place" "I" ∈ T0 := mT (List.mem_append_right _ (List.mem_append_left _ (List.mem_of_getElem? (i := 51) (by decide +kernel)))) (by decide +kernel)
set_option maxRecDepth 20000 in
theorem wF_X5_167 : Cond.fieldLink RX5 167 "ProcessTurns$Proc" "place" "I" ∈ T0 := mT (List.mem_append_right _ (List.mem_append_left _ (List.mem_of_getElem? (i := 52) (by decide +kernel)))) (by decide +kernel)
set_option maxRecDepth 20000 in
theorem wF_X2_28 : Cond.fieldLink RX2 28 "ProcessTurns$Proc" "a" "I" ∈ T0 := mT (List.mem_append_right _ (List.mem_append_left _ (List.mem_of_getElem? (i := 53) (by decide +kernel)))) (by decide +kernel)
set_option maxRecDepth 20000 in
theorem wF_X5_193 : Cond.fieldLink RX5 193 "ProcessTurns$Proc" "a" "I" ∈ T0 := mT (List.mem_append_right _ (List.mem_append_left _ (List.mem_of_getElem? (i := 54) (by decide +kernel)))) (by decide +kernel)
set_option maxRecDepth 20000 in
theorem wF_X2_31 : Cond.fieldLink RX2 31 "ProcessTurns$Proc" "b" "I" ∈ T0 := mT (List.mem_append_right _ (List.mem_append_left _ (List.mem_of_getElem? (i := 55) (by decide +kernel)))) (by decide +kernel)
set_option maxRecDepth 20000 in
theorem wF_X5_213 : Cond.fieldLink RX5 213 "ProcessTurns$Proc" "b" "I" ∈ T0 := mT (List.mem_append_right _ (List.mem_append_left _ (List.mem_of_getElem? (i := 56) (by decide +kernel)))) (by decide +kernel)
set_option maxRecDepth 20000 in
theorem wF_X2_34 : Cond.fieldLink RX2 34 "ProcessTurns$Proc" "c" "I" ∈ T0 := mT (List.mem_append_right _ (List.mem_append_left _ (List.mem_of_getElem? (i := 57) (by decide +kernel)))) (by decide +kernel)
set_option maxRecDepth 20000 in
theorem wF_X5_151 : Cond.fieldLink RX5 151 "ProcessTurns$Proc" "wakeTime" "I" ∈ T0 := mT (List.mem_append_right _ (List.mem_append_left _ (List.mem_of_getElem? (i := 58) (by decide +kernel)))) (by decide +kernel)
set_option maxRecDepth 20000 in
theorem wF_X5_164 : Cond.fieldLink RX5 164 "ProcessTurns$Proc" "done" "I" ∈ T0 := mT (List.mem_append_right _ (List.mem_append_left _ (List.mem_of_getElem? (i := 59) (by decide +kernel)))) (by decide +kernel)
set_option maxRecDepth 20000 in
theorem wL_X5_25 : Cond.classLink RX5 25 RX0 ∈ T0 := mT (List.mem_append_right _ (List.mem_append_left _ (List.mem_of_getElem? (i := 81) (by decide +kernel)))) (by decide +kernel)
set_option maxRecDepth 20000 in
theorem wO_X0 : Cond.arrayOver (.object RX0) ∈ lw_tbl := List.mem_append_right _ (List.mem_append_left _ (List.mem_of_getElem? (i := 82) (by decide +kernel)))
set_option maxRecDepth 20000 in
theorem wn_X0 : Cond.instantiable RX0 4 ∈ T0 := mT (List.mem_append_right _ (List.mem_append_left _ (List.mem_of_getElem? (i := 83) (by decide +kernel)))) (by decide +kernel)
set_option maxRecDepth 20000 in
theorem wM_X5_31 : Cond.methodLink RX5 31 yX0_init ∈ T0 := mT (List.mem_append_right _ (List.mem_append_left _ (List.mem_of_getElem? (i := 84) (by decide +kernel)))) (by decide +kernel)
set_option maxRecDepth 20000 in
theorem wN_X0_init : Cond.instanceMethod yX0_init ∈ T0 := mT (List.mem_append_right _ (List.mem_append_left _ (List.mem_of_getElem? (i := 85) (by decide +kernel)))) (by decide +kernel)
set_option maxRecDepth 20000 in
theorem wC_X0_init : Cond.code yX0_init cX0_init 2 (none : Option FieldType) ∈ T0 := mT (List.mem_append_right _ (List.mem_append_left _ (List.mem_of_getElem? (i := 86) (by decide +kernel)))) (by decide +kernel)
set_option maxRecDepth 20000 in
theorem wM_X0_3 : Cond.methodLink RX0 3 objectInit ∈ T0 := mT (List.mem_append_right _ (List.mem_append_left _ (List.mem_of_getElem? (i := 87) (by decide +kernel)))) (by decide +kernel)
set_option maxRecDepth 20000 in
theorem wF_X0_9 : Cond.fieldLink RX0 9 "ProcessTurns$Channel" "number" "I" ∈ T0 := mT (List.mem_append_right _ (List.mem_append_left _ (List.mem_of_getElem? (i := 88) (by decide +kernel)))) (by decide +kernel)
set_option maxRecDepth 20000 in
theorem wF_X5_229 : Cond.fieldLink RX5 229 "ProcessTurns$Channel" "number" "I" ∈ T0 := mT (List.mem_append_right _ (List.mem_append_left _ (List.mem_of_getElem? (i := 89) (by decide +kernel)))) (by decide +kernel)
set_option maxRecDepth 20000 in
theorem wF_X0_15 : Cond.fieldLink RX0 15 "ProcessTurns$Channel" "waiter" "LProcessTurns$Proc;" ∈ T0 := mT (List.mem_append_right _ (List.mem_append_left _ (List.mem_of_getElem? (i := 90) (by decide +kernel)))) (by decide +kernel)
set_option maxRecDepth 20000 in
theorem wF_X5_222 : Cond.fieldLink RX5 222 "ProcessTurns$Channel" "waiter" "LProcessTurns$Proc;" ∈ T0 := mT (List.mem_append_right _ (List.mem_append_left _ (List.mem_of_getElem? (i := 91) (by decide +kernel)))) (by decide +kernel)
set_option maxRecDepth 20000 in
theorem wF_X0_19 : Cond.fieldLink RX0 19 "ProcessTurns$Channel" "waiterSends" "Z" ∈ T0 := mT (List.mem_append_right _ (List.mem_append_left _ (List.mem_of_getElem? (i := 92) (by decide +kernel)))) (by decide +kernel)
set_option maxRecDepth 20000 in
theorem wF_X0_23 : Cond.fieldLink RX0 23 "ProcessTurns$Channel" "message" "I" ∈ T0 := mT (List.mem_append_right _ (List.mem_append_left _ (List.mem_of_getElem? (i := 93) (by decide +kernel)))) (by decide +kernel)
set_option maxRecDepth 20000 in
theorem wF_X5_237 : Cond.fieldLink RX5 237 "ProcessTurns$Channel" "message" "I" ∈ T0 := mT (List.mem_append_right _ (List.mem_append_left _ (List.mem_of_getElem? (i := 94) (by decide +kernel)))) (by decide +kernel)
set_option maxRecDepth 20000 in
theorem wL_X5_32 : Cond.classLink RX5 32 RX4 ∈ T0 := mT (List.mem_append_right _ (List.mem_append_left _ (List.mem_of_getElem? (i := 104) (by decide +kernel)))) (by decide +kernel)
set_option maxRecDepth 20000 in
theorem wn_X4 : Cond.instantiable RX4 2 ∈ T0 := mT (List.mem_append_right _ (List.mem_append_left _ (List.mem_of_getElem? (i := 105) (by decide +kernel)))) (by decide +kernel)
set_option maxRecDepth 20000 in
theorem wM_X5_34 : Cond.methodLink RX5 34 yX4_init ∈ T0 := mT (List.mem_append_right _ (List.mem_append_left _ (List.mem_of_getElem? (i := 106) (by decide +kernel)))) (by decide +kernel)
set_option maxRecDepth 20000 in
theorem wN_X4_init : Cond.instanceMethod yX4_init ∈ T0 := mT (List.mem_append_right _ (List.mem_append_left _ (List.mem_of_getElem? (i := 107) (by decide +kernel)))) (by decide +kernel)
set_option maxRecDepth 20000 in
theorem wC_X4_init : Cond.code yX4_init cX4_init 1 (none : Option FieldType) ∈ T0 := mT (List.mem_append_right _ (List.mem_append_left _ (List.mem_of_getElem? (i := 108) (by decide +kernel)))) (by decide +kernel)
set_option maxRecDepth 20000 in
theorem wM_X4_3 : Cond.methodLink RX4 3 objectInit ∈ T0 := mT (List.mem_append_right _ (List.mem_append_left _ (List.mem_of_getElem? (i := 109) (by decide +kernel)))) (by decide +kernel)
set_option maxRecDepth 20000 in
theorem wL_X4_9 : Cond.classLink RX4 9 RX2 ∈ T0 := mT (List.mem_append_right _ (List.mem_append_left _ (List.mem_of_getElem? (i := 110) (by decide +kernel)))) (by decide +kernel)
set_option maxRecDepth 20000 in
theorem wF_X4_11 : Cond.fieldLink RX4 11 "ProcessTurns$Row" "members" "[LProcessTurns$Proc;" ∈ T0 := mT (List.mem_append_right _ (List.mem_append_left _ (List.mem_of_getElem? (i := 111) (by decide +kernel)))) (by decide +kernel)
set_option maxRecDepth 20000 in
theorem wF_X4_17 : Cond.fieldLink RX4 17 "ProcessTurns$Row" "size" "I" ∈ T0 := mT (List.mem_append_right _ (List.mem_append_left _ (List.mem_of_getElem? (i := 112) (by decide +kernel)))) (by decide +kernel)
set_option maxRecDepth 20000 in
theorem wF_X5_157 : Cond.fieldLink RX5 157 "ProcessTurns$Row" "size" "I" ∈ T0 := mT (List.mem_append_right _ (List.mem_append_left _ (List.mem_of_getElem? (i := 113) (by decide +kernel)))) (by decide +kernel)
set_option maxRecDepth 20000 in
theorem wL_X5_42 : Cond.classLink RX5 42 RX1 ∈ T0 := mT (List.mem_append_right _ (List.mem_append_left _ (List.mem_of_getElem? (i := 119) (by decide +kernel)))) (by decide +kernel)
set_option maxRecDepth 20000 in
theorem wn_X1 : Cond.instantiable RX1 2 ∈ T0 := mT (List.mem_append_right _ (List.mem_append_left _ (List.mem_of_getElem? (i := 120) (by decide +kernel)))) (by decide +kernel)
set_option maxRecDepth 20000 in
theorem wM_X5_44 : Cond.methodLink RX5 44 yX1_init ∈ T0 := mT (List.mem_append_right _ (List.mem_append_left _ (List.mem_of_getElem? (i := 121) (by decide +kernel)))) (by decide +kernel)
set_option maxRecDepth 20000 in
theorem wN_X1_init : Cond.instanceMethod yX1_init ∈ T0 := mT (List.mem_append_right _ (List.mem_append_left _ (List.mem_of_getElem? (i := 122) (by decide +kernel)))) (by decide +kernel)
set_option maxRecDepth 20000 in
theorem wC_X1_init : Cond.code yX1_init cX1_init 1 (none : Option FieldType) ∈ T0 := mT (List.mem_append_right _ (List.mem_append_left _ (List.mem_of_getElem? (i := 123) (by decide +kernel)))) (by decide +kernel)
set_option maxRecDepth 20000 in
theorem wM_X1_3 : Cond.methodLink RX1 3 objectInit ∈ T0 := mT (List.mem_append_right _ (List.mem_append_left _ (List.mem_of_getElem? (i := 124) (by decide +kernel)))) (by decide +kernel)
set_option maxRecDepth 20000 in
theorem wF_X1_9 : Cond.fieldLink RX1 9 "ProcessTurns$Log" "parts" "[I" ∈ T0 := mT (List.mem_append_right _ (List.mem_append_left _ (List.mem_of_getElem? (i := 125) (by decide +kernel)))) (by decide +kernel)
set_option maxRecDepth 20000 in
theorem wF_X1_15 : Cond.fieldLink RX1 15 "ProcessTurns$Log" "count" "I" ∈ T0 := mT (List.mem_append_right _ (List.mem_append_left _ (List.mem_of_getElem? (i := 126) (by decide +kernel)))) (by decide +kernel)
set_option maxRecDepth 20000 in
theorem wF_X5_115 : Cond.fieldLink RX5 115 "ProcessTurns$Log" "count" "I" ∈ T0 := mT (List.mem_append_right _ (List.mem_append_left _ (List.mem_of_getElem? (i := 127) (by decide +kernel)))) (by decide +kernel)
set_option maxRecDepth 20000 in
theorem wF_X5_10 : Cond.fieldLink RX5 10 "ProcessTurns" "program" "LProcessTurns$Program;" ∈ T0 := mT (List.mem_append_right _ (List.mem_append_left _ (List.mem_of_getElem? (i := 133) (by decide +kernel)))) (by decide +kernel)
set_option maxRecDepth 20000 in
theorem wF_X5_18 : Cond.fieldLink RX5 18 "ProcessTurns" "processes" "[LProcessTurns$Proc;" ∈ T0 := mT (List.mem_append_right _ (List.mem_append_left _ (List.mem_of_getElem? (i := 134) (by decide +kernel)))) (by decide +kernel)
set_option maxRecDepth 20000 in
theorem wF_X5_27 : Cond.fieldLink RX5 27 "ProcessTurns" "channels" "[LProcessTurns$Channel;" ∈ T0 := mT (List.mem_append_right _ (List.mem_append_left _ (List.mem_of_getElem? (i := 135) (by decide +kernel)))) (by decide +kernel)
set_option maxRecDepth 20000 in
theorem wF_X5_35 : Cond.fieldLink RX5 35 "ProcessTurns" "highRow" "LProcessTurns$Row;" ∈ T0 := mT (List.mem_append_right _ (List.mem_append_left _ (List.mem_of_getElem? (i := 136) (by decide +kernel)))) (by decide +kernel)
set_option maxRecDepth 20000 in
theorem wF_X5_39 : Cond.fieldLink RX5 39 "ProcessTurns" "lowRow" "LProcessTurns$Row;" ∈ T0 := mT (List.mem_append_right _ (List.mem_append_left _ (List.mem_of_getElem? (i := 137) (by decide +kernel)))) (by decide +kernel)
set_option maxRecDepth 20000 in
theorem wF_X5_45 : Cond.fieldLink RX5 45 "ProcessTurns" "log" "LProcessTurns$Log;" ∈ T0 := mT (List.mem_append_right _ (List.mem_append_left _ (List.mem_of_getElem? (i := 138) (by decide +kernel)))) (by decide +kernel)
set_option maxRecDepth 20000 in
theorem wF_X5_49 : Cond.fieldLink RX5 49 "ProcessTurns" "active" "LProcessTurns$Proc;" ∈ T0 := mT (List.mem_append_right _ (List.mem_append_left _ (List.mem_of_getElem? (i := 139) (by decide +kernel)))) (by decide +kernel)
set_option maxRecDepth 20000 in
theorem wF_X5_53 : Cond.fieldLink RX5 53 "ProcessTurns" "time" "I" ∈ T0 := mT (List.mem_append_right _ (List.mem_append_left _ (List.mem_of_getElem? (i := 140) (by decide +kernel)))) (by decide +kernel)
set_option maxRecDepth 20000 in
theorem wM_L_13 : Cond.methodLink RL 13 yX5_add ∈ T0 := mT (List.mem_append_right _ (List.mem_append_left _ (List.mem_of_getElem? (i := 158) (by decide +kernel)))) (by decide +kernel)
set_option maxRecDepth 20000 in
theorem wN_X5_add : Cond.instanceMethod yX5_add ∈ T0 := mT (List.mem_append_right _ (List.mem_append_left _ (List.mem_of_getElem? (i := 159) (by decide +kernel)))) (by decide +kernel)
set_option maxRecDepth 20000 in
theorem wS_X5_add : Cond.selects RX5 yX5_add yX5_add ∈ T0 := mT (List.mem_append_right _ (List.mem_append_left _ (List.mem_of_getElem? (i := 160) (by decide +kernel)))) (by decide +kernel)
set_option maxRecDepth 20000 in
theorem wC_X5_add : Cond.code yX5_add cX5_add 3 (some FieldType.int) ∈ T0 := mT (List.mem_append_right _ (List.mem_append_left _ (List.mem_of_getElem? (i := 161) (by decide +kernel)))) (by decide +kernel)
set_option maxRecDepth 20000 in
theorem wM_X5_57 : Cond.methodLink RX5 57 yX5_isOperand ∈ T0 := mT (List.mem_append_right _ (List.mem_append_left _ (List.mem_of_getElem? (i := 162) (by decide +kernel)))) (by decide +kernel)
set_option maxRecDepth 20000 in
theorem wT_X5_isOperand : Cond.static yX5_isOperand ∈ T0 := mT (List.mem_append_right _ (List.mem_append_left _ (List.mem_of_getElem? (i := 163) (by decide +kernel)))) (by decide +kernel)
set_option maxRecDepth 20000 in
theorem wC_X5_isOperand : Cond.code yX5_isOperand cX5_isOperand 2 (some FieldType.boolean) ∈ T0 := mT (List.mem_append_right _ (List.mem_append_left _ (List.mem_of_getElem? (i := 164) (by decide +kernel)))) (by decide +kernel)
set_option maxRecDepth 20000 in
theorem wM_X5_64 : Cond.methodLink RX5 64 yX3_append ∈ T0 := mT (List.mem_append_right _ (List.mem_append_left _ (List.mem_of_getElem? (i := 165) (by decide +kernel)))) (by decide +kernel)
set_option maxRecDepth 20000 in
theorem wN_X3_append : Cond.instanceMethod yX3_append ∈ T0 := mT (List.mem_append_right _ (List.mem_append_left _ (List.mem_of_getElem? (i := 166) (by decide +kernel)))) (by decide +kernel)
set_option maxRecDepth 20000 in
theorem wS_X3_append : Cond.selects RX3 yX3_append yX3_append ∈ T0 := mT (List.mem_append_right _ (List.mem_append_left _ (List.mem_of_getElem? (i := 167) (by decide +kernel)))) (by decide +kernel)
set_option maxRecDepth 20000 in
theorem wC_X3_append : Cond.code yX3_append cX3_append 4 (some FieldType.int) ∈ T0 := mT (List.mem_append_right _ (List.mem_append_left _ (List.mem_of_getElem? (i := 168) (by decide +kernel)))) (by decide +kernel)
set_option maxRecDepth 20000 in
theorem wM_L_18 : Cond.methodLink RL 18 yX5_start ∈ T0 := mT (List.mem_append_right _ (List.mem_append_left _ (List.mem_of_getElem? (i := 169) (by decide +kernel)))) (by decide +kernel)
set_option maxRecDepth 20000 in
theorem wN_X5_start : Cond.instanceMethod yX5_start ∈ T0 := mT (List.mem_append_right _ (List.mem_append_left _ (List.mem_of_getElem? (i := 170) (by decide +kernel)))) (by decide +kernel)
set_option maxRecDepth 20000 in
theorem wS_X5_start : Cond.selects RX5 yX5_start yX5_start ∈ T0 := mT (List.mem_append_right _ (List.mem_append_left _ (List.mem_of_getElem? (i := 171) (by decide +kernel)))) (by decide +kernel)
set_option maxRecDepth 20000 in
theorem wC_X5_start : Cond.code yX5_start cX5_start 5 (some FieldType.int) ∈ T0 := mT (List.mem_append_right _ (List.mem_append_left _ (List.mem_of_getElem? (i := 172) (by decide +kernel)))) (by decide +kernel)
set_option maxRecDepth 20000 in
theorem wM_X5_68 : Cond.methodLink RX5 68 yX5_isPriority ∈ T0 := mT (List.mem_append_right _ (List.mem_append_left _ (List.mem_of_getElem? (i := 173) (by decide +kernel)))) (by decide +kernel)
set_option maxRecDepth 20000 in
theorem wT_X5_isPriority : Cond.static yX5_isPriority ∈ T0 := mT (List.mem_append_right _ (List.mem_append_left _ (List.mem_of_getElem? (i := 174) (by decide +kernel)))) (by decide +kernel)
set_option maxRecDepth 20000 in
theorem wC_X5_isPriority : Cond.code yX5_isPriority cX5_isPriority 1 (some FieldType.boolean) ∈ T0 := mT (List.mem_append_right _ (List.mem_append_left _ (List.mem_of_getElem? (i := 175) (by decide +kernel)))) (by decide +kernel)
set_option maxRecDepth 20000 in
theorem wM_X5_72 : Cond.methodLink RX5 72 yX5_startLeastFree ∈ T0 := mT (List.mem_append_right _ (List.mem_append_left _ (List.mem_of_getElem? (i := 176) (by decide +kernel)))) (by decide +kernel)
set_option maxRecDepth 20000 in
theorem wN_X5_startLeastFree : Cond.instanceMethod yX5_startLeastFree ∈ T0 := mT (List.mem_append_right _ (List.mem_append_left _ (List.mem_of_getElem? (i := 178) (by decide +kernel)))) (by decide +kernel)
set_option maxRecDepth 20000 in
theorem wC_X5_startLeastFree : Cond.code yX5_startLeastFree cX5_startLeastFree 5 (some FieldType.int) ∈ T0 := mT (List.mem_append_right _ (List.mem_append_left _ (List.mem_of_getElem? (i := 179) (by decide +kernel)))) (by decide +kernel)
set_option maxRecDepth 20000 in
theorem wM_X5_121 : Cond.methodLink RX5 121 yX5_leastFree ∈ T0 := mT (List.mem_append_right _ (List.mem_append_left _ (List.mem_of_getElem? (i := 180) (by decide +kernel)))) (by decide +kernel)
set_option maxRecDepth 20000 in
theorem wN_X5_leastFree : Cond.instanceMethod yX5_leastFree ∈ T0 := mT (List.mem_append_right _ (List.mem_append_left _ (List.mem_of_getElem? (i := 182) (by decide +kernel)))) (by decide +kernel)
set_option maxRecDepth 20000 in
theorem wC_X5_leastFree : Cond.code yX5_leastFree cX5_leastFree 2 (some (FieldType.object "ProcessTurns$Proc")) ∈ T0 := mT (List.mem_append_right _ (List.mem_append_left _ (List.mem_of_getElem? (i := 183) (by decide +kernel)))) (by decide +kernel)
set_option maxRecDepth 20000 in
theorem wM_X5_125 : Cond.methodLink RX5 125 yX2_begin ∈ T0 := mT (List.mem_append_right _ (List.mem_append_left _ (List.mem_of_getElem? (i := 184) (by decide +kernel)))) (by decide +kernel)
set_option maxRecDepth 20000 in
theorem wN_X2_begin : Cond.instanceMethod yX2_begin ∈ T0 := mT (List.mem_append_right _ (List.mem_append_left _ (List.mem_of_getElem? (i := 185) (by decide +kernel)))) (by decide +kernel)
set_option maxRecDepth 20000 in
theorem wS_X2_begin : Cond.selects RX2 yX2_begin yX2_begin ∈ T0 := mT (List.mem_append_right _ (List.mem_append_left _ (List.mem_of_getElem? (i := 186) (by decide +kernel)))) (by decide +kernel)
set_option maxRecDepth 20000 in
theorem wC_X2_begin : Cond.code yX2_begin cX2_begin 5 (none : Option FieldType) ∈ T0 := mT (List.mem_append_right _ (List.mem_append_left _ (List.mem_of_getElem? (i := 187) (by decide +kernel)))) (by decide +kernel)
set_option maxRecDepth 20000 in
theorem wM_X5_129 : Cond.methodLink RX5 129 yX5_becomeReady ∈ T0 := mT (List.mem_append_right _ (List.mem_append_left _ (List.mem_of_getElem? (i := 188) (by decide +kernel)))) (by decide +kernel)
set_option maxRecDepth 20000 in
theorem wN_X5_becomeReady : Cond.instanceMethod yX5_becomeReady ∈ T0 := mT (List.mem_append_right _ (List.mem_append_left _ (List.mem_of_getElem? (i := 190) (by decide +kernel)))) (by decide +kernel)
set_option maxRecDepth 20000 in
theorem wC_X5_becomeReady : Cond.code yX5_becomeReady cX5_becomeReady 2 (none : Option FieldType) ∈ T0 := mT (List.mem_append_right _ (List.mem_append_left _ (List.mem_of_getElem? (i := 191) (by decide +kernel)))) (by decide +kernel)
set_option maxRecDepth 20000 in
theorem wM_X5_99 : Cond.methodLink RX5 99 yX5_rowOf ∈ T0 := mT (List.mem_append_right _ (List.mem_append_left _ (List.mem_of_getElem? (i := 192) (by decide +kernel)))) (by decide +kernel)
set_option maxRecDepth 20000 in
theorem wN_X5_rowOf : Cond.instanceMethod yX5_rowOf ∈ T0 := mT (List.mem_append_right _ (List.mem_append_left _ (List.mem_of_getElem? (i := 194) (by decide +kernel)))) (by decide +kernel)
set_option maxRecDepth 20000 in
theorem wC_X5_rowOf : Cond.code yX5_rowOf cX5_rowOf 2 (some (FieldType.object "ProcessTurns$Row")) ∈ T0 := mT (List.mem_append_right _ (List.mem_append_left _ (List.mem_of_getElem? (i := 195) (by decide +kernel)))) (by decide +kernel)
set_option maxRecDepth 20000 in
theorem wM_X5_136 : Cond.methodLink RX5 136 yX4_putLast ∈ T0 := mT (List.mem_append_right _ (List.mem_append_left _ (List.mem_of_getElem? (i := 196) (by decide +kernel)))) (by decide +kernel)
set_option maxRecDepth 20000 in
theorem wN_X4_putLast : Cond.instanceMethod yX4_putLast ∈ T0 := mT (List.mem_append_right _ (List.mem_append_left _ (List.mem_of_getElem? (i := 197) (by decide +kernel)))) (by decide +kernel)
set_option maxRecDepth 20000 in
theorem wS_X4_putLast : Cond.selects RX4 yX4_putLast yX4_putLast ∈ T0 := mT (List.mem_append_right _ (List.mem_append_left _ (List.mem_of_getElem? (i := 198) (by decide +kernel)))) (by decide +kernel)
set_option maxRecDepth 20000 in
theorem wC_X4_putLast : Cond.code yX4_putLast cX4_putLast 2 (none : Option FieldType) ∈ T0 := mT (List.mem_append_right _ (List.mem_append_left _ (List.mem_of_getElem? (i := 199) (by decide +kernel)))) (by decide +kernel)
set_option maxRecDepth 20000 in
theorem wM_L_23 : Cond.methodLink RL 23 yX5_run ∈ T0 := mT (List.mem_append_right _ (List.mem_append_left _ (List.mem_of_getElem? (i := 200) (by decide +kernel)))) (by decide +kernel)
set_option maxRecDepth 20000 in
theorem wN_X5_run : Cond.instanceMethod yX5_run ∈ T0 := mT (List.mem_append_right _ (List.mem_append_left _ (List.mem_of_getElem? (i := 201) (by decide +kernel)))) (by decide +kernel)
set_option maxRecDepth 20000 in
theorem wS_X5_run : Cond.selects RX5 yX5_run yX5_run ∈ T0 := mT (List.mem_append_right _ (List.mem_append_left _ (List.mem_of_getElem? (i := 202) (by decide +kernel)))) (by decide +kernel)
set_option maxRecDepth 20000 in
theorem wC_X5_run : Cond.code yX5_run cX5_run 4 (some FieldType.int) ∈ T0 := mT (List.mem_append_right _ (List.mem_append_left _ (List.mem_of_getElem? (i := 203) (by decide +kernel)))) (by decide +kernel)
set_option maxRecDepth 20000 in
theorem wM_X5_76 : Cond.methodLink RX5 76 yX5_step ∈ T0 := mT (List.mem_append_right _ (List.mem_append_left _ (List.mem_of_getElem? (i := 204) (by decide +kernel)))) (by decide +kernel)
set_option maxRecDepth 20000 in
theorem wN_X5_step : Cond.instanceMethod yX5_step ∈ T0 := mT (List.mem_append_right _ (List.mem_append_left _ (List.mem_of_getElem? (i := 206) (by decide +kernel)))) (by decide +kernel)
set_option maxRecDepth 20000 in
theorem wC_X5_step : Cond.code yX5_step cX5_step 2 (some FieldType.boolean) ∈ T0 := mT (List.mem_append_right _ (List.mem_append_left _ (List.mem_of_getElem? (i := 207) (by decide +kernel)))) (by decide +kernel)
set_option maxRecDepth 20000 in
theorem wM_X5_139 : Cond.methodLink RX5 139 yX5_wakeThoseWhoseTimeHasCome ∈ T0 := mT (List.mem_append_right _ (List.mem_append_left _ (List.mem_of_getElem? (i := 208) (by decide +kernel)))) (by decide +kernel)
set_option maxRecDepth 20000 in
theorem wN_X5_wakeThoseWhoseTimeHasCome : Cond.instanceMethod yX5_wakeThoseWhoseTimeHasCome ∈ T0 := mT (List.mem_append_right _ (List.mem_append_left _ (List.mem_of_getElem? (i := 210) (by decide +kernel)))) (by decide +kernel)
set_option maxRecDepth 20000 in
theorem wC_X5_wakeThoseWhoseTimeHasCome : Cond.code yX5_wakeThoseWhoseTimeHasCome cX5_wakeThoseWhoseTimeHasCome 2 (none : Option FieldType) ∈ T0 := mT (List.mem_append_right _ (List.mem_append_left _ (List.mem_of_getElem? (i := 211) (by decide +kernel)))) (by decide +kernel)
set_option maxRecDepth 20000 in
theorem wM_X5_154 : Cond.methodLink RX5 154 yX5_hasCome ∈ T0 := mT (List.mem_append_right _ (List.mem_append_left _ (List.mem_of_getElem? (i := 212) (by decide +kernel)))) (by decide +kernel)
set_option maxRecDepth 20000 in
theorem wN_X5_hasCome : Cond.instanceMethod yX5_hasCome ∈ T0 := mT (List.mem_append_right _ (List.mem_append_left _ (List.mem_of_getElem? (i := 214) (by decide +kernel)))) (by decide +kernel)
set_option maxRecDepth 20000 in
theorem wC_X5_hasCome : Cond.code yX5_hasCome cX5_hasCome 2 (some FieldType.boolean) ∈ T0 := mT (List.mem_append_right _ (List.mem_append_left _ (List.mem_of_getElem? (i := 215) (by decide +kernel)))) (by decide +kernel)
set_option maxRecDepth 20000 in
theorem wM_X5_142 : Cond.methodLink RX5 142 yX5_giveWayToHigh ∈ T0 := mT (List.mem_append_right _ (List.mem_append_left _ (List.mem_of_getElem? (i := 216) (by decide +kernel)))) (by decide +kernel)
set_option maxRecDepth 20000 in
theorem wN_X5_giveWayToHigh : Cond.instanceMethod yX5_giveWayToHigh ∈ T0 := mT (List.mem_append_right _ (List.mem_append_left _ (List.mem_of_getElem? (i := 218) (by decide +kernel)))) (by decide +kernel)
set_option maxRecDepth 20000 in
theorem wC_X5_giveWayToHigh : Cond.code yX5_giveWayToHigh cX5_giveWayToHigh 1 (none : Option FieldType) ∈ T0 := mT (List.mem_append_right _ (List.mem_append_left _ (List.mem_of_getElem? (i := 219) (by decide +kernel)))) (by decide +kernel)
set_option maxRecDepth 20000 in
theorem wM_X5_158 : Cond.methodLink RX5 158 yX4_putFirst ∈ T0 := mT (List.mem_append_right _ (List.mem_append_left _ (List.mem_of_getElem? (i := 220) (by decide +kernel)))) (by decide +kernel)
set_option maxRecDepth 20000 in
theorem wN_X4_putFirst : Cond.instanceMethod yX4_putFirst ∈ T0 := mT (List.mem_append_right _ (List.mem_append_left _ (List.mem_of_getElem? (i := 221) (by decide +kernel)))) (by decide +kernel)
set_option maxRecDepth 20000 in
theorem wS_X4_putFirst : Cond.selects RX4 yX4_putFirst yX4_putFirst ∈ T0 := mT (List.mem_append_right _ (List.mem_append_left _ (List.mem_of_getElem? (i := 222) (by decide +kernel)))) (by decide +kernel)
set_option maxRecDepth 20000 in
theorem wC_X4_putFirst : Cond.code yX4_putFirst cX4_putFirst 3 (none : Option FieldType) ∈ T0 := mT (List.mem_append_right _ (List.mem_append_left _ (List.mem_of_getElem? (i := 223) (by decide +kernel)))) (by decide +kernel)
set_option maxRecDepth 20000 in
theorem wM_X5_145 : Cond.methodLink RX5 145 yX5_takeNext ∈ T0 := mT (List.mem_append_right _ (List.mem_append_left _ (List.mem_of_getElem? (i := 224) (by decide +kernel)))) (by decide +kernel)
set_option maxRecDepth 20000 in
theorem wN_X5_takeNext : Cond.instanceMethod yX5_takeNext ∈ T0 := mT (List.mem_append_right _ (List.mem_append_left _ (List.mem_of_getElem? (i := 226) (by decide +kernel)))) (by decide +kernel)
set_option maxRecDepth 20000 in
theorem wC_X5_takeNext : Cond.code yX5_takeNext cX5_takeNext 1 (none : Option FieldType) ∈ T0 := mT (List.mem_append_right _ (List.mem_append_left _ (List.mem_of_getElem? (i := 227) (by decide +kernel)))) (by decide +kernel)
set_option maxRecDepth 20000 in
theorem wM_X5_161 : Cond.methodLink RX5 161 yX4_takeFirst ∈ T0 := mT (List.mem_append_right _ (List.mem_append_left _ (List.mem_of_getElem? (i := 228) (by decide +kernel)))) (by decide +kernel)
set_option maxRecDepth 20000 in
theorem wN_X4_takeFirst : Cond.instanceMethod yX4_takeFirst ∈ T0 := mT (List.mem_append_right _ (List.mem_append_left _ (List.mem_of_getElem? (i := 229) (by decide +kernel)))) (by decide +kernel)
set_option maxRecDepth 20000 in
theorem wS_X4_takeFirst : Cond.selects RX4 yX4_takeFirst yX4_takeFirst ∈ T0 := mT (List.mem_append_right _ (List.mem_append_left _ (List.mem_of_getElem? (i := 230) (by decide +kernel)))) (by decide +kernel)
set_option maxRecDepth 20000 in
theorem wC_X4_takeFirst : Cond.code yX4_takeFirst cX4_takeFirst 3 (some (FieldType.object "ProcessTurns$Proc")) ∈ T0 := mT (List.mem_append_right _ (List.mem_append_left _ (List.mem_of_getElem? (i := 231) (by decide +kernel)))) (by decide +kernel)
set_option maxRecDepth 20000 in
theorem wM_X5_148 : Cond.methodLink RX5 148 yX5_execute ∈ T0 := mT (List.mem_append_right _ (List.mem_append_left _ (List.mem_of_getElem? (i := 232) (by decide +kernel)))) (by decide +kernel)
set_option maxRecDepth 20000 in
theorem wN_X5_execute : Cond.instanceMethod yX5_execute ∈ T0 := mT (List.mem_append_right _ (List.mem_append_left _ (List.mem_of_getElem? (i := 234) (by decide +kernel)))) (by decide +kernel)
set_option maxRecDepth 20000 in
theorem wC_X5_execute : Cond.code yX5_execute cX5_execute 4 (none : Option FieldType) ∈ T0 := mT (List.mem_append_right _ (List.mem_append_left _ (List.mem_of_getElem? (i := 235) (by decide +kernel)))) (by decide +kernel)
set_option maxRecDepth 20000 in
theorem wM_X5_170 : Cond.methodLink RX5 170 yX3_opAt ∈ T0 := mT (List.mem_append_right _ (List.mem_append_left _ (List.mem_of_getElem? (i := 236) (by decide +kernel)))) (by decide +kernel)
set_option maxRecDepth 20000 in
theorem wN_X3_opAt : Cond.instanceMethod yX3_opAt ∈ T0 := mT (List.mem_append_right _ (List.mem_append_left _ (List.mem_of_getElem? (i := 237) (by decide +kernel)))) (by decide +kernel)
set_option maxRecDepth 20000 in
theorem wS_X3_opAt : Cond.selects RX3 yX3_opAt yX3_opAt ∈ T0 := mT (List.mem_append_right _ (List.mem_append_left _ (List.mem_of_getElem? (i := 238) (by decide +kernel)))) (by decide +kernel)
set_option maxRecDepth 20000 in
theorem wC_X3_opAt : Cond.code yX3_opAt cX3_opAt 2 (some FieldType.int) ∈ T0 := mT (List.mem_append_right _ (List.mem_append_left _ (List.mem_of_getElem? (i := 239) (by decide +kernel)))) (by decide +kernel)
set_option maxRecDepth 20000 in
theorem wM_X3_22 : Cond.methodLink RX3 22 yX3_holds ∈ T0 := mT (List.mem_append_right _ (List.mem_append_right _ (List.mem_append_left _ (List.mem_of_getElem? (i := 0) (by decide +kernel))))) (by decide +kernel)
set_option maxRecDepth 20000 in
theorem wN_X3_holds : Cond.instanceMethod yX3_holds ∈ T0 := mT (List.mem_append_right _ (List.mem_append_right _ (List.mem_append_left _ (List.mem_of_getElem? (i := 1) (by decide +kernel))))) (by decide +kernel)
set_option maxRecDepth 20000 in
theorem wS_X3_holds : Cond.selects RX3 yX3_holds yX3_holds ∈ T0 := mT (List.mem_append_right _ (List.mem_append_right _ (List.mem_append_left _ (List.mem_of_getElem? (i := 2) (by decide +kernel))))) (by decide +kernel)
set_option maxRecDepth 20000 in
theorem wC_X3_holds : Cond.code yX3_holds cX3_holds 2 (some FieldType.boolean) ∈ T0 := mT (List.mem_append_right _ (List.mem_append_right _ (List.mem_append_left _ (List.mem_of_getElem? (i := 3) (by decide +kernel))))) (by decide +kernel)
set_option maxRecDepth 20000 in
theorem wM_X5_173 : Cond.methodLink RX5 173 yX3_operandAt ∈ T0 := mT (List.mem_append_right _ (List.mem_append_right _ (List.mem_append_left _ (List.mem_of_getElem? (i := 4) (by decide +kernel))))) (by decide +kernel)
set_option maxRecDepth 20000 in
theorem wN_X3_operandAt : Cond.instanceMethod yX3_operandAt ∈ T0 := mT (List.mem_append_right _ (List.mem_append_right _ (List.mem_append_left _ (List.mem_of_getElem? (i := 5) (by decide +kernel))))) (by decide +kernel)
set_option maxRecDepth 20000 in
theorem wS_X3_operandAt : Cond.selects RX3 yX3_operandAt yX3_operandAt ∈ T0 := mT (List.mem_append_right _ (List.mem_append_right _ (List.mem_append_left _ (List.mem_of_getElem? (i := 6) (by decide +kernel))))) (by decide +kernel)
set_option maxRecDepth 20000 in
theorem wC_X3_operandAt : Cond.code yX3_operandAt cX3_operandAt 2 (some FieldType.int) ∈ T0 := mT (List.mem_append_right _ (List.mem_append_right _ (List.mem_append_left _ (List.mem_of_getElem? (i := 7) (by decide +kernel))))) (by decide +kernel)
set_option maxRecDepth 20000 in
theorem wM_X5_176 : Cond.methodLink RX5 176 yX5_jump ∈ T0 := mT (List.mem_append_right _ (List.mem_append_right _ (List.mem_append_left _ (List.mem_of_getElem? (i := 8) (by decide +kernel))))) (by decide +kernel)
set_option maxRecDepth 20000 in
theorem wN_X5_jump : Cond.instanceMethod yX5_jump ∈ T0 := mT (List.mem_append_right _ (List.mem_append_right _ (List.mem_append_left _ (List.mem_of_getElem? (i := 10) (by decide +kernel))))) (by decide +kernel)
set_option maxRecDepth 20000 in
theorem wC_X5_jump : Cond.code yX5_jump cX5_jump 3 (none : Option FieldType) ∈ T0 := mT (List.mem_append_right _ (List.mem_append_right _ (List.mem_append_left _ (List.mem_of_getElem? (i := 11) (by decide +kernel))))) (by decide +kernel)
set_option maxRecDepth 20000 in
theorem wM_X5_180 : Cond.methodLink RX5 180 yX5_jumpIfZero ∈ T0 := mT (List.mem_append_right _ (List.mem_append_right _ (List.mem_append_left _ (List.mem_of_getElem? (i := 12) (by decide +kernel))))) (by decide +kernel)
set_option maxRecDepth 20000 in
theorem wN_X5_jumpIfZero : Cond.instanceMethod yX5_jumpIfZero ∈ T0 := mT (List.mem_append_right _ (List.mem_append_right _ (List.mem_append_left _ (List.mem_of_getElem? (i := 14) (by decide +kernel))))) (by decide +kernel)
set_option maxRecDepth 20000 in
theorem wC_X5_jumpIfZero : Cond.code yX5_jumpIfZero cX5_jumpIfZero 3 (none : Option FieldType) ∈ T0 := mT (List.mem_append_right _ (List.mem_append_right _ (List.mem_append_left _ (List.mem_of_getElem? (i := 15) (by decide +kernel))))) (by decide +kernel)
set_option maxRecDepth 20000 in
theorem wM_X5_210 : Cond.methodLink RX5 210 yX2_drop ∈ T0 := mT (List.mem_append_right _ (List.mem_append_right _ (List.mem_append_left _ (List.mem_of_getElem? (i := 16) (by decide +kernel))))) (by decide +kernel)
set_option maxRecDepth 20000 in
theorem wN_X2_drop : Cond.instanceMethod yX2_drop ∈ T0 := mT (List.mem_append_right _ (List.mem_append_right _ (List.mem_append_left _ (List.mem_of_getElem? (i := 17) (by decide +kernel))))) (by decide +kernel)
set_option maxRecDepth 20000 in
theorem wS_X2_drop : Cond.selects RX2 yX2_drop yX2_drop ∈ T0 := mT (List.mem_append_right _ (List.mem_append_right _ (List.mem_append_left _ (List.mem_of_getElem? (i := 18) (by decide +kernel))))) (by decide +kernel)
set_option maxRecDepth 20000 in
theorem wC_X2_drop : Cond.code yX2_drop cX2_drop 1 (none : Option FieldType) ∈ T0 := mT (List.mem_append_right _ (List.mem_append_right _ (List.mem_append_left _ (List.mem_of_getElem? (i := 19) (by decide +kernel))))) (by decide +kernel)
set_option maxRecDepth 20000 in
theorem wM_X5_107 : Cond.methodLink RX5 107 yX5_channelAt ∈ T0 := mT (List.mem_append_right _ (List.mem_append_right _ (List.mem_append_left _ (List.mem_of_getElem? (i := 20) (by decide +kernel))))) (by decide +kernel)
set_option maxRecDepth 20000 in
theorem wN_X5_channelAt : Cond.instanceMethod yX5_channelAt ∈ T0 := mT (List.mem_append_right _ (List.mem_append_right _ (List.mem_append_left _ (List.mem_of_getElem? (i := 22) (by decide +kernel))))) (by decide +kernel)
set_option maxRecDepth 20000 in
theorem wC_X5_channelAt : Cond.code yX5_channelAt cX5_channelAt 2 (some (FieldType.object "ProcessTurns$Channel")) ∈ T0 := mT (List.mem_append_right _ (List.mem_append_right _ (List.mem_append_left _ (List.mem_of_getElem? (i := 23) (by decide +kernel))))) (by decide +kernel)
set_option maxRecDepth 20000 in
theorem wM_X5_183 : Cond.methodLink RX5 183 yX5_send ∈ T0 := mT (List.mem_append_right _ (List.mem_append_right _ (List.mem_append_left _ (List.mem_of_getElem? (i := 24) (by decide +kernel))))) (by decide +kernel)
set_option maxRecDepth 20000 in
theorem wN_X5_send : Cond.instanceMethod yX5_send ∈ T0 := mT (List.mem_append_right _ (List.mem_append_right _ (List.mem_append_left _ (List.mem_of_getElem? (i := 26) (by decide +kernel))))) (by decide +kernel)
set_option maxRecDepth 20000 in
theorem wC_X5_send : Cond.code yX5_send cX5_send 5 (none : Option FieldType) ∈ T0 := mT (List.mem_append_right _ (List.mem_append_right _ (List.mem_append_left _ (List.mem_of_getElem? (i := 27) (by decide +kernel))))) (by decide +kernel)
set_option maxRecDepth 20000 in
theorem wM_X5_219 : Cond.methodLink RX5 219 yX0_hasSender ∈ T0 := mT (List.mem_append_right _ (List.mem_append_right _ (List.mem_append_left _ (List.mem_of_getElem? (i := 28) (by decide +kernel))))) (by decide +kernel)
set_option maxRecDepth 20000 in
theorem wN_X0_hasSender : Cond.instanceMethod yX0_hasSender ∈ T0 := mT (List.mem_append_right _ (List.mem_append_right _ (List.mem_append_left _ (List.mem_of_getElem? (i := 29) (by decide +kernel))))) (by decide +kernel)
set_option maxRecDepth 20000 in
theorem wS_X0_hasSender : Cond.selects RX0 yX0_hasSender yX0_hasSender ∈ T0 := mT (List.mem_append_right _ (List.mem_append_right _ (List.mem_append_left _ (List.mem_of_getElem? (i := 30) (by decide +kernel))))) (by decide +kernel)
set_option maxRecDepth 20000 in
theorem wC_X0_hasSender : Cond.code yX0_hasSender cX0_hasSender 1 (some FieldType.boolean) ∈ T0 := mT (List.mem_append_right _ (List.mem_append_right _ (List.mem_append_left _ (List.mem_of_getElem? (i := 31) (by decide +kernel))))) (by decide +kernel)
set_option maxRecDepth 20000 in
theorem wM_X5_225 : Cond.methodLink RX5 225 yX0_hold ∈ T0 := mT (List.mem_append_right _ (List.mem_append_right _ (List.mem_append_left _ (List.mem_of_getElem? (i := 32) (by decide +kernel))))) (by decide +kernel)
set_option maxRecDepth 20000 in
theorem wN_X0_hold : Cond.instanceMethod yX0_hold ∈ T0 := mT (List.mem_append_right _ (List.mem_append_right _ (List.mem_append_left _ (List.mem_of_getElem? (i := 33) (by decide +kernel))))) (by decide +kernel)
set_option maxRecDepth 20000 in
theorem wS_X0_hold : Cond.selects RX0 yX0_hold yX0_hold ∈ T0 := mT (List.mem_append_right _ (List.mem_append_right _ (List.mem_append_left _ (List.mem_of_getElem? (i := 34) (by decide +kernel))))) (by decide +kernel)
set_option maxRecDepth 20000 in
theorem wC_X0_hold : Cond.code yX0_hold cX0_hold 4 (none : Option FieldType) ∈ T0 := mT (List.mem_append_right _ (List.mem_append_right _ (List.mem_append_left _ (List.mem_of_getElem? (i := 35) (by decide +kernel))))) (by decide +kernel)
set_option maxRecDepth 20000 in
theorem wM_X5_83 : Cond.methodLink RX5 83 yX0_clear ∈ T0 := mT (List.mem_append_right _ (List.mem_append_right _ (List.mem_append_left _ (List.mem_of_getElem? (i := 36) (by decide +kernel))))) (by decide +kernel)
set_option maxRecDepth 20000 in
theorem wN_X0_clear : Cond.instanceMethod yX0_clear ∈ T0 := mT (List.mem_append_right _ (List.mem_append_right _ (List.mem_append_left _ (List.mem_of_getElem? (i := 37) (by decide +kernel))))) (by decide +kernel)
set_option maxRecDepth 20000 in
theorem wS_X0_clear : Cond.selects RX0 yX0_clear yX0_clear ∈ T0 := mT (List.mem_append_right _ (List.mem_append_right _ (List.mem_append_left _ (List.mem_of_getElem? (i := 38) (by decide +kernel))))) (by decide +kernel)
set_option maxRecDepth 20000 in
theorem wC_X0_clear : Cond.code yX0_clear cX0_clear 1 (none : Option FieldType) ∈ T0 := mT (List.mem_append_right _ (List.mem_append_right _ (List.mem_append_left _ (List.mem_of_getElem? (i := 39) (by decide +kernel))))) (by decide +kernel)
set_option maxRecDepth 20000 in
theorem wM_X5_230 : Cond.methodLink RX5 230 yX5_deliver ∈ T0 := mT (List.mem_append_right _ (List.mem_append_right _ (List.mem_append_left _ (List.mem_of_getElem? (i := 40) (by decide +kernel))))) (by decide +kernel)
set_option maxRecDepth 20000 in
theorem wN_X5_deliver : Cond.instanceMethod yX5_deliver ∈ T0 := mT (List.mem_append_right _ (List.mem_append_right _ (List.mem_append_left _ (List.mem_of_getElem? (i := 42) (by decide +kernel))))) (by decide +kernel)
set_option maxRecDepth 20000 in
theorem wC_X5_deliver : Cond.code yX5_deliver cX5_deliver 5 (none : Option FieldType) ∈ T0 := mT (List.mem_append_right _ (List.mem_append_right _ (List.mem_append_left _ (List.mem_of_getElem? (i := 43) (by decide +kernel))))) (by decide +kernel)
set_option maxRecDepth 20000 in
theorem wM_X5_196 : Cond.methodLink RX5 196 yX2_put ∈ T0 := mT (List.mem_append_right _ (List.mem_append_right _ (List.mem_append_left _ (List.mem_of_getElem? (i := 44) (by decide +kernel))))) (by decide +kernel)
set_option maxRecDepth 20000 in
theorem wN_X2_put : Cond.instanceMethod yX2_put ∈ T0 := mT (List.mem_append_right _ (List.mem_append_right _ (List.mem_append_left _ (List.mem_of_getElem? (i := 45) (by decide +kernel))))) (by decide +kernel)
set_option maxRecDepth 20000 in
theorem wS_X2_put : Cond.selects RX2 yX2_put yX2_put ∈ T0 := mT (List.mem_append_right _ (List.mem_append_right _ (List.mem_append_left _ (List.mem_of_getElem? (i := 46) (by decide +kernel))))) (by decide +kernel)
set_option maxRecDepth 20000 in
theorem wC_X2_put : Cond.code yX2_put cX2_put 2 (none : Option FieldType) ∈ T0 := mT (List.mem_append_right _ (List.mem_append_right _ (List.mem_append_left _ (List.mem_of_getElem? (i := 47) (by decide +kernel))))) (by decide +kernel)
set_option maxRecDepth 20000 in
theorem wM_X5_240 : Cond.methodLink RX5 240 yX1_append ∈ T0 := mT (List.mem_append_right _ (List.mem_append_right _ (List.mem_append_left _ (List.mem_of_getElem? (i := 48) (by decide +kernel))))) (by decide +kernel)
set_option maxRecDepth 20000 in
theorem wN_X1_append : Cond.instanceMethod yX1_append ∈ T0 := mT (List.mem_append_right _ (List.mem_append_right _ (List.mem_append_left _ (List.mem_of_getElem? (i := 49) (by decide +kernel))))) (by decide +kernel)
set_option maxRecDepth 20000 in
theorem wS_X1_append : Cond.selects RX1 yX1_append yX1_append ∈ T0 := mT (List.mem_append_right _ (List.mem_append_right _ (List.mem_append_left _ (List.mem_of_getElem? (i := 50) (by decide +kernel))))) (by decide +kernel)
set_option maxRecDepth 20000 in
theorem wC_X1_append : Cond.code yX1_append cX1_append 7 (none : Option FieldType) ∈ T0 := mT (List.mem_append_right _ (List.mem_append_right _ (List.mem_append_left _ (List.mem_of_getElem? (i := 51) (by decide +kernel))))) (by decide +kernel)
set_option maxRecDepth 20000 in
theorem wM_X1_19 : Cond.methodLink RX1 19 yX1_roomOf ∈ T0 := mT (List.mem_append_right _ (List.mem_append_right _ (List.mem_append_left _ (List.mem_of_getElem? (i := 52) (by decide +kernel))))) (by decide +kernel)
set_option maxRecDepth 20000 in
theorem wT_X1_roomOf : Cond.static yX1_roomOf ∈ T0 := mT (List.mem_append_right _ (List.mem_append_right _ (List.mem_append_left _ (List.mem_of_getElem? (i := 53) (by decide +kernel))))) (by decide +kernel)
set_option maxRecDepth 20000 in
theorem wC_X1_roomOf : Cond.code yX1_roomOf cX1_roomOf 1 (some FieldType.int) ∈ T0 := mT (List.mem_append_right _ (List.mem_append_right _ (List.mem_append_left _ (List.mem_of_getElem? (i := 54) (by decide +kernel))))) (by decide +kernel)
set_option maxRecDepth 20000 in
theorem wM_X5_187 : Cond.methodLink RX5 187 yX5_receive ∈ T0 := mT (List.mem_append_right _ (List.mem_append_right _ (List.mem_append_left _ (List.mem_of_getElem? (i := 55) (by decide +kernel))))) (by decide +kernel)
set_option maxRecDepth 20000 in
theorem wN_X5_receive : Cond.instanceMethod yX5_receive ∈ T0 := mT (List.mem_append_right _ (List.mem_append_right _ (List.mem_append_left _ (List.mem_of_getElem? (i := 57) (by decide +kernel))))) (by decide +kernel)
set_option maxRecDepth 20000 in
theorem wC_X5_receive : Cond.code yX5_receive cX5_receive 5 (none : Option FieldType) ∈ T0 := mT (List.mem_append_right _ (List.mem_append_right _ (List.mem_append_left _ (List.mem_of_getElem? (i := 58) (by decide +kernel))))) (by decide +kernel)
set_option maxRecDepth 20000 in
theorem wM_X5_234 : Cond.methodLink RX5 234 yX0_hasReceiver ∈ T0 := mT (List.mem_append_right _ (List.mem_append_right _ (List.mem_append_left _ (List.mem_of_getElem? (i := 59) (by decide +kernel))))) (by decide +kernel)
set_option maxRecDepth 20000 in
theorem wN_X0_hasReceiver : Cond.instanceMethod yX0_hasReceiver ∈ T0 := mT (List.mem_append_right _ (List.mem_append_right _ (List.mem_append_left _ (List.mem_of_getElem? (i := 60) (by decide +kernel))))) (by decide +kernel)
set_option maxRecDepth 20000 in
theorem wS_X0_hasReceiver : Cond.selects RX0 yX0_hasReceiver yX0_hasReceiver ∈ T0 := mT (List.mem_append_right _ (List.mem_append_right _ (List.mem_append_left _ (List.mem_of_getElem? (i := 61) (by decide +kernel))))) (by decide +kernel)
set_option maxRecDepth 20000 in
theorem wC_X0_hasReceiver : Cond.code yX0_hasReceiver cX0_hasReceiver 1 (some FieldType.boolean) ∈ T0 := mT (List.mem_append_right _ (List.mem_append_right _ (List.mem_append_left _ (List.mem_of_getElem? (i := 62) (by decide +kernel))))) (by decide +kernel)
set_option maxRecDepth 20000 in
theorem wM_X5_190 : Cond.methodLink RX5 190 yX5_awaitTime ∈ T0 := mT (List.mem_append_right _ (List.mem_append_right _ (List.mem_append_left _ (List.mem_of_getElem? (i := 63) (by decide +kernel))))) (by decide +kernel)
set_option maxRecDepth 20000 in
theorem wN_X5_awaitTime : Cond.instanceMethod yX5_awaitTime ∈ T0 := mT (List.mem_append_right _ (List.mem_append_right _ (List.mem_append_left _ (List.mem_of_getElem? (i := 65) (by decide +kernel))))) (by decide +kernel)
set_option maxRecDepth 20000 in
theorem wC_X5_awaitTime : Cond.code yX5_awaitTime cX5_awaitTime 3 (none : Option FieldType) ∈ T0 := mT (List.mem_append_right _ (List.mem_append_right _ (List.mem_append_left _ (List.mem_of_getElem? (i := 66) (by decide +kernel))))) (by decide +kernel)
set_option maxRecDepth 20000 in
theorem wM_X5_199 : Cond.methodLink RX5 199 yX5_compute ∈ T0 := mT (List.mem_append_right _ (List.mem_append_right _ (List.mem_append_left _ (List.mem_of_getElem? (i := 67) (by decide +kernel))))) (by decide +kernel)
set_option maxRecDepth 20000 in
theorem wN_X5_compute : Cond.instanceMethod yX5_compute ∈ T0 := mT (List.mem_append_right _ (List.mem_append_right _ (List.mem_append_left _ (List.mem_of_getElem? (i := 69) (by decide +kernel))))) (by decide +kernel)
set_option maxRecDepth 20000 in
theorem wC_X5_compute : Cond.code yX5_compute cX5_compute 4 (none : Option FieldType) ∈ T0 := mT (List.mem_append_right _ (List.mem_append_right _ (List.mem_append_left _ (List.mem_of_getElem? (i := 70) (by decide +kernel))))) (by decide +kernel)
set_option maxRecDepth 20000 in
theorem wM_X5_203 : Cond.methodLink RX5 203 yX2_word ∈ T0 := mT (List.mem_append_right _ (List.mem_append_right _ (List.mem_append_left _ (List.mem_of_getElem? (i := 71) (by decide +kernel))))) (by decide +kernel)
set_option maxRecDepth 20000 in
theorem wN_X2_word : Cond.instanceMethod yX2_word ∈ T0 := mT (List.mem_append_right _ (List.mem_append_right _ (List.mem_append_left _ (List.mem_of_getElem? (i := 72) (by decide +kernel))))) (by decide +kernel)
set_option maxRecDepth 20000 in
theorem wS_X2_word : Cond.selects RX2 yX2_word yX2_word ∈ T0 := mT (List.mem_append_right _ (List.mem_append_right _ (List.mem_append_left _ (List.mem_of_getElem? (i := 73) (by decide +kernel))))) (by decide +kernel)
set_option maxRecDepth 20000 in
theorem wC_X2_word : Cond.code yX2_word cX2_word 2 (some FieldType.int) ∈ T0 := mT (List.mem_append_right _ (List.mem_append_right _ (List.mem_append_left _ (List.mem_of_getElem? (i := 74) (by decide +kernel))))) (by decide +kernel)
set_option maxRecDepth 20000 in
theorem wM_X5_206 : Cond.methodLink RX5 206 yX2_setWord ∈ T0 := mT (List.mem_append_right _ (List.mem_append_right _ (List.mem_append_left _ (List.mem_of_getElem? (i := 75) (by decide +kernel))))) (by decide +kernel)
set_option maxRecDepth 20000 in
theorem wN_X2_setWord : Cond.instanceMethod yX2_setWord ∈ T0 := mT (List.mem_append_right _ (List.mem_append_right _ (List.mem_append_left _ (List.mem_of_getElem? (i := 76) (by decide +kernel))))) (by decide +kernel)
set_option maxRecDepth 20000 in
theorem wS_X2_setWord : Cond.selects RX2 yX2_setWord yX2_setWord ∈ T0 := mT (List.mem_append_right _ (List.mem_append_right _ (List.mem_append_left _ (List.mem_of_getElem? (i := 77) (by decide +kernel))))) (by decide +kernel)
set_option maxRecDepth 20000 in
theorem wC_X2_setWord : Cond.code yX2_setWord cX2_setWord 3 (none : Option FieldType) ∈ T0 := mT (List.mem_append_right _ (List.mem_append_right _ (List.mem_append_left _ (List.mem_of_getElem? (i := 78) (by decide +kernel))))) (by decide +kernel)
set_option maxRecDepth 20000 in
theorem wM_X5_216 : Cond.methodLink RX5 216 yX2_replaceTwo ∈ T0 := mT (List.mem_append_right _ (List.mem_append_right _ (List.mem_append_left _ (List.mem_of_getElem? (i := 79) (by decide +kernel))))) (by decide +kernel)
set_option maxRecDepth 20000 in
theorem wN_X2_replaceTwo : Cond.instanceMethod yX2_replaceTwo ∈ T0 := mT (List.mem_append_right _ (List.mem_append_right _ (List.mem_append_left _ (List.mem_of_getElem? (i := 80) (by decide +kernel))))) (by decide +kernel)
set_option maxRecDepth 20000 in
theorem wS_X2_replaceTwo : Cond.selects RX2 yX2_replaceTwo yX2_replaceTwo ∈ T0 := mT (List.mem_append_right _ (List.mem_append_right _ (List.mem_append_left _ (List.mem_of_getElem? (i := 81) (by decide +kernel))))) (by decide +kernel)
set_option maxRecDepth 20000 in
theorem wC_X2_replaceTwo : Cond.code yX2_replaceTwo cX2_replaceTwo 2 (none : Option FieldType) ∈ T0 := mT (List.mem_append_right _ (List.mem_append_right _ (List.mem_append_left _ (List.mem_of_getElem? (i := 82) (by decide +kernel))))) (by decide +kernel)
set_option maxRecDepth 20000 in
theorem wM_L_28 : Cond.methodLink RL 28 yX5_setClock ∈ T0 := mT (List.mem_append_right _ (List.mem_append_right _ (List.mem_append_left _ (List.mem_of_getElem? (i := 83) (by decide +kernel))))) (by decide +kernel)
set_option maxRecDepth 20000 in
theorem wN_X5_setClock : Cond.instanceMethod yX5_setClock ∈ T0 := mT (List.mem_append_right _ (List.mem_append_right _ (List.mem_append_left _ (List.mem_of_getElem? (i := 84) (by decide +kernel))))) (by decide +kernel)
set_option maxRecDepth 20000 in
theorem wS_X5_setClock : Cond.selects RX5 yX5_setClock yX5_setClock ∈ T0 := mT (List.mem_append_right _ (List.mem_append_right _ (List.mem_append_left _ (List.mem_of_getElem? (i := 85) (by decide +kernel))))) (by decide +kernel)
set_option maxRecDepth 20000 in
theorem wC_X5_setClock : Cond.code yX5_setClock cX5_setClock 2 (none : Option FieldType) ∈ T0 := mT (List.mem_append_right _ (List.mem_append_right _ (List.mem_append_left _ (List.mem_of_getElem? (i := 86) (by decide +kernel))))) (by decide +kernel)
set_option maxRecDepth 20000 in
theorem wM_L_33 : Cond.methodLink RL 33 yX5_reset ∈ T0 := mT (List.mem_append_right _ (List.mem_append_right _ (List.mem_append_left _ (List.mem_of_getElem? (i := 87) (by decide +kernel))))) (by decide +kernel)
set_option maxRecDepth 20000 in
theorem wN_X5_reset : Cond.instanceMethod yX5_reset ∈ T0 := mT (List.mem_append_right _ (List.mem_append_right _ (List.mem_append_left _ (List.mem_of_getElem? (i := 88) (by decide +kernel))))) (by decide +kernel)
set_option maxRecDepth 20000 in
theorem wS_X5_reset : Cond.selects RX5 yX5_reset yX5_reset ∈ T0 := mT (List.mem_append_right _ (List.mem_append_right _ (List.mem_append_left _ (List.mem_of_getElem? (i := 89) (by decide +kernel))))) (by decide +kernel)
set_option maxRecDepth 20000 in
theorem wC_X5_reset : Cond.code yX5_reset cX5_reset 2 (none : Option FieldType) ∈ T0 := mT (List.mem_append_right _ (List.mem_append_right _ (List.mem_append_left _ (List.mem_of_getElem? (i := 90) (by decide +kernel))))) (by decide +kernel)
set_option maxRecDepth 20000 in
theorem wM_X5_86 : Cond.methodLink RX5 86 yX4_clear ∈ T0 := mT (List.mem_append_right _ (List.mem_append_right _ (List.mem_append_left _ (List.mem_of_getElem? (i := 91) (by decide +kernel))))) (by decide +kernel)
set_option maxRecDepth 20000 in
theorem wN_X4_clear : Cond.instanceMethod yX4_clear ∈ T0 := mT (List.mem_append_right _ (List.mem_append_right _ (List.mem_append_left _ (List.mem_of_getElem? (i := 92) (by decide +kernel))))) (by decide +kernel)
set_option maxRecDepth 20000 in
theorem wS_X4_clear : Cond.selects RX4 yX4_clear yX4_clear ∈ T0 := mT (List.mem_append_right _ (List.mem_append_right _ (List.mem_append_left _ (List.mem_of_getElem? (i := 93) (by decide +kernel))))) (by decide +kernel)
set_option maxRecDepth 20000 in
theorem wC_X4_clear : Cond.code yX4_clear cX4_clear 1 (none : Option FieldType) ∈ T0 := mT (List.mem_append_right _ (List.mem_append_right _ (List.mem_append_left _ (List.mem_of_getElem? (i := 94) (by decide +kernel))))) (by decide +kernel)
set_option maxRecDepth 20000 in
theorem wM_L_37 : Cond.methodLink RL 37 yX5_clock ∈ T0 := mT (List.mem_append_right _ (List.mem_append_right _ (List.mem_append_left _ (List.mem_of_getElem? (i := 95) (by decide +kernel))))) (by decide +kernel)
set_option maxRecDepth 20000 in
theorem wN_X5_clock : Cond.instanceMethod yX5_clock ∈ T0 := mT (List.mem_append_right _ (List.mem_append_right _ (List.mem_append_left _ (List.mem_of_getElem? (i := 96) (by decide +kernel))))) (by decide +kernel)
set_option maxRecDepth 20000 in
theorem wS_X5_clock : Cond.selects RX5 yX5_clock yX5_clock ∈ T0 := mT (List.mem_append_right _ (List.mem_append_right _ (List.mem_append_left _ (List.mem_of_getElem? (i := 97) (by decide +kernel))))) (by decide +kernel)
set_option maxRecDepth 20000 in
theorem wC_X5_clock : Cond.code yX5_clock cX5_clock 1 (some FieldType.int) ∈ T0 := mT (List.mem_append_right _ (List.mem_append_right _ (List.mem_append_left _ (List.mem_of_getElem? (i := 98) (by decide +kernel))))) (by decide +kernel)
set_option maxRecDepth 20000 in
theorem wM_L_42 : Cond.methodLink RL 42 yX5_running ∈ T0 := mT (List.mem_append_right _ (List.mem_append_right _ (List.mem_append_left _ (List.mem_of_getElem? (i := 99) (by decide +kernel))))) (by decide +kernel)
set_option maxRecDepth 20000 in
theorem wN_X5_running : Cond.instanceMethod yX5_running ∈ T0 := mT (List.mem_append_right _ (List.mem_append_right _ (List.mem_append_left _ (List.mem_of_getElem? (i := 100) (by decide +kernel))))) (by decide +kernel)
set_option maxRecDepth 20000 in
theorem wS_X5_running : Cond.selects RX5 yX5_running yX5_running ∈ T0 := mT (List.mem_append_right _ (List.mem_append_right _ (List.mem_append_left _ (List.mem_of_getElem? (i := 101) (by decide +kernel))))) (by decide +kernel)
set_option maxRecDepth 20000 in
theorem wC_X5_running : Cond.code yX5_running cX5_running 1 (some FieldType.int) ∈ T0 := mT (List.mem_append_right _ (List.mem_append_right _ (List.mem_append_left _ (List.mem_of_getElem? (i := 102) (by decide +kernel))))) (by decide +kernel)
set_option maxRecDepth 20000 in
theorem wM_L_46 : Cond.methodLink RL 46 yX5_state ∈ T0 := mT (List.mem_append_right _ (List.mem_append_right _ (List.mem_append_left _ (List.mem_of_getElem? (i := 103) (by decide +kernel))))) (by decide +kernel)
set_option maxRecDepth 20000 in
theorem wN_X5_state : Cond.instanceMethod yX5_state ∈ T0 := mT (List.mem_append_right _ (List.mem_append_right _ (List.mem_append_left _ (List.mem_of_getElem? (i := 104) (by decide +kernel))))) (by decide +kernel)
set_option maxRecDepth 20000 in
theorem wS_X5_state : Cond.selects RX5 yX5_state yX5_state ∈ T0 := mT (List.mem_append_right _ (List.mem_append_right _ (List.mem_append_left _ (List.mem_of_getElem? (i := 105) (by decide +kernel))))) (by decide +kernel)
set_option maxRecDepth 20000 in
theorem wC_X5_state : Cond.code yX5_state cX5_state 2 (some FieldType.int) ∈ T0 := mT (List.mem_append_right _ (List.mem_append_right _ (List.mem_append_left _ (List.mem_of_getElem? (i := 106) (by decide +kernel))))) (by decide +kernel)
set_option maxRecDepth 20000 in
theorem wM_X5_90 : Cond.methodLink RX5 90 yX5_isProcess ∈ T0 := mT (List.mem_append_right _ (List.mem_append_right _ (List.mem_append_left _ (List.mem_of_getElem? (i := 107) (by decide +kernel))))) (by decide +kernel)
set_option maxRecDepth 20000 in
theorem wT_X5_isProcess : Cond.static yX5_isProcess ∈ T0 := mT (List.mem_append_right _ (List.mem_append_right _ (List.mem_append_left _ (List.mem_of_getElem? (i := 108) (by decide +kernel))))) (by decide +kernel)
set_option maxRecDepth 20000 in
theorem wC_X5_isProcess : Cond.code yX5_isProcess cX5_isProcess 1 (some FieldType.boolean) ∈ T0 := mT (List.mem_append_right _ (List.mem_append_right _ (List.mem_append_left _ (List.mem_of_getElem? (i := 109) (by decide +kernel))))) (by decide +kernel)
set_option maxRecDepth 20000 in
theorem wM_L_50 : Cond.methodLink RL 50 yX5_look ∈ T0 := mT (List.mem_append_right _ (List.mem_append_right _ (List.mem_append_left _ (List.mem_of_getElem? (i := 110) (by decide +kernel))))) (by decide +kernel)
set_option maxRecDepth 20000 in
theorem wN_X5_look : Cond.instanceMethod yX5_look ∈ T0 := mT (List.mem_append_right _ (List.mem_append_right _ (List.mem_append_left _ (List.mem_of_getElem? (i := 111) (by decide +kernel))))) (by decide +kernel)
set_option maxRecDepth 20000 in
theorem wS_X5_look : Cond.selects RX5 yX5_look yX5_look ∈ T0 := mT (List.mem_append_right _ (List.mem_append_right _ (List.mem_append_left _ (List.mem_of_getElem? (i := 112) (by decide +kernel))))) (by decide +kernel)
set_option maxRecDepth 20000 in
theorem wC_X5_look : Cond.code yX5_look cX5_look 3 (some FieldType.long) ∈ T0 := mT (List.mem_append_right _ (List.mem_append_right _ (List.mem_append_left _ (List.mem_of_getElem? (i := 113) (by decide +kernel))))) (by decide +kernel)
set_option maxRecDepth 20000 in
theorem wK_X5_93 : Cond.constantLong RX5 93 4294967296 ∈ T0 := mT (List.mem_append_right _ (List.mem_append_right _ (List.mem_append_left _ (List.mem_of_getElem? (i := 114) (by decide +kernel))))) (by decide +kernel)
set_option maxRecDepth 20000 in
theorem wM_X5_95 : Cond.methodLink RX5 95 yX2_part ∈ T0 := mT (List.mem_append_right _ (List.mem_append_right _ (List.mem_append_left _ (List.mem_of_getElem? (i := 115) (by decide +kernel))))) (by decide +kernel)
set_option maxRecDepth 20000 in
theorem wN_X2_part : Cond.instanceMethod yX2_part ∈ T0 := mT (List.mem_append_right _ (List.mem_append_right _ (List.mem_append_left _ (List.mem_of_getElem? (i := 116) (by decide +kernel))))) (by decide +kernel)
set_option maxRecDepth 20000 in
theorem wS_X2_part : Cond.selects RX2 yX2_part yX2_part ∈ T0 := mT (List.mem_append_right _ (List.mem_append_right _ (List.mem_append_left _ (List.mem_of_getElem? (i := 117) (by decide +kernel))))) (by decide +kernel)
set_option maxRecDepth 20000 in
theorem wC_X2_part : Cond.code yX2_part cX2_part 2 (some FieldType.long) ∈ T0 := mT (List.mem_append_right _ (List.mem_append_right _ (List.mem_append_left _ (List.mem_of_getElem? (i := 118) (by decide +kernel))))) (by decide +kernel)
set_option maxRecDepth 20000 in
theorem wM_X2_37 : Cond.methodLink RX2 37 yX2_word ∈ T0 := mT (List.mem_append_right _ (List.mem_append_right _ (List.mem_append_left _ (List.mem_of_getElem? (i := 119) (by decide +kernel))))) (by decide +kernel)
set_option maxRecDepth 20000 in
theorem wK_X2_41 : Cond.constantLong RX2 41 4294967296 ∈ T0 := mT (List.mem_append_right _ (List.mem_append_right _ (List.mem_append_left _ (List.mem_of_getElem? (i := 120) (by decide +kernel))))) (by decide +kernel)
set_option maxRecDepth 20000 in
theorem wM_L_55 : Cond.methodLink RL 55 yX5_waiting ∈ T0 := mT (List.mem_append_right _ (List.mem_append_right _ (List.mem_append_left _ (List.mem_of_getElem? (i := 121) (by decide +kernel))))) (by decide +kernel)
set_option maxRecDepth 20000 in
theorem wN_X5_waiting : Cond.instanceMethod yX5_waiting ∈ T0 := mT (List.mem_append_right _ (List.mem_append_right _ (List.mem_append_left _ (List.mem_of_getElem? (i := 122) (by decide +kernel))))) (by decide +kernel)
set_option maxRecDepth 20000 in
theorem wS_X5_waiting : Cond.selects RX5 yX5_waiting yX5_waiting ∈ T0 := mT (List.mem_append_right _ (List.mem_append_right _ (List.mem_append_left _ (List.mem_of_getElem? (i := 123) (by decide +kernel))))) (by decide +kernel)
set_option maxRecDepth 20000 in
theorem wC_X5_waiting : Cond.code yX5_waiting cX5_waiting 3 (some FieldType.int) ∈ T0 := mT (List.mem_append_right _ (List.mem_append_right _ (List.mem_append_left _ (List.mem_of_getElem? (i := 124) (by decide +kernel))))) (by decide +kernel)
set_option maxRecDepth 20000 in
theorem wM_X5_103 : Cond.methodLink RX5 103 yX4_numberAt ∈ T0 := mT (List.mem_append_right _ (List.mem_append_right _ (List.mem_append_left _ (List.mem_of_getElem? (i := 125) (by decide +kernel))))) (by decide +kernel)
set_option maxRecDepth 20000 in
theorem wN_X4_numberAt : Cond.instanceMethod yX4_numberAt ∈ T0 := mT (List.mem_append_right _ (List.mem_append_right _ (List.mem_append_left _ (List.mem_of_getElem? (i := 126) (by decide +kernel))))) (by decide +kernel)
set_option maxRecDepth 20000 in
theorem wS_X4_numberAt : Cond.selects RX4 yX4_numberAt yX4_numberAt ∈ T0 := mT (List.mem_append_right _ (List.mem_append_right _ (List.mem_append_left _ (List.mem_of_getElem? (i := 127) (by decide +kernel))))) (by decide +kernel)
set_option maxRecDepth 20000 in
theorem wC_X4_numberAt : Cond.code yX4_numberAt cX4_numberAt 2 (some FieldType.int) ∈ T0 := mT (List.mem_append_right _ (List.mem_append_right _ (List.mem_append_left _ (List.mem_of_getElem? (i := 128) (by decide +kernel))))) (by decide +kernel)
set_option maxRecDepth 20000 in
theorem wM_L_59 : Cond.methodLink RL 59 yX5_channel ∈ T0 := mT (List.mem_append_right _ (List.mem_append_right _ (List.mem_append_left _ (List.mem_of_getElem? (i := 129) (by decide +kernel))))) (by decide +kernel)
set_option maxRecDepth 20000 in
theorem wN_X5_channel : Cond.instanceMethod yX5_channel ∈ T0 := mT (List.mem_append_right _ (List.mem_append_right _ (List.mem_append_left _ (List.mem_of_getElem? (i := 130) (by decide +kernel))))) (by decide +kernel)
set_option maxRecDepth 20000 in
theorem wS_X5_channel : Cond.selects RX5 yX5_channel yX5_channel ∈ T0 := mT (List.mem_append_right _ (List.mem_append_right _ (List.mem_append_left _ (List.mem_of_getElem? (i := 131) (by decide +kernel))))) (by decide +kernel)
set_option maxRecDepth 20000 in
theorem wC_X5_channel : Cond.code yX5_channel cX5_channel 3 (some FieldType.int) ∈ T0 := mT (List.mem_append_right _ (List.mem_append_right _ (List.mem_append_left _ (List.mem_of_getElem? (i := 132) (by decide +kernel))))) (by decide +kernel)
set_option maxRecDepth 20000 in
theorem wM_X5_111 : Cond.methodLink RX5 111 yX0_code ∈ T0 := mT (List.mem_append_right _ (List.mem_append_right _ (List.mem_append_left _ (List.mem_of_getElem? (i := 133) (by decide +kernel))))) (by decide +kernel)
set_option maxRecDepth 20000 in
theorem wN_X0_code : Cond.instanceMethod yX0_code ∈ T0 := mT (List.mem_append_right _ (List.mem_append_right _ (List.mem_append_left _ (List.mem_of_getElem? (i := 134) (by decide +kernel))))) (by decide +kernel)
set_option maxRecDepth 20000 in
theorem wS_X0_code : Cond.selects RX0 yX0_code yX0_code ∈ T0 := mT (List.mem_append_right _ (List.mem_append_right _ (List.mem_append_left _ (List.mem_of_getElem? (i := 135) (by decide +kernel))))) (by decide +kernel)
set_option maxRecDepth 20000 in
theorem wC_X0_code : Cond.code yX0_code cX0_code 1 (some FieldType.int) ∈ T0 := mT (List.mem_append_right _ (List.mem_append_right _ (List.mem_append_left _ (List.mem_of_getElem? (i := 136) (by decide +kernel))))) (by decide +kernel)
set_option maxRecDepth 20000 in
theorem wM_L_63 : Cond.methodLink RL 63 yX5_messages ∈ T0 := mT (List.mem_append_right _ (List.mem_append_right _ (List.mem_append_left _ (List.mem_of_getElem? (i := 137) (by decide +kernel))))) (by decide +kernel)
set_option maxRecDepth 20000 in
theorem wN_X5_messages : Cond.instanceMethod yX5_messages ∈ T0 := mT (List.mem_append_right _ (List.mem_append_right _ (List.mem_append_left _ (List.mem_of_getElem? (i := 138) (by decide +kernel))))) (by decide +kernel)
set_option maxRecDepth 20000 in
theorem wS_X5_messages : Cond.selects RX5 yX5_messages yX5_messages ∈ T0 := mT (List.mem_append_right _ (List.mem_append_right _ (List.mem_append_left _ (List.mem_of_getElem? (i := 139) (by decide +kernel))))) (by decide +kernel)
set_option maxRecDepth 20000 in
theorem wC_X5_messages : Cond.code yX5_messages cX5_messages 1 (some FieldType.int) ∈ T0 := mT (List.mem_append_right _ (List.mem_append_right _ (List.mem_append_left _ (List.mem_of_getElem? (i := 140) (by decide +kernel))))) (by decide +kernel)
set_option maxRecDepth 20000 in
theorem wM_L_67 : Cond.methodLink RL 67 yX5_message ∈ T0 := mT (List.mem_append_right _ (List.mem_append_right _ (List.mem_append_left _ (List.mem_of_getElem? (i := 141) (by decide +kernel))))) (by decide +kernel)
set_option maxRecDepth 20000 in
theorem wN_X5_message : Cond.instanceMethod yX5_message ∈ T0 := mT (List.mem_append_right _ (List.mem_append_right _ (List.mem_append_left _ (List.mem_of_getElem? (i := 142) (by decide +kernel))))) (by decide +kernel)
set_option maxRecDepth 20000 in
theorem wS_X5_message : Cond.selects RX5 yX5_message yX5_message ∈ T0 := mT (List.mem_append_right _ (List.mem_append_right _ (List.mem_append_left _ (List.mem_of_getElem? (i := 143) (by decide +kernel))))) (by decide +kernel)
set_option maxRecDepth 20000 in
theorem wC_X5_message : Cond.code yX5_message cX5_message 3 (some FieldType.long) ∈ T0 := mT (List.mem_append_right _ (List.mem_append_right _ (List.mem_append_left _ (List.mem_of_getElem? (i := 144) (by decide +kernel))))) (by decide +kernel)
set_option maxRecDepth 20000 in
theorem wM_X5_118 : Cond.methodLink RX5 118 yX1_part ∈ T0 := mT (List.mem_append_right _ (List.mem_append_right _ (List.mem_append_left _ (List.mem_of_getElem? (i := 145) (by decide +kernel))))) (by decide +kernel)
set_option maxRecDepth 20000 in
theorem wN_X1_part : Cond.instanceMethod yX1_part ∈ T0 := mT (List.mem_append_right _ (List.mem_append_right _ (List.mem_append_left _ (List.mem_of_getElem? (i := 146) (by decide +kernel))))) (by decide +kernel)
set_option maxRecDepth 20000 in
theorem wS_X1_part : Cond.selects RX1 yX1_part yX1_part ∈ T0 := mT (List.mem_append_right _ (List.mem_append_right _ (List.mem_append_left _ (List.mem_of_getElem? (i := 147) (by decide +kernel))))) (by decide +kernel)
set_option maxRecDepth 20000 in
theorem wC_X1_part : Cond.code yX1_part cX1_part 3 (some FieldType.long) ∈ T0 := mT (List.mem_append_right _ (List.mem_append_right _ (List.mem_append_left _ (List.mem_of_getElem? (i := 148) (by decide +kernel))))) (by decide +kernel)
set_option maxRecDepth 20000 in
theorem wK_X1_23 : Cond.constantLong RX1 23 4294967296 ∈ T0 := mT (List.mem_append_right _ (List.mem_append_right _ (List.mem_append_left _ (List.mem_of_getElem? (i := 149) (by decide +kernel))))) (by decide +kernel)
set_option maxRecDepth 20000 in
theorem wL_L_10 : Cond.classLink RL 10 RX6 ∈ T0 := mT (List.mem_append_right _ (List.mem_append_right _ (List.mem_append_left _ (List.mem_of_getElem? (i := 150) (by decide +kernel))))) (by decide +kernel)
set_option maxRecDepth 20000 in
theorem wn_X6 : Cond.instantiable RX6 16 ∈ T0 := mT (List.mem_append_right _ (List.mem_append_right _ (List.mem_append_left _ (List.mem_of_getElem? (i := 151) (by decide +kernel))))) (by decide +kernel)
set_option maxRecDepth 20000 in
theorem wM_L_12 : Cond.methodLink RL 12 yX6_init ∈ T0 := mT (List.mem_append_right _ (List.mem_append_right _ (List.mem_append_left _ (List.mem_of_getElem? (i := 152) (by decide +kernel))))) (by decide +kernel)
set_option maxRecDepth 20000 in
theorem wN_X6_init : Cond.instanceMethod yX6_init ∈ T0 := mT (List.mem_append_right _ (List.mem_append_right _ (List.mem_append_left _ (List.mem_of_getElem? (i := 153) (by decide +kernel))))) (by decide +kernel)
set_option maxRecDepth 20000 in
theorem wC_X6_init : Cond.code yX6_init cX6_init 1 (none : Option FieldType) ∈ T0 := mT (List.mem_append_right _ (List.mem_append_right _ (List.mem_append_left _ (List.mem_of_getElem? (i := 154) (by decide +kernel))))) (by decide +kernel)
set_option maxRecDepth 20000 in
theorem wM_X6_1 : Cond.methodLink RX6 1 objectInit ∈ T0 := mT (List.mem_append_right _ (List.mem_append_right _ (List.mem_append_left _ (List.mem_of_getElem? (i := 155) (by decide +kernel))))) (by decide +kernel)
set_option maxRecDepth 20000 in
theorem wF_X6_7 : Cond.fieldLink RX6 7 "ProcessTurnsModel" "code" "[I" ∈ T0 := mT (List.mem_append_right _ (List.mem_append_right _ (List.mem_append_left _ (List.mem_of_getElem? (i := 156) (by decide +kernel))))) (by decide +kernel)
set_option maxRecDepth 20000 in
theorem wF_X6_44 : Cond.fieldLink RX6 44 "ProcessTurnsModel" "length" "I" ∈ T0 := mT (List.mem_append_right _ (List.mem_append_right _ (List.mem_append_left _ (List.mem_of_getElem? (i := 157) (by decide +kernel))))) (by decide +kernel)
set_option maxRecDepth 20000 in
theorem wF_X6_13 : Cond.fieldLink RX6 13 "ProcessTurnsModel" "state" "[I" ∈ T0 := mT (List.mem_append_right _ (List.mem_append_right _ (List.mem_append_left _ (List.mem_of_getElem? (i := 158) (by decide +kernel))))) (by decide +kernel)
set_option maxRecDepth 20000 in
theorem wF_X6_16 : Cond.fieldLink RX6 16 "ProcessTurnsModel" "priority" "[I" ∈ T0 := mT (List.mem_append_right _ (List.mem_append_right _ (List.mem_append_left _ (List.mem_of_getElem? (i := 159) (by decide +kernel))))) (by decide +kernel)
set_option maxRecDepth 20000 in
theorem wF_X6_19 : Cond.fieldLink RX6 19 "ProcessTurnsModel" "place" "[I" ∈ T0 := mT (List.mem_append_right _ (List.mem_append_right _ (List.mem_append_left _ (List.mem_of_getElem? (i := 160) (by decide +kernel))))) (by decide +kernel)
set_option maxRecDepth 20000 in
theorem wF_X6_22 : Cond.fieldLink RX6 22 "ProcessTurnsModel" "cells" "[I" ∈ T0 := mT (List.mem_append_right _ (List.mem_append_right _ (List.mem_append_left _ (List.mem_of_getElem? (i := 161) (by decide +kernel))))) (by decide +kernel)
set_option maxRecDepth 20000 in
theorem wF_X6_25 : Cond.fieldLink RX6 25 "ProcessTurnsModel" "rank" "[I" ∈ T0 := mT (List.mem_append_right _ (List.mem_append_right _ (List.mem_append_left _ (List.mem_of_getElem? (i := 162) (by decide +kernel))))) (by decide +kernel)
set_option maxRecDepth 20000 in
theorem wF_X6_28 : Cond.fieldLink RX6 28 "ProcessTurnsModel" "until" "[I" ∈ T0 := mT (List.mem_append_right _ (List.mem_append_right _ (List.mem_append_left _ (List.mem_of_getElem? (i := 163) (by decide +kernel))))) (by decide +kernel)
set_option maxRecDepth 20000 in
theorem wF_X6_31 : Cond.fieldLink RX6 31 "ProcessTurnsModel" "message" "[I" ∈ T0 := mT (List.mem_append_right _ (List.mem_append_right _ (List.mem_append_left _ (List.mem_of_getElem? (i := 164) (by decide +kernel))))) (by decide +kernel)
set_option maxRecDepth 20000 in
theorem wF_X6_96 : Cond.fieldLink RX6 96 "ProcessTurnsModel" "first" "I" ∈ T0 := mT (List.mem_append_right _ (List.mem_append_right _ (List.mem_append_left _ (List.mem_of_getElem? (i := 165) (by decide +kernel))))) (by decide +kernel)
set_option maxRecDepth 20000 in
theorem wF_X6_48 : Cond.fieldLink RX6 48 "ProcessTurnsModel" "last" "I" ∈ T0 := mT (List.mem_append_right _ (List.mem_append_right _ (List.mem_append_left _ (List.mem_of_getElem? (i := 166) (by decide +kernel))))) (by decide +kernel)
set_option maxRecDepth 20000 in
theorem wF_X6_59 : Cond.fieldLink RX6 59 "ProcessTurnsModel" "clock" "I" ∈ T0 := mT (List.mem_append_right _ (List.mem_append_right _ (List.mem_append_left _ (List.mem_of_getElem? (i := 167) (by decide +kernel))))) (by decide +kernel)
set_option maxRecDepth 20000 in
theorem wF_X6_76 : Cond.fieldLink RX6 76 "ProcessTurnsModel" "done" "I" ∈ T0 := mT (List.mem_append_right _ (List.mem_append_right _ (List.mem_append_left _ (List.mem_of_getElem? (i := 168) (by decide +kernel))))) (by decide +kernel)
set_option maxRecDepth 20000 in
theorem wF_X6_34 : Cond.fieldLink RX6 34 "ProcessTurnsModel" "channel" "[I" ∈ T0 := mT (List.mem_append_right _ (List.mem_append_right _ (List.mem_append_left _ (List.mem_of_getElem? (i := 169) (by decide +kernel))))) (by decide +kernel)
set_option maxRecDepth 20000 in
theorem wF_X6_62 : Cond.fieldLink RX6 62 "ProcessTurnsModel" "messages" "I" ∈ T0 := mT (List.mem_append_right _ (List.mem_append_right _ (List.mem_append_left _ (List.mem_of_getElem? (i := 170) (by decide +kernel))))) (by decide +kernel)
set_option maxRecDepth 20000 in
theorem wF_X6_37 : Cond.fieldLink RX6 37 "ProcessTurnsModel" "log" "[I" ∈ T0 := mT (List.mem_append_right _ (List.mem_append_right _ (List.mem_append_left _ (List.mem_of_getElem? (i := 171) (by decide +kernel))))) (by decide +kernel)
set_option maxRecDepth 20000 in
theorem wM_L_17 : Cond.methodLink RL 17 yX6_add ∈ T0 := mT (List.mem_append_right _ (List.mem_append_right _ (List.mem_append_left _ (List.mem_of_getElem? (i := 205) (by decide +kernel))))) (by decide +kernel)
set_option maxRecDepth 20000 in
theorem wN_X6_add : Cond.instanceMethod yX6_add ∈ T0 := mT (List.mem_append_right _ (List.mem_append_right _ (List.mem_append_left _ (List.mem_of_getElem? (i := 206) (by decide +kernel))))) (by decide +kernel)
set_option maxRecDepth 20000 in
theorem wS_X6_add : Cond.selects RX6 yX6_add yX6_add ∈ T0 := mT (List.mem_append_right _ (List.mem_append_right _ (List.mem_append_left _ (List.mem_of_getElem? (i := 207) (by decide +kernel))))) (by decide +kernel)
set_option maxRecDepth 20000 in
theorem wC_X6_add : Cond.code yX6_add cX6_add 4 (some FieldType.int) ∈ T0 := mT (List.mem_append_right _ (List.mem_append_right _ (List.mem_append_left _ (List.mem_of_getElem? (i := 208) (by decide +kernel))))) (by decide +kernel)
set_option maxRecDepth 20000 in
theorem wM_X6_40 : Cond.methodLink RX6 40 yX6_within ∈ T0 := mT (List.mem_append_right _ (List.mem_append_right _ (List.mem_append_left _ (List.mem_of_getElem? (i := 209) (by decide +kernel))))) (by decide +kernel)
set_option maxRecDepth 20000 in
theorem wT_X6_within : Cond.static yX6_within ∈ T0 := mT (List.mem_append_right _ (List.mem_append_right _ (List.mem_append_left _ (List.mem_of_getElem? (i := 210) (by decide +kernel))))) (by decide +kernel)
set_option maxRecDepth 20000 in
theorem wC_X6_within : Cond.code yX6_within cX6_within 3 (some FieldType.boolean) ∈ T0 := mT (List.mem_append_right _ (List.mem_append_right _ (List.mem_append_left _ (List.mem_of_getElem? (i := 211) (by decide +kernel))))) (by decide +kernel)
set_option maxRecDepth 20000 in
theorem wM_L_22 : Cond.methodLink RL 22 yX6_start ∈ T0 := mT (List.mem_append_right _ (List.mem_append_right _ (List.mem_append_left _ (List.mem_of_getElem? (i := 212) (by decide +kernel))))) (by decide +kernel)
set_option maxRecDepth 20000 in
theorem wN_X6_start : Cond.instanceMethod yX6_start ∈ T0 := mT (List.mem_append_right _ (List.mem_append_right _ (List.mem_append_left _ (List.mem_of_getElem? (i := 213) (by decide +kernel))))) (by decide +kernel)
set_option maxRecDepth 20000 in
theorem wS_X6_start : Cond.selects RX6 yX6_start yX6_start ∈ T0 := mT (List.mem_append_right _ (List.mem_append_right _ (List.mem_append_left _ (List.mem_of_getElem? (i := 214) (by decide +kernel))))) (by decide +kernel)
set_option maxRecDepth 20000 in
theorem wC_X6_start : Cond.code yX6_start cX6_start 5 (some FieldType.int) ∈ T0 := mT (List.mem_append_right _ (List.mem_append_right _ (List.mem_append_left _ (List.mem_of_getElem? (i := 215) (by decide +kernel))))) (by decide +kernel)
set_option maxRecDepth 20000 in
theorem wM_X6_55 : Cond.methodLink RX6 55 yX6_begin ∈ T0 := mT (List.mem_append_right _ (List.mem_append_right _ (List.mem_append_left _ (List.mem_of_getElem? (i := 216) (by decide +kernel))))) (by decide +kernel)
set_option maxRecDepth 20000 in
theorem wN_X6_begin : Cond.instanceMethod yX6_begin ∈ T0 := mT (List.mem_append_right _ (List.mem_append_right _ (List.mem_append_left _ (List.mem_of_getElem? (i := 218) (by decide +kernel))))) (by decide +kernel)
set_option maxRecDepth 20000 in
theorem wC_X6_begin : Cond.code yX6_begin cX6_begin 6 (some FieldType.int) ∈ T0 := mT (List.mem_append_right _ (List.mem_append_right _ (List.mem_append_left _ (List.mem_of_getElem? (i := 219) (by decide +kernel))))) (by decide +kernel)
set_option maxRecDepth 20000 in
theorem wM_X6_51 : Cond.methodLink RX6 51 yX6_atEnd ∈ T0 := mT (List.mem_append_right _ (List.mem_append_right _ (List.mem_append_left _ (List.mem_of_getElem? (i := 220) (by decide +kernel))))) (by decide +kernel)
set_option maxRecDepth 20000 in
theorem wN_X6_atEnd : Cond.instanceMethod yX6_atEnd ∈ T0 := mT (List.mem_append_right _ (List.mem_append_right _ (List.mem_append_left _ (List.mem_of_getElem? (i := 222) (by decide +kernel))))) (by decide +kernel)
set_option maxRecDepth 20000 in
theorem wC_X6_atEnd : Cond.code yX6_atEnd cX6_atEnd 2 (none : Option FieldType) ∈ T0 := mT (List.mem_append_right _ (List.mem_append_right _ (List.mem_append_left _ (List.mem_of_getElem? (i := 223) (by decide +kernel))))) (by decide +kernel)
set_option maxRecDepth 20000 in
theorem wM_L_32 : Cond.methodLink RL 32 yX6_setClock ∈ T0 := mT (List.mem_append_right _ (List.mem_append_right _ (List.mem_append_left _ (List.mem_of_getElem? (i := 224) (by decide +kernel))))) (by decide +kernel)
set_option maxRecDepth 20000 in
theorem wN_X6_setClock : Cond.instanceMethod yX6_setClock ∈ T0 := mT (List.mem_append_right _ (List.mem_append_right _ (List.mem_append_left _ (List.mem_of_getElem? (i := 225) (by decide +kernel))))) (by decide +kernel)
set_option maxRecDepth 20000 in
theorem wS_X6_setClock : Cond.selects RX6 yX6_setClock yX6_setClock ∈ T0 := mT (List.mem_append_right _ (List.mem_append_right _ (List.mem_append_left _ (List.mem_of_getElem? (i := 226) (by decide +kernel))))) (by decide +kernel)
set_option maxRecDepth 20000 in
theorem wC_X6_setClock : Cond.code yX6_setClock cX6_setClock 2 (none : Option FieldType) ∈ T0 := mT (List.mem_append_right _ (List.mem_append_right _ (List.mem_append_left _ (List.mem_of_getElem? (i := 227) (by decide +kernel))))) (by decide +kernel)
set_option maxRecDepth 20000 in
theorem wM_L_36 : Cond.methodLink RL 36 yX6_reset ∈ T0 := mT (List.mem_append_right _ (List.mem_append_right _ (List.mem_append_left _ (List.mem_of_getElem? (i := 228) (by decide +kernel))))) (by decide +kernel)
set_option maxRecDepth 20000 in
theorem wN_X6_reset : Cond.instanceMethod yX6_reset ∈ T0 := mT (List.mem_append_right _ (List.mem_append_right _ (List.mem_append_left _ (List.mem_of_getElem? (i := 229) (by decide +kernel))))) (by decide +kernel)
set_option maxRecDepth 20000 in
theorem wS_X6_reset : Cond.selects RX6 yX6_reset yX6_reset ∈ T0 := mT (List.mem_append_right _ (List.mem_append_right _ (List.mem_append_left _ (List.mem_of_getElem? (i := 230) (by decide +kernel))))) (by decide +kernel)
set_option maxRecDepth 20000 in
theorem wC_X6_reset : Cond.code yX6_reset cX6_reset 2 (none : Option FieldType) ∈ T0 := mT (List.mem_append_right _ (List.mem_append_right _ (List.mem_append_left _ (List.mem_of_getElem? (i := 231) (by decide +kernel))))) (by decide +kernel)
set_option maxRecDepth 20000 in
theorem wM_L_27 : Cond.methodLink RL 27 yX6_run ∈ T0 := mT (List.mem_append_right _ (List.mem_append_right _ (List.mem_append_left _ (List.mem_of_getElem? (i := 232) (by decide +kernel))))) (by decide +kernel)
set_option maxRecDepth 20000 in
theorem wN_X6_run : Cond.instanceMethod yX6_run ∈ T0 := mT (List.mem_append_right _ (List.mem_append_right _ (List.mem_append_left _ (List.mem_of_getElem? (i := 233) (by decide +kernel))))) (by decide +kernel)
set_option maxRecDepth 20000 in
theorem wS_X6_run : Cond.selects RX6 yX6_run yX6_run ∈ T0 := mT (List.mem_append_right _ (List.mem_append_right _ (List.mem_append_left _ (List.mem_of_getElem? (i := 234) (by decide +kernel))))) (by decide +kernel)
set_option maxRecDepth 20000 in
theorem wC_X6_run : Cond.code yX6_run cX6_run 4 (some FieldType.int) ∈ T0 := mT (List.mem_append_right _ (List.mem_append_right _ (List.mem_append_left _ (List.mem_of_getElem? (i := 235) (by decide +kernel))))) (by decide +kernel)
set_option maxRecDepth 20000 in
theorem wM_X6_102 : Cond.methodLink RX6 102 yX6_step ∈ T0 := mT (List.mem_append_right _ (List.mem_append_right _ (List.mem_append_left _ (List.mem_of_getElem? (i := 236) (by decide +kernel))))) (by decide +kernel)
set_option maxRecDepth 20000 in
theorem wN_X6_step : Cond.instanceMethod yX6_step ∈ T0 := mT (List.mem_append_right _ (List.mem_append_right _ (List.mem_append_left _ (List.mem_of_getElem? (i := 238) (by decide +kernel))))) (by decide +kernel)
set_option maxRecDepth 20000 in
theorem wC_X6_step : Cond.code yX6_step cX6_step 2 (some FieldType.boolean) ∈ T0 := mT (List.mem_append_right _ (List.mem_append_right _ (List.mem_append_left _ (List.mem_of_getElem? (i := 239) (by decide +kernel))))) (by decide +kernel)
set_option maxRecDepth 20000 in
theorem wM_X6_88 : Cond.methodLink RX6 88 yX6_current ∈ T0 := mT (List.mem_append_right _ (List.mem_append_right _ (List.mem_append_right _ (List.mem_of_getElem? (i := 0) (by decide +kernel))))) (by decide +kernel)
set_option maxRecDepth 20000 in
theorem wN_X6_current : Cond.instanceMethod yX6_current ∈ T0 := mT (List.mem_append_right _ (List.mem_append_right _ (List.mem_append_right _ (List.mem_of_getElem? (i := 2) (by decide +kernel))))) (by decide +kernel)
set_option maxRecDepth 20000 in
theorem wC_X6_current : Cond.code yX6_current cX6_current 2 (some FieldType.int) ∈ T0 := mT (List.mem_append_right _ (List.mem_append_right _ (List.mem_append_right _ (List.mem_of_getElem? (i := 3) (by decide +kernel))))) (by decide +kernel)
set_option maxRecDepth 20000 in
theorem wM_X6_92 : Cond.methodLink RX6 92 yX6_ready ∈ T0 := mT (List.mem_append_right _ (List.mem_append_right _ (List.mem_append_right _ (List.mem_of_getElem? (i := 4) (by decide +kernel))))) (by decide +kernel)
set_option maxRecDepth 20000 in
theorem wN_X6_ready : Cond.instanceMethod yX6_ready ∈ T0 := mT (List.mem_append_right _ (List.mem_append_right _ (List.mem_append_right _ (List.mem_of_getElem? (i := 6) (by decide +kernel))))) (by decide +kernel)
set_option maxRecDepth 20000 in
theorem wC_X6_ready : Cond.code yX6_ready cX6_ready 6 (some FieldType.int) ∈ T0 := mT (List.mem_append_right _ (List.mem_append_right _ (List.mem_append_right _ (List.mem_of_getElem? (i := 7) (by decide +kernel))))) (by decide +kernel)
set_option maxRecDepth 20000 in
theorem wM_X6_99 : Cond.methodLink RX6 99 yX6_instruction ∈ T0 := mT (List.mem_append_right _ (List.mem_append_right _ (List.mem_append_right _ (List.mem_of_getElem? (i := 8) (by decide +kernel))))) (by decide +kernel)
set_option maxRecDepth 20000 in
theorem wN_X6_instruction : Cond.instanceMethod yX6_instruction ∈ T0 := mT (List.mem_append_right _ (List.mem_append_right _ (List.mem_append_right _ (List.mem_of_getElem? (i := 10) (by decide +kernel))))) (by decide +kernel)
set_option maxRecDepth 20000 in
theorem wC_X6_instruction : Cond.code yX6_instruction cX6_instruction 7 (none : Option FieldType) ∈ T0 := mT (List.mem_append_right _ (List.mem_append_right _ (List.mem_append_right _ (List.mem_of_getElem? (i := 11) (by decide +kernel))))) (by decide +kernel)
set_option maxRecDepth 20000 in
theorem wM_X6_65 : Cond.methodLink RX6 65 yX6_push ∈ T0 := mT (List.mem_append_right _ (List.mem_append_right _ (List.mem_append_right _ (List.mem_of_getElem? (i := 12) (by decide +kernel))))) (by decide +kernel)
set_option maxRecDepth 20000 in
theorem wN_X6_push : Cond.instanceMethod yX6_push ∈ T0 := mT (List.mem_append_right _ (List.mem_append_right _ (List.mem_append_right _ (List.mem_of_getElem? (i := 14) (by decide +kernel))))) (by decide +kernel)
set_option maxRecDepth 20000 in
theorem wC_X6_push : Cond.code yX6_push cX6_push 3 (none : Option FieldType) ∈ T0 := mT (List.mem_append_right _ (List.mem_append_right _ (List.mem_append_right _ (List.mem_of_getElem? (i := 15) (by decide +kernel))))) (by decide +kernel)
set_option maxRecDepth 20000 in
theorem wM_X6_69 : Cond.methodLink RX6 69 yX6_pull ∈ T0 := mT (List.mem_append_right _ (List.mem_append_right _ (List.mem_append_right _ (List.mem_of_getElem? (i := 16) (by decide +kernel))))) (by decide +kernel)
set_option maxRecDepth 20000 in
theorem wN_X6_pull : Cond.instanceMethod yX6_pull ∈ T0 := mT (List.mem_append_right _ (List.mem_append_right _ (List.mem_append_right _ (List.mem_of_getElem? (i := 18) (by decide +kernel))))) (by decide +kernel)
set_option maxRecDepth 20000 in
theorem wC_X6_pull : Cond.code yX6_pull cX6_pull 2 (none : Option FieldType) ∈ T0 := mT (List.mem_append_right _ (List.mem_append_right _ (List.mem_append_right _ (List.mem_of_getElem? (i := 19) (by decide +kernel))))) (by decide +kernel)
set_option maxRecDepth 20000 in
theorem wM_X6_79 : Cond.methodLink RX6 79 yX6_value ∈ T0 := mT (List.mem_append_right _ (List.mem_append_right _ (List.mem_append_right _ (List.mem_of_getElem? (i := 20) (by decide +kernel))))) (by decide +kernel)
set_option maxRecDepth 20000 in
theorem wT_X6_value : Cond.static yX6_value ∈ T0 := mT (List.mem_append_right _ (List.mem_append_right _ (List.mem_append_right _ (List.mem_of_getElem? (i := 21) (by decide +kernel))))) (by decide +kernel)
set_option maxRecDepth 20000 in
theorem wC_X6_value : Cond.code yX6_value cX6_value 3 (some FieldType.int) ∈ T0 := mT (List.mem_append_right _ (List.mem_append_right _ (List.mem_append_right _ (List.mem_of_getElem? (i := 22) (by decide +kernel))))) (by decide +kernel)
set_option maxRecDepth 20000 in
theorem wM_X6_82 : Cond.methodLink RX6 82 yX6_send ∈ T0 := mT (List.mem_append_right _ (List.mem_append_right _ (List.mem_append_right _ (List.mem_of_getElem? (i := 23) (by decide +kernel))))) (by decide +kernel)
set_option maxRecDepth 20000 in
theorem wN_X6_send : Cond.instanceMethod yX6_send ∈ T0 := mT (List.mem_append_right _ (List.mem_append_right _ (List.mem_append_right _ (List.mem_of_getElem? (i := 25) (by decide +kernel))))) (by decide +kernel)
set_option maxRecDepth 20000 in
theorem wC_X6_send : Cond.code yX6_send cX6_send 5 (none : Option FieldType) ∈ T0 := mT (List.mem_append_right _ (List.mem_append_right _ (List.mem_append_right _ (List.mem_of_getElem? (i := 26) (by decide +kernel))))) (by decide +kernel)
set_option maxRecDepth 20000 in
theorem wM_X6_72 : Cond.methodLink RX6 72 yX6_tell ∈ T0 := mT (List.mem_append_right _ (List.mem_append_right _ (List.mem_append_right _ (List.mem_of_getElem? (i := 27) (by decide +kernel))))) (by decide +kernel)
set_option maxRecDepth 20000 in
theorem wN_X6_tell : Cond.instanceMethod yX6_tell ∈ T0 := mT (List.mem_append_right _ (List.mem_append_right _ (List.mem_append_right _ (List.mem_of_getElem? (i := 29) (by decide +kernel))))) (by decide +kernel)
set_option maxRecDepth 20000 in
theorem wC_X6_tell : Cond.code yX6_tell cX6_tell 6 (none : Option FieldType) ∈ T0 := mT (List.mem_append_right _ (List.mem_append_right _ (List.mem_append_right _ (List.mem_of_getElem? (i := 30) (by decide +kernel))))) (by decide +kernel)
set_option maxRecDepth 20000 in
theorem wM_X6_85 : Cond.methodLink RX6 85 yX6_receive ∈ T0 := mT (List.mem_append_right _ (List.mem_append_right _ (List.mem_append_right _ (List.mem_of_getElem? (i := 31) (by decide +kernel))))) (by decide +kernel)
set_option maxRecDepth 20000 in
theorem wN_X6_receive : Cond.instanceMethod yX6_receive ∈ T0 := mT (List.mem_append_right _ (List.mem_append_right _ (List.mem_append_right _ (List.mem_of_getElem? (i := 33) (by decide +kernel))))) (by decide +kernel)
set_option maxRecDepth 20000 in
theorem wC_X6_receive : Cond.code yX6_receive cX6_receive 4 (none : Option FieldType) ∈ T0 := mT (List.mem_append_right _ (List.mem_append_right _ (List.mem_append_right _ (List.mem_of_getElem? (i := 34) (by decide +kernel))))) (by decide +kernel)
set_option maxRecDepth 20000 in
theorem wM_L_41 : Cond.methodLink RL 41 yX6_clock ∈ T0 := mT (List.mem_append_right _ (List.mem_append_right _ (List.mem_append_right _ (List.mem_of_getElem? (i := 35) (by decide +kernel))))) (by decide +kernel)
set_option maxRecDepth 20000 in
theorem wN_X6_clock : Cond.instanceMethod yX6_clock ∈ T0 := mT (List.mem_append_right _ (List.mem_append_right _ (List.mem_append_right _ (List.mem_of_getElem? (i := 36) (by decide +kernel))))) (by decide +kernel)
set_option maxRecDepth 20000 in
theorem wS_X6_clock : Cond.selects RX6 yX6_clock yX6_clock ∈ T0 := mT (List.mem_append_right _ (List.mem_append_right _ (List.mem_append_right _ (List.mem_of_getElem? (i := 37) (by decide +kernel))))) (by decide +kernel)
set_option maxRecDepth 20000 in
theorem wC_X6_clock : Cond.code yX6_clock cX6_clock 1 (some FieldType.int) ∈ T0 := mT (List.mem_append_right _ (List.mem_append_right _ (List.mem_append_right _ (List.mem_of_getElem? (i := 38) (by decide +kernel))))) (by decide +kernel)
set_option maxRecDepth 20000 in
theorem wM_L_45 : Cond.methodLink RL 45 yX6_running ∈ T0 := mT (List.mem_append_right _ (List.mem_append_right _ (List.mem_append_right _ (List.mem_of_getElem? (i := 39) (by decide +kernel))))) (by decide +kernel)
set_option maxRecDepth 20000 in
theorem wN_X6_running : Cond.instanceMethod yX6_running ∈ T0 := mT (List.mem_append_right _ (List.mem_append_right _ (List.mem_append_right _ (List.mem_of_getElem? (i := 40) (by decide +kernel))))) (by decide +kernel)
set_option maxRecDepth 20000 in
theorem wS_X6_running : Cond.selects RX6 yX6_running yX6_running ∈ T0 := mT (List.mem_append_right _ (List.mem_append_right _ (List.mem_append_right _ (List.mem_of_getElem? (i := 41) (by decide +kernel))))) (by decide +kernel)
set_option maxRecDepth 20000 in
theorem wC_X6_running : Cond.code yX6_running cX6_running 1 (some FieldType.int) ∈ T0 := mT (List.mem_append_right _ (List.mem_append_right _ (List.mem_append_right _ (List.mem_of_getElem? (i := 42) (by decide +kernel))))) (by decide +kernel)
set_option maxRecDepth 20000 in
theorem wM_L_49 : Cond.methodLink RL 49 yX6_state ∈ T0 := mT (List.mem_append_right _ (List.mem_append_right _ (List.mem_append_right _ (List.mem_of_getElem? (i := 43) (by decide +kernel))))) (by decide +kernel)
set_option maxRecDepth 20000 in
theorem wN_X6_state : Cond.instanceMethod yX6_state ∈ T0 := mT (List.mem_append_right _ (List.mem_append_right _ (List.mem_append_right _ (List.mem_of_getElem? (i := 44) (by decide +kernel))))) (by decide +kernel)
set_option maxRecDepth 20000 in
theorem wS_X6_state : Cond.selects RX6 yX6_state yX6_state ∈ T0 := mT (List.mem_append_right _ (List.mem_append_right _ (List.mem_append_right _ (List.mem_of_getElem? (i := 45) (by decide +kernel))))) (by decide +kernel)
set_option maxRecDepth 20000 in
theorem wC_X6_state : Cond.code yX6_state cX6_state 2 (some FieldType.int) ∈ T0 := mT (List.mem_append_right _ (List.mem_append_right _ (List.mem_append_right _ (List.mem_of_getElem? (i := 46) (by decide +kernel))))) (by decide +kernel)
set_option maxRecDepth 20000 in
theorem wM_L_54 : Cond.methodLink RL 54 yX6_look ∈ T0 := mT (List.mem_append_right _ (List.mem_append_right _ (List.mem_append_right _ (List.mem_of_getElem? (i := 47) (by decide +kernel))))) (by decide +kernel)
set_option maxRecDepth 20000 in
theorem wN_X6_look : Cond.instanceMethod yX6_look ∈ T0 := mT (List.mem_append_right _ (List.mem_append_right _ (List.mem_append_right _ (List.mem_of_getElem? (i := 48) (by decide +kernel))))) (by decide +kernel)
set_option maxRecDepth 20000 in
theorem wS_X6_look : Cond.selects RX6 yX6_look yX6_look ∈ T0 := mT (List.mem_append_right _ (List.mem_append_right _ (List.mem_append_right _ (List.mem_of_getElem? (i := 49) (by decide +kernel))))) (by decide +kernel)
set_option maxRecDepth 20000 in
theorem wC_X6_look : Cond.code yX6_look cX6_look 3 (some FieldType.long) ∈ T0 := mT (List.mem_append_right _ (List.mem_append_right _ (List.mem_append_right _ (List.mem_of_getElem? (i := 50) (by decide +kernel))))) (by decide +kernel)
set_option maxRecDepth 20000 in
theorem wK_X6_106 : Cond.constantLong RX6 106 4294967296 ∈ T0 := mT (List.mem_append_right _ (List.mem_append_right _ (List.mem_append_right _ (List.mem_of_getElem? (i := 51) (by decide +kernel))))) (by decide +kernel)
set_option maxRecDepth 20000 in
theorem wM_L_58 : Cond.methodLink RL 58 yX6_waiting ∈ T0 := mT (List.mem_append_right _ (List.mem_append_right _ (List.mem_append_right _ (List.mem_of_getElem? (i := 52) (by decide +kernel))))) (by decide +kernel)
set_option maxRecDepth 20000 in
theorem wN_X6_waiting : Cond.instanceMethod yX6_waiting ∈ T0 := mT (List.mem_append_right _ (List.mem_append_right _ (List.mem_append_right _ (List.mem_of_getElem? (i := 53) (by decide +kernel))))) (by decide +kernel)
set_option maxRecDepth 20000 in
theorem wS_X6_waiting : Cond.selects RX6 yX6_waiting yX6_waiting ∈ T0 := mT (List.mem_append_right _ (List.mem_append_right _ (List.mem_append_right _ (List.mem_of_getElem? (i := 54) (by decide +kernel))))) (by decide +kernel)
set_option maxRecDepth 20000 in
theorem wC_X6_waiting : Cond.code yX6_waiting cX6_waiting 3 (some FieldType.int) ∈ T0 := mT (List.mem_append_right _ (List.mem_append_right _ (List.mem_append_right _ (List.mem_of_getElem? (i := 55) (by decide +kernel))))) (by decide +kernel)
set_option maxRecDepth 20000 in
theorem wM_L_62 : Cond.methodLink RL 62 yX6_channel ∈ T0 := mT (List.mem_append_right _ (List.mem_append_right _ (List.mem_append_right _ (List.mem_of_getElem? (i := 56) (by decide +kernel))))) (by decide +kernel)
set_option maxRecDepth 20000 in
theorem wN_X6_channel : Cond.instanceMethod yX6_channel ∈ T0 := mT (List.mem_append_right _ (List.mem_append_right _ (List.mem_append_right _ (List.mem_of_getElem? (i := 57) (by decide +kernel))))) (by decide +kernel)
set_option maxRecDepth 20000 in
theorem wS_X6_channel : Cond.selects RX6 yX6_channel yX6_channel ∈ T0 := mT (List.mem_append_right _ (List.mem_append_right _ (List.mem_append_right _ (List.mem_of_getElem? (i := 58) (by decide +kernel))))) (by decide +kernel)
set_option maxRecDepth 20000 in
theorem wC_X6_channel : Cond.code yX6_channel cX6_channel 2 (some FieldType.int) ∈ T0 := mT (List.mem_append_right _ (List.mem_append_right _ (List.mem_append_right _ (List.mem_of_getElem? (i := 59) (by decide +kernel))))) (by decide +kernel)
set_option maxRecDepth 20000 in
theorem wM_L_66 : Cond.methodLink RL 66 yX6_messages ∈ T0 := mT (List.mem_append_right _ (List.mem_append_right _ (List.mem_append_right _ (List.mem_of_getElem? (i := 60) (by decide +kernel))))) (by decide +kernel)
set_option maxRecDepth 20000 in
theorem wN_X6_messages : Cond.instanceMethod yX6_messages ∈ T0 := mT (List.mem_append_right _ (List.mem_append_right _ (List.mem_append_right _ (List.mem_of_getElem? (i := 61) (by decide +kernel))))) (by decide +kernel)
set_option maxRecDepth 20000 in
theorem wS_X6_messages : Cond.selects RX6 yX6_messages yX6_messages ∈ T0 := mT (List.mem_append_right _ (List.mem_append_right _ (List.mem_append_right _ (List.mem_of_getElem? (i := 62) (by decide +kernel))))) (by decide +kernel)
set_option maxRecDepth 20000 in
theorem wC_X6_messages : Cond.code yX6_messages cX6_messages 1 (some FieldType.int) ∈ T0 := mT (List.mem_append_right _ (List.mem_append_right _ (List.mem_append_right _ (List.mem_of_getElem? (i := 63) (by decide +kernel))))) (by decide +kernel)
set_option maxRecDepth 20000 in
theorem wM_L_70 : Cond.methodLink RL 70 yX6_message ∈ T0 := mT (List.mem_append_right _ (List.mem_append_right _ (List.mem_append_right _ (List.mem_of_getElem? (i := 64) (by decide +kernel))))) (by decide +kernel)
set_option maxRecDepth 20000 in
theorem wN_X6_message : Cond.instanceMethod yX6_message ∈ T0 := mT (List.mem_append_right _ (List.mem_append_right _ (List.mem_append_right _ (List.mem_of_getElem? (i := 65) (by decide +kernel))))) (by decide +kernel)
set_option maxRecDepth 20000 in
theorem wS_X6_message : Cond.selects RX6 yX6_message yX6_message ∈ T0 := mT (List.mem_append_right _ (List.mem_append_right _ (List.mem_append_right _ (List.mem_of_getElem? (i := 66) (by decide +kernel))))) (by decide +kernel)
set_option maxRecDepth 20000 in
theorem wC_X6_message : Cond.code yX6_message cX6_message 3 (some FieldType.long) ∈ T0 := mT (List.mem_append_right _ (List.mem_append_right _ (List.mem_append_right _ (List.mem_of_getElem? (i := 67) (by decide +kernel))))) (by decide +kernel)
set_option maxRecDepth 20000 in
theorem wS_X5_startLeastFree : Cond.selects RX5 yX5_startLeastFree yX5_startLeastFree ∈ T0 := mT (List.mem_append_left _ (List.mem_of_getElem? (i := 0) (by decide +kernel))) (by decide +kernel)
set_option maxRecDepth 20000 in
theorem wS_X5_leastFree : Cond.selects RX5 yX5_leastFree yX5_leastFree ∈ T0 := mT (List.mem_append_left _ (List.mem_of_getElem? (i := 1) (by decide +kernel))) (by decide +kernel)
set_option maxRecDepth 20000 in
theorem wS_X5_becomeReady : Cond.selects RX5 yX5_becomeReady yX5_becomeReady ∈ T0 := mT (List.mem_append_left _ (List.mem_of_getElem? (i := 2) (by decide +kernel))) (by decide +kernel)
set_option maxRecDepth 20000 in
theorem wS_X5_rowOf : Cond.selects RX5 yX5_rowOf yX5_rowOf ∈ T0 := mT (List.mem_append_left _ (List.mem_of_getElem? (i := 3) (by decide +kernel))) (by decide +kernel)
set_option maxRecDepth 20000 in
theorem wS_X5_step : Cond.selects RX5 yX5_step yX5_step ∈ T0 := mT (List.mem_append_left _ (List.mem_of_getElem? (i := 4) (by decide +kernel))) (by decide +kernel)
set_option maxRecDepth 20000 in
theorem wS_X5_wakeThoseWhoseTimeHasCome : Cond.selects RX5 yX5_wakeThoseWhoseTimeHasCome yX5_wakeThoseWhoseTimeHasCome ∈ T0 := mT (List.mem_append_left _ (List.mem_of_getElem? (i := 5) (by decide +kernel))) (by decide +kernel)
set_option maxRecDepth 20000 in
theorem wS_X5_hasCome : Cond.selects RX5 yX5_hasCome yX5_hasCome ∈ T0 := mT (List.mem_append_left _ (List.mem_of_getElem? (i := 6) (by decide +kernel))) (by decide +kernel)
set_option maxRecDepth 20000 in
theorem wS_X5_giveWayToHigh : Cond.selects RX5 yX5_giveWayToHigh yX5_giveWayToHigh ∈ T0 := mT (List.mem_append_left _ (List.mem_of_getElem? (i := 7) (by decide +kernel))) (by decide +kernel)
set_option maxRecDepth 20000 in
theorem wS_X5_takeNext : Cond.selects RX5 yX5_takeNext yX5_takeNext ∈ T0 := mT (List.mem_append_left _ (List.mem_of_getElem? (i := 8) (by decide +kernel))) (by decide +kernel)
set_option maxRecDepth 20000 in
theorem wS_X5_execute : Cond.selects RX5 yX5_execute yX5_execute ∈ T0 := mT (List.mem_append_left _ (List.mem_of_getElem? (i := 9) (by decide +kernel))) (by decide +kernel)
set_option maxRecDepth 20000 in
theorem wS_X5_jump : Cond.selects RX5 yX5_jump yX5_jump ∈ T0 := mT (List.mem_append_left _ (List.mem_of_getElem? (i := 10) (by decide +kernel))) (by decide +kernel)
set_option maxRecDepth 20000 in
theorem wS_X5_jumpIfZero : Cond.selects RX5 yX5_jumpIfZero yX5_jumpIfZero ∈ T0 := mT (List.mem_append_left _ (List.mem_of_getElem? (i := 11) (by decide +kernel))) (by decide +kernel)
set_option maxRecDepth 20000 in
theorem wS_X5_channelAt : Cond.selects RX5 yX5_channelAt yX5_channelAt ∈ T0 := mT (List.mem_append_left _ (List.mem_of_getElem? (i := 12) (by decide +kernel))) (by decide +kernel)
set_option maxRecDepth 20000 in
theorem wS_X5_send : Cond.selects RX5 yX5_send yX5_send ∈ T0 := mT (List.mem_append_left _ (List.mem_of_getElem? (i := 13) (by decide +kernel))) (by decide +kernel)
set_option maxRecDepth 20000 in
theorem wS_X5_deliver : Cond.selects RX5 yX5_deliver yX5_deliver ∈ T0 := mT (List.mem_append_left _ (List.mem_of_getElem? (i := 14) (by decide +kernel))) (by decide +kernel)
set_option maxRecDepth 20000 in
theorem wS_X5_receive : Cond.selects RX5 yX5_receive yX5_receive ∈ T0 := mT (List.mem_append_left _ (List.mem_of_getElem? (i := 15) (by decide +kernel))) (by decide +kernel)
set_option maxRecDepth 20000 in
theorem wS_X5_awaitTime : Cond.selects RX5 yX5_awaitTime yX5_awaitTime ∈ T0 := mT (List.mem_append_left _ (List.mem_of_getElem? (i := 16) (by decide +kernel))) (by decide +kernel)
set_option maxRecDepth 20000 in
theorem wS_X5_compute : Cond.selects RX5 yX5_compute yX5_compute ∈ T0 := mT (List.mem_append_left _ (List.mem_of_getElem? (i := 17) (by decide +kernel))) (by decide +kernel)
set_option maxRecDepth 20000 in
theorem wS_X6_begin : Cond.selects RX6 yX6_begin yX6_begin ∈ T0 := mT (List.mem_append_left _ (List.mem_of_getElem? (i := 18) (by decide +kernel))) (by decide +kernel)
set_option maxRecDepth 20000 in
theorem wS_X6_atEnd : Cond.selects RX6 yX6_atEnd yX6_atEnd ∈ T0 := mT (List.mem_append_left _ (List.mem_of_getElem? (i := 19) (by decide +kernel))) (by decide +kernel)
set_option maxRecDepth 20000 in
theorem wS_X6_step : Cond.selects RX6 yX6_step yX6_step ∈ T0 := mT (List.mem_append_left _ (List.mem_of_getElem? (i := 20) (by decide +kernel))) (by decide +kernel)
set_option maxRecDepth 20000 in
theorem wS_X6_current : Cond.selects RX6 yX6_current yX6_current ∈ T0 := mT (List.mem_append_left _ (List.mem_of_getElem? (i := 21) (by decide +kernel))) (by decide +kernel)
set_option maxRecDepth 20000 in
theorem wS_X6_ready : Cond.selects RX6 yX6_ready yX6_ready ∈ T0 := mT (List.mem_append_left _ (List.mem_of_getElem? (i := 22) (by decide +kernel))) (by decide +kernel)
set_option maxRecDepth 20000 in
theorem wS_X6_instruction : Cond.selects RX6 yX6_instruction yX6_instruction ∈ T0 := mT (List.mem_append_left _ (List.mem_of_getElem? (i := 23) (by decide +kernel))) (by decide +kernel)
set_option maxRecDepth 20000 in
theorem wS_X6_push : Cond.selects RX6 yX6_push yX6_push ∈ T0 := mT (List.mem_append_left _ (List.mem_of_getElem? (i := 24) (by decide +kernel))) (by decide +kernel)
set_option maxRecDepth 20000 in
theorem wS_X6_pull : Cond.selects RX6 yX6_pull yX6_pull ∈ T0 := mT (List.mem_append_left _ (List.mem_of_getElem? (i := 25) (by decide +kernel))) (by decide +kernel)
set_option maxRecDepth 20000 in
theorem wS_X6_send : Cond.selects RX6 yX6_send yX6_send ∈ T0 := mT (List.mem_append_left _ (List.mem_of_getElem? (i := 26) (by decide +kernel))) (by decide +kernel)
set_option maxRecDepth 20000 in
theorem wS_X6_tell : Cond.selects RX6 yX6_tell yX6_tell ∈ T0 := mT (List.mem_append_left _ (List.mem_of_getElem? (i := 27) (by decide +kernel))) (by decide +kernel)
set_option maxRecDepth 20000 in
theorem wS_X6_receive : Cond.selects RX6 yX6_receive yX6_receive ∈ T0 := mT (List.mem_append_left _ (List.mem_of_getElem? (i := 28) (by decide +kernel))) (by decide +kernel)
end
section
set_option maxRecDepth 20000 in
theorem inX0 : ∀ w ∈ wsX00, w ∈ T0 := fun w h => mT ((by decide +kernel : ∀ w ∈ wsX00, w ∈ lw_tbl) w h) ((by decide +kernel : ∀ w ∈ wsX00, goodWord w = true) w h)
set_option maxRecDepth 20000 in
theorem inX1 : ∀ w ∈ wsX10, w ∈ T0 := fun w h => mT ((by decide +kernel : ∀ w ∈ wsX10, w ∈ lw_tbl) w h) ((by decide +kernel : ∀ w ∈ wsX10, goodWord w = true) w h)
set_option maxRecDepth 20000 in
theorem inX2 : ∀ w ∈ wsX20, w ∈ T0 := fun w h => mT ((by decide +kernel : ∀ w ∈ wsX20, w ∈ lw_tbl) w h) ((by decide +kernel : ∀ w ∈ wsX20, goodWord w = true) w h)
set_option maxRecDepth 20000 in
theorem inX3 : ∀ w ∈ wsX30, w ∈ T0 := fun w h => mT ((by decide +kernel : ∀ w ∈ wsX30, w ∈ lw_tbl) w h) ((by decide +kernel : ∀ w ∈ wsX30, goodWord w = true) w h)
set_option maxRecDepth 20000 in
theorem inX4 : ∀ w ∈ wsX40, w ∈ T0 := fun w h => mT ((by decide +kernel : ∀ w ∈ wsX40, w ∈ lw_tbl) w h) ((by decide +kernel : ∀ w ∈ wsX40, goodWord w = true) w h)
set_option maxRecDepth 20000 in
theorem inX5 : ∀ w ∈ wsX50, w ∈ T0 := fun w h => mT ((by decide +kernel : ∀ w ∈ wsX50, w ∈ lw_tbl) w h) ((by decide +kernel : ∀ w ∈ wsX50, goodWord w = true) w h)
set_option maxRecDepth 20000 in
theorem inX6 : ∀ w ∈ wsX60, w ∈ T0 := fun w h => mT ((by decide +kernel : ∀ w ∈ wsX60, w ∈ lw_tbl) w h) ((by decide +kernel : ∀ w ∈ wsX60, goodWord w = true) w h)
end
section
/-! MACHINERY. A world is a function from a cell's number to the cell; cell number j lies at b + j; there are n. -/
def He (D : va_G) (b n : Nat) (E : Nat → va_E) (H : Heap) : Prop := H.size = b + n ∧ ∀ j, j < n → va_at D vwCl (b + j, E j) H
def eU (E : Nat → va_E) (j : Nat) (x : va_E) : Nat → va_E := fun i => if i = j then x else E i
theorem eU_s {E : Nat → va_E} {j : Nat} {x : va_E} : eU E j x j = x := if_pos rfl
theorem eU_n {E : Nat → va_E} {i j : Nat} {x : va_E} (h : i ≠ j) : eU E j x i = E i := if_neg h
theorem He.P {D : va_G} {b n : Nat} {E : Nat → va_E} {H : Heap} (h : He D b n E H) {j : Nat} (hj : j < n) {x : va_E} (he : E j = x) : va_P D vwCl [(b + j, x)] H := by
  intro k q hk
  cases k with
  | zero => cases hk; rw [← he]; exact h.2 j hj
  | succ k => simp at hk
theorem He.at {D : va_G} {b n : Nat} {E : Nat → va_E} {H : Heap} (h : He D b n E H) {j : Nat} (hj : j < n) {x : va_E} (he : E j = x) : va_at D vwCl (b + j, x) H := by
  rw [← he]; exact h.2 j hj
theorem He.to {D : va_G} {b n : Nat} {E E' : Nat → va_E} {H : Heap} (h : He D b n E H) (he : ∀ j, j < n → E j = E' j) : He D b n E' H :=
  ⟨h.1, fun j hj => by rw [← he j hj]; exact h.2 j hj⟩
theorem He.put {D : va_G} {b n : Nat} {E : Nat → va_E} {H H1 : Heap} (h : He D b n E H) {j : Nat} {x : va_E} (h1 : va_at D vwCl (b + j, x) H1) (hz : H1.size = H.size) (ho : ∀ q : Nat, q ≠ b + j → H1[q]? = H[q]?) : He D b n (eU E j x) H1 := by
  refine ⟨by rw [hz]; exact h.1, fun i hi => ?_⟩
  by_cases hij : i = j
  · subst hij; rw [eU_s]; exact h1
  · rw [eU_n hij]
    exact (h.2 i hi).kept (ho (b + i) (by omega))
theorem He.new {D : va_G} {b n : Nat} {E : Nat → va_E} {H H1 : Heap} (h : He D b n E H) {x : va_E} (h1 : va_at D vwCl (b + n, x) H1) (hz : H1.size = b + n + 1) (ho : ∀ q : Nat, q < b + n → H1[q]? = H[q]?) : He D b (n + 1) (eU E n x) H1 := by
  refine ⟨by rw [hz]; rfl, fun i hi => ?_⟩
  by_cases hij : i = n
  · subst hij; rw [eU_s]; exact h1
  · rw [eU_n hij]
    exact (h.2 i (by omega)).kept (ho (b + i) (by omega))
theorem vS_put {b : Nat} {H0 H H1 : Heap} {locs : List Loc} {a k : Nat} (h : va_S (fun q => b ≤ q) H0 H locs) (z : H1.size = H.size) (oq : ∀ q : Nat, q ≠ b + a → H1[q]? = H[q]?) : va_S (fun q => b ≤ q) H0 H1 (locs ++ [⟨b + a, k⟩]) :=
  va_S.put h z oq (Nat.le_add_right b a)
theorem vS_new {b n : Nat} {H0 H H1 : Heap} {locs : List Loc} (h : va_S (fun q => b ≤ q) H0 H locs) (hn : H.size = b + n) (hz : H1.size = b + n + 1) (ho : ∀ q : Nat, q < b + n → H1[q]? = H[q]?) : va_S (fun q => b ≤ q) H0 H1 locs :=
  ⟨Nat.le_trans h.1 (by omega), fun q h1 h2 => (ho q (Nat.lt_of_lt_of_le h1 (by rw [← hn]; exact h.1))).trans (h.2.1 q h1 h2), h.2.2⟩
section MA
variable {p : Program} {l : Launch} {e : Env} {R : Room} {s : State} {m : MethodId} {args : Array Value} {below : List Frame} {meth : Method} {c : Code} {H : Heap} {locs : List Loc} {cells slots : Nat} {Q : State → Prop}
variable {cc : ByteArray} {pc : Nat} {ls : Array Slot} {rest : List Value} {D : va_G} {tys : List (ClassId × FieldType)} {H0 : Heap} {b n : Nat} {E : Nat → va_E}
/-- getfield -/
theorem e_get (hexec : p.tables.exec = Jvm.exec) (hb : c.code = cc) {own ref C : String} {T : u_T} {N ci index : Nat} {Ts : List Cond} (hts : ∀ w ∈ Ts, w.before args s = true) (hin : ∀ w ∈ u_ws C T N, w ∈ Ts) (hown : s.vm.findClass own = some m.cls) (hK : va_K D vwCl tys s) (hH : He D b n E H) {j : Nat} (hj : j < n) {fs : List Value} (he : E j = .inr (ci, fs)) (hc : vwCl[ci]? = some (C, T, N)) (k : Nat) (hk : k < N) (hlink : Cond.fieldLink own index ref (T k).2.1 (T k).2.2.1 ∈ Ts) (href : (T k).1 = ref) {v : Value} (hv : fs[k]? = some v) (hdg : decode cc pc = .ok (.getfield index, 3))
    (kk : W p l e R s m args below meth c H locs cells slots Q (F0 m (pc + 3) ls (v :: rest))) : W p l e R s m args below meth c H locs cells slots Q (F0 m pc ls (.ref (b + j) :: rest)) :=
  va_get hexec hb hts hin hown hK (hH.P hj he) 0 rfl hc k hk (hts _ hlink) (by subst href; exact fun _ h => h) hv hdg kk
/-- putfield -/
theorem e_put (hexec : p.tables.exec = Jvm.exec) (hb : c.code = cc) {own ref C : String} {T : u_T} {N ci index : Nat} {Ts : List Cond} (hts : ∀ w ∈ Ts, w.before args s = true) (hin : ∀ w ∈ u_ws C T N, w ∈ Ts) (ty0 : Nat → FieldType) (hty : ∀ k, k < N → parseFieldDescriptor (T k).2.2.1 = some (ty0 k)) (hnm : ∀ a, a < N → ∀ b, b < N → a ≠ b → (T a).2.1 ≠ (T b).2.1) (hown : s.vm.findClass own = some m.cls) (hK : va_K D vwCl tys s) (hH : He D b n E H) (hS0 : va_S (fun q => b ≤ q) H0 H locs) {j : Nat} (hj : j < n) {fs : List Value} (he : E j = .inr (ci, fs)) (hc : vwCl[ci]? = some (C, T, N)) (k : Nat) (hk : k < N) (hlink : Cond.fieldLink own index ref (T k).2.1 (T k).2.2.1 ∈ Ts) (href : (T k).1 = ref) (hfin : (T k).2.2.2 = false) {v : Value} (hn : narrow (ty0 k) v = v) (hfit : fits (ty0 k) v = true) (hl : k < fs.length)
    (hdg : decode cc pc = .ok (.putfield index, 3)) (kk : ∀ (H1 : Heap) (locs1 : List Loc), He D b n (eU E j (.inr (ci, fs.set k v))) H1 → va_S (fun q => b ≤ q) H0 H1 locs1 → W p l e R s m args below meth c H1 locs1 cells slots Q (F0 m (pc + 3) ls rest)) : W p l e R s m args below meth c H locs cells slots Q (F0 m pc ls (v :: .ref (b + j) :: rest)) := by
  have hap := va_apart (own := own) hts hin ty0 hty hnm hK hc
  obtain ⟨r, h1, cell, q1, q2, q3, q4⟩ := hH.at hj he
  have hr : r = (C, T, N) := Option.some.inj (h1.symm.trans hc)
  subst hr
  obtain ⟨hS, hfc, kC, hkC, hkind⟩ := hK.1 ci _ hc
  obtain ⟨cf, kf, fi, f, hi, hsl⟩ := hS k hk
  have hlay := hts _ (hin _ (u_in_lay hk))
  unfold u_lay at hlay
  rw [if_neg (by rw [hfin]; decide)] at hlay
  have hst := (u_facts hfc hkC (u_lays hts hin hk) hi).1
  have h6 := u_store hfc hkC hkind hlay hi (hty k hk) hn hfit
  refine W.putK hexec hb (f := f) ⟨hown, hts _ hlink, ⟨_, _, _, by subst href; exact hi⟩, hst⟩ (by rw [q2]; exact h6) q1 q3 (by rw [hsl]; exact k2_hasslot (q4 k hk)) rfl rfl hdg fun H' e1 e2 e3 => ?_
  rw [hsl] at e1 ⊢
  exact kk H' _ (hH.put ⟨_, hc, t_OB.to (V := updV (vp_V fs) k v) ⟨_, e1, q2, q3, t_set q4 hap hk v⟩ (fun j _ => vp_updV_set hl v j)⟩ e2 e3) (vS_put hS0 e2 e3)
/-- putfield of a final field, in its class's constructor -/
theorem e_putF (hexec : p.tables.exec = Jvm.exec) (hb : c.code = cc) {own ref C : String} {T : u_T} {N ci index : Nat} {Ts : List Cond} (hts : ∀ w ∈ Ts, w.before args s = true) (hin : ∀ w ∈ u_ws C T N, w ∈ Ts) (ty0 : Nat → FieldType) (hty : ∀ k, k < N → parseFieldDescriptor (T k).2.2.1 = some (ty0 k)) (hnm : ∀ a, a < N → ∀ b, b < N → a ≠ b → (T a).2.1 ≠ (T b).2.1) (hown : s.vm.findClass own = some m.cls) (hK : va_K D vwCl tys s) (hH : He D b n E H) (hS0 : va_S (fun q => b ≤ q) H0 H locs) {j : Nat} (hj : j < n) {fs : List Value} (he : E j = .inr (ci, fs)) (hc : vwCl[ci]? = some (C, T, N)) (k : Nat) (hk : k < N) (hlink : Cond.fieldLink own index ref (T k).2.1 (T k).2.2.1 ∈ Ts) (href : (T k).1 = ref) (hfin : (T k).2.2.2 = true) (hin2 : meth.name = "<init>") (hdecl : (T k).1 = own) {v : Value} (hn : narrow (ty0 k) v = v) (hfit : fits (ty0 k) v = true) (hl : k < fs.length)
    (hdg : decode cc pc = .ok (.putfield index, 3)) (kk : ∀ (H1 : Heap) (locs1 : List Loc), He D b n (eU E j (.inr (ci, fs.set k v))) H1 → va_S (fun q => b ≤ q) H0 H1 locs1 → W p l e R s m args below meth c H1 locs1 cells slots Q (F0 m (pc + 3) ls rest)) : W p l e R s m args below meth c H locs cells slots Q (F0 m pc ls (v :: .ref (b + j) :: rest)) := by
  have hap := va_apart (own := own) hts hin ty0 hty hnm hK hc
  obtain ⟨r, h1, cell, q1, q2, q3, q4⟩ := hH.at hj he
  have hr : r = (C, T, N) := Option.some.inj (h1.symm.trans hc)
  subst hr
  obtain ⟨hS, hfc, kC, hkC, hkind⟩ := hK.1 ci _ hc
  obtain ⟨cf, kf, fi, f, hi, hsl⟩ := hS k hk
  have hlay := hts _ (hin _ (u_in_lay hk))
  unfold u_lay at hlay
  rw [if_pos hfin] at hlay
  have hst := (u_facts hfc hkC (u_lays hts hin hk) hi).1
  have hcf : m.cls = cf := by
    obtain ⟨_, _, c', _, _, _, -, -, hf', -, -, -, hown2, -⟩ := Cond.laysFinal_spec hlay
    have e1 : c' = cf := by have := hi.symm.trans hf'; simp at this; exact this.1.symm
    rw [hdecl] at hown2
    rw [← e1]; exact Option.some.inj (hown.symm.trans hown2)
  have h6 := u_fits hfc hkC hkind (Or.inr hlay) hi (hty k hk) hn hfit
  refine W.putFinK hexec hb hown (hts _ hlink) (by subst href; exact hi) hst hcf hin2 (by rw [q2]; exact h6) q1 q3 (by rw [hsl]; exact k2_hasslot (q4 k hk)) rfl rfl hdg fun H' e1 e2 e3 => ?_
  rw [hsl] at e1 ⊢
  exact kk H' _ (hH.put ⟨_, hc, t_OB.to (V := updV (vp_V fs) k v) ⟨_, e1, q2, q3, t_set q4 hap hk v⟩ (fun j _ => vp_updV_set hl v j)⟩ e2 e3) (vS_put hS0 e2 e3)
/-- iaload, iastore -/
theorem e_iald (hexec : p.tables.exec = Jvm.exec) (hb : c.code = cc) (hK : va_K D vwCl tys s) (hH : He D b n E H) {j : Nat} (hj : j < n) (t0 : Nat) {cA : ClassId} {N : Nat} {f : Nat → Int32} (he : E j = .inl (cA, N, .inl f)) (ht : tys[t0]? = some (cA, .int)) {i : Int32} (hin : vp_in i N) (hdg : decode cc pc = .ok (.iaload, 1))
    (kk : W p l e R s m args below meth c H locs cells slots Q (F0 m (pc + 1) ls (.int (f i.toNatClampNeg) :: rest))) : W p l e R s m args below meth c H locs cells slots Q (F0 m pc ls (.int i :: .ref (b + j) :: rest)) :=
  va_iald hexec hb hK (hH.P hj he) 0 t0 rfl ht hin hdg kk
theorem e_iast (hexec : p.tables.exec = Jvm.exec) (hb : c.code = cc) (hK : va_K D vwCl tys s) (hH : He D b n E H) (hS0 : va_S (fun q => b ≤ q) H0 H locs) {j : Nat} (hj : j < n) (t0 : Nat) {cA : ClassId} {N : Nat} {f : Nat → Int32} (he : E j = .inl (cA, N, .inl f)) (ht : tys[t0]? = some (cA, .int)) {i x : Int32} (hin : vp_in i N) (hdg : decode cc pc = .ok (.iastore, 1))
    (kk : ∀ (H1 : Heap) (locs1 : List Loc), He D b n (eU E j (.inl (cA, N, .inl (upd f i.toNatClampNeg x)))) H1 → va_S (fun q => b ≤ q) H0 H1 locs1 → W p l e R s m args below meth c H1 locs1 cells slots Q (F0 m (pc + 1) ls rest)) : W p l e R s m args below meth c H locs cells slots Q (F0 m pc ls (.int x :: .int i :: .ref (b + j) :: rest)) := by
  refine W.iast hexec hb (hH.at hj he) ((hK.2 t0 _ ht).1 N (fun j => .int (f j))) (fun q => by cases q) (by show ¬ (i < 0 ∨ (arrV _ _ _).slots.size ≤ _); rw [arrV_size]; exact hin) rfl rfl hdg fun H1 e z oq => ?_
  refine kk H1 _ (hH.put ?_ z oq) (vS_put hS0 z oq)
  show H1[b + j]? = some (vp_cell _ _)
  rw [e]
  rw [vp_cell_i, vp_cell_i, arrV_store]
  congr 2
  funext q
  by_cases hq : q = i.toNatClampNeg
  · subst hq
    simp [updV, upd]
  · simp [updV, upd, hq]
/-- aaload, aastore -/
theorem e_aald (hexec : p.tables.exec = Jvm.exec) (hb : c.code = cc) (hK : va_K D vwCl tys s) (hH : He D b n E H) {j : Nat} (hj : j < n) (t0 : Nat) {cA : ClassId} {C : String} {N : Nat} {f : Nat → Option Nat} (he : E j = .inl (cA, N, .inr (.inr (.inr (.inr f))))) (ht : tys[t0]? = some (cA, .object C)) {i : Int32} (hin : vp_in i N) (hdg : decode cc pc = .ok (.aaload, 1))
    (kk : W p l e R s m args below meth c H locs cells slots Q (F0 m (pc + 1) ls (va_rf (f i.toNatClampNeg) :: rest))) : W p l e R s m args below meth c H locs cells slots Q (F0 m pc ls (.int i :: .ref (b + j) :: rest)) :=
  va_aldq hexec hb hK (hH.P hj he) 0 t0 rfl ht hin hdg kk
theorem e_aast (hexec : p.tables.exec = Jvm.exec) (hb : c.code = cc) (hK : va_K D vwCl tys s) (hH : He D b n E H) (hS0 : va_S (fun q => b ≤ q) H0 H locs) {j : Nat} (hj : j < n) (t0 : Nat) {cA : ClassId} {r : vw_C} {N : Nat} {f : Nat → Option Nat} (he : E j = .inl (cA, N, .inr (.inr (.inr (.inr f))))) (ht : tys[t0]? = some (cA, .object r.1)) {v ci : Nat} {vs : List Value} (hv : v < n) (hev : E v = .inr (ci, vs)) (hc : vwCl[ci]? = some r) {i : Int32} (hin : vp_in i N) (hdg : decode cc pc = .ok (.aastore, 1))
    (kk : ∀ (H1 : Heap) (locs1 : List Loc), He D b n (eU E j (.inl (cA, N, .inr (.inr (.inr (.inr (va_up f i.toNatClampNeg (some (b + v)))))))) ) H1 → va_S (fun q => b ≤ q) H0 H1 locs1 → W p l e R s m args below meth c H1 locs1 cells slots Q (F0 m (pc + 1) ls rest)) : W p l e R s m args below meth c H locs cells slots Q (F0 m pc ls (.ref (b + v) :: .int i :: .ref (b + j) :: rest)) := by
  have hlt : i.toNatClampNeg < N := Nat.not_le.mp fun q => hin (Or.inr q)
  have h0 : ¬ i < 0 := fun q => hin (Or.inl q)
  obtain ⟨r', hr', cellV, g1, g2, g3, -⟩ := hH.at hv hev
  have hcls := (hK.1 ci r hc).2
  obtain ⟨kA, comp, k1, k2, k3, -⟩ := (hK.2 t0 _ ht).2
  have hcomp : comp = D.1 ci := Option.some.inj (k3.symm.trans hcls.1)
  subst hcomp
  obtain ⟨kC, hkC, -⟩ := hcls.2
  refine W.aast hexec hb (hH.at hj he) (fun q h => by cases h) (fun h => by cases h) k1 k2 rfl hkC ⟨h0, by show _ < (arrV _ _ _).slots.size; rw [arrV_size]; exact hlt⟩ g1 (fun q h => by rw [g3] at h; cases h) (by rw [g2]; exact hkC) (by rw [g2]; exact va_assign hcls) rfl rfl hdg fun H1 e z oq => ?_
  refine kk H1 _ (hH.put ?_ z oq) (vS_put hS0 z oq)
  show H1[b + j]? = some (vp_cell _ _)
  rw [e]
  rw [vp_cell_q, vp_cell_q, arrV_store]
  congr 2
  funext q
  by_cases hq : q = i.toNatClampNeg
  · subst hq
    simp [updV, va_up, va_rf]
  · simp [updV, va_up, hq]
theorem e_aastN (hexec : p.tables.exec = Jvm.exec) (hb : c.code = cc) (hK : va_K D vwCl tys s) (hH : He D b n E H) (hS0 : va_S (fun q => b ≤ q) H0 H locs) {j : Nat} (hj : j < n) (t0 : Nat) {cA : ClassId} {C : String} {N : Nat} {f : Nat → Option Nat} (he : E j = .inl (cA, N, .inr (.inr (.inr (.inr f))))) (ht : tys[t0]? = some (cA, .object C)) {i : Int32} (hin : vp_in i N) (hdg : decode cc pc = .ok (.aastore, 1))
    (kk : ∀ (H1 : Heap) (locs1 : List Loc), He D b n (eU E j (.inl (cA, N, .inr (.inr (.inr (.inr (va_up f i.toNatClampNeg none))))))) H1 → va_S (fun q => b ≤ q) H0 H1 locs1 → W p l e R s m args below meth c H1 locs1 cells slots Q (F0 m (pc + 1) ls rest)) : W p l e R s m args below meth c H locs cells slots Q (F0 m pc ls (.null :: .int i :: .ref (b + j) :: rest)) := by
  refine va_WaastN (C := C) hexec hb (hH.at hj he) ((hK.2 t0 _ ht).1 N (fun j => va_rf (f j))) (fun h => by cases h) (by show ¬ (i < 0 ∨ (arrV _ _ _).slots.size ≤ _); rw [arrV_size]; exact hin) rfl rfl hdg fun H1 e z oq => ?_
  refine kk H1 _ (hH.put ?_ z oq) (vS_put hS0 z oq)
  show H1[b + j]? = some (vp_cell _ _)
  rw [e]
  rw [vp_cell_q, vp_cell_q, arrV_store]
  congr 2
  funext q
  by_cases hq : q = i.toNatClampNeg
  · subst hq
    simp [updV, va_up, va_rf]
  · simp [updV, va_up, hq]
/-- new, newarray of ints, anewarray -/
theorem e_new (hexec : p.tables.exec = Jvm.exec) (hb : c.code = cc) {own C : String} {T : u_T} {N ci index : Nat} {Ts : List Cond} (hts : ∀ w ∈ Ts, w.before args s = true) (hin : ∀ w ∈ u_ws C T N, w ∈ Ts) (ty : Nat → FieldType) (hty : ∀ k, k < N → parseFieldDescriptor (T k).2.2.1 = some (ty k)) (hown : s.vm.findClass own = some m.cls) (hcl : Cond.classLink own index C ∈ Ts) (hinst : Cond.instantiable C N ∈ Ts) (hini : Cond.initialized C ∈ Ts)
    (hK : va_K D vwCl tys s) (hH : He D b n E H) (hS0 : va_S (fun q => b ≤ q) H0 H locs) (hc : vwCl[ci]? = some (C, T, N)) {fs : List Value} (hfs : ∀ j, j < N → defaultValue (ty j) = vp_V fs j) (hcells : cells + 1 ≤ R.cells) (hslots : slots + N ≤ R.slots) (hdg : decode cc pc = .ok (.new index, 3))
    (kk : ∀ (H1 : Heap), He D b (n + 1) (eU E n (.inr (ci, fs))) H1 → va_S (fun q => b ≤ q) H0 H1 locs →
      W p l e R s m args below meth c H1 locs (cells + 1) (slots + N) Q (F0 m (pc + 3) ls (.ref (b + n) :: rest))) : W p l e R s m args below meth c H locs cells slots Q (F0 m pc ls rest) := by
  have hKn := hK.1 ci _ hc
  refine W.newcK hexec hb hown (hts _ hcl) (hts _ hinst) (hts _ hini) rfl hdg hcells hslots hKn.2.1 hH.1 fun H1 kC hkC e1 z1 o1 => ?_
  exact kk H1 (hH.new ⟨_, hc, (u_born ty hts hin hKn hkC e1 hty).to hfs⟩ z1 o1) (vS_new hS0 hH.1 z1 o1)
theorem e_newi (hexec : p.tables.exec = Jvm.exec) (hb : c.code = cc) {Ts : List Cond} (hts : ∀ w ∈ Ts, w.before args s = true) (harr : Cond.arrayClass .int ∈ Ts) (hK : va_K D vwCl tys s) (hH : He D b n E H) (hS0 : va_S (fun q => b ≤ q) H0 H locs) (t0 : Nat) {cA : ClassId} (ht : tys[t0]? = some (cA, .int)) {x : Int32} (N : Nat) (hn : ¬ x < 0) (hN : x.toNatClampNeg = N) (hbytes : N * 4 ≤ 536870912) (hcells : cells + 1 ≤ R.cells) (hslots : slots + N ≤ R.slots) (hdg : decode cc pc = .ok (.newarray .int, 2))
    (kk : ∀ (H1 : Heap), He D b (n + 1) (eU E n (.inl (cA, N, .inl (fun _ => 0)))) H1 → va_S (fun q => b ≤ q) H0 H1 locs →
      W p l e R s m args below meth c H1 locs (cells + 1) (slots + N) Q (F0 m (pc + 2) ls (.ref (b + n) :: rest))) : W p l e R s m args below meth c H locs cells slots Q (F0 m pc ls (.int x :: rest)) := by
  refine va_newaK (atype := .int) hexec hb (hts _ harr) rfl hdg rfl hn hN hbytes hcells hslots hH.1 fun H1 cB e1 z1 o1 hAr hNm => ?_
  have hcA : s.vm.findClass ("[" ++ FieldType.int.toString) = some cA := (hK.2 t0 _ ht).2
  have hcB : cB = cA := Option.some.inj (hNm.symm.trans hcA)
  subst hcB
  exact kk H1 (hH.new (by show H1[b + n]? = some (vp_cell _ _); rw [vp_cell_i]; exact e1) z1 o1) (vS_new hS0 hH.1 z1 o1)
theorem e_newq (hexec : p.tables.exec = Jvm.exec) (hb : c.code = cc) {own C : String} {index : Nat} {Ts : List Cond} (hts : ∀ w ∈ Ts, w.before args s = true) (hown : s.vm.findClass own = some m.cls) (hcl : Cond.classLink own index C ∈ Ts) (hover : va_AO C s) (hK : va_K D vwCl tys s) (hH : He D b n E H) (hS0 : va_S (fun q => b ≤ q) H0 H locs) (t0 : Nat) {cA : ClassId} (ht : tys[t0]? = some (cA, .object C)) {x : Int32} (N : Nat) (hn : ¬ x < 0) (hN : x.toNatClampNeg = N) (hbytes : N * 4 ≤ 536870912) (hcells : cells + 1 ≤ R.cells) (hslots : slots + N ≤ R.slots) (hdg : decode cc pc = .ok (.anewarray index, 3))
    (kk : ∀ (H1 : Heap), He D b (n + 1) (eU E n (.inl (cA, N, .inr (.inr (.inr (.inr (fun _ => none))))))) H1 → va_S (fun q => b ≤ q) H0 H1 locs →
      W p l e R s m args below meth c H1 locs (cells + 1) (slots + N) Q (F0 m (pc + 3) ls (.ref (b + n) :: rest))) : W p l e R s m args below meth c H locs cells slots Q (F0 m pc ls (.int x :: rest)) := by
  subst hN
  refine W.anew hexec hb hown (hts _ hcl) (va_AO.use hover) rfl hdg rfl hn hbytes hcells hslots fun cB kA comp f1 f2 f3 f4 => ?_
  obtain ⟨kA', comp', g1, g2, g3, g4⟩ := (hK.2 t0 _ ht).2
  have hcB : cB = cA := Option.some.inj (f1.symm.trans g4)
  subst hcB
  generalize hH1 : H.push ({ cls := cB, slots := Array.replicate x.toNatClampNeg .null, vm := .none } : Cell) = H1
  have z1 : H1.size = b + n + 1 := by rw [← hH1, Array.size_push, hH.1]
  have e1 : H1[b + n]? = some (arrV cB x.toNatClampNeg (fun _ => .null)) := by rw [← hH1, ← hH.1, Array.getElem?_push_size, ← arrV_new]
  have o1 : ∀ q : Nat, q < b + n → H1[q]? = H[q]? := fun q hq => by rw [← hH1, Array.getElem?_push, if_neg (by rw [hH.1]; exact Nat.ne_of_lt hq)]
  rw [hH.1]
  exact kk H1 (hH.new (by show H1[b + n]? = some (vp_cell _ _); rw [vp_cell_q]; exact e1) z1 o1) (vS_new hS0 hH.1 z1 o1)
end MA
end
section
/-! CONTRACTS. A method's start is a world, its end a world and an answer. -/
def Pe (D : va_G) (tys : List (ClassId × FieldType)) (b n : Nat) (E : Nat → va_E) (av : List Value) : Array Value → State → Prop := va_Pc av (fun U => He D b n E U.heap ∧ va_K D vwCl tys U)
def Be (D : va_G) (tys : List (ClassId × FieldType)) (b n : Nat) (E : Nat → va_E) (t : State) : Prop := He D b n E t.heap ∧ va_K D vwCl tys t
def Qi (D : va_G) (tys : List (ClassId × FieldType)) (b n : Nat) (E : Nat → va_E) (r : Int32) : Array Value → State → Outcome → State → Prop := va_Qi (fun x (_ : Unit) => x = r) (fun _ t => Be D tys b n E t) (fun q => b ≤ q)
def Ql (D : va_G) (tys : List (ClassId × FieldType)) (b n : Nat) (E : Nat → va_E) (r : Int64) : Array Value → State → Outcome → State → Prop := va_Ql (fun x (_ : Unit) => x = r) (fun _ t => Be D tys b n E t) (fun q => b ≤ q)
def Qv (D : va_G) (tys : List (ClassId × FieldType)) (b n : Nat) (E : Nat → va_E) : Array Value → State → Outcome → State → Prop := va_Qv (fun (_ : Unit) => True) (fun _ t => Be D tys b n E t) (fun q => b ≤ q)
def Qq (D : va_G) (tys : List (ClassId × FieldType)) (b n : Nat) (E : Nat → va_E) (r : Option Nat) : Array Value → State → Outcome → State → Prop := va_Qq (fun x (_ : Unit) => x = r) (fun _ t => Be D tys b n E t) (fun q => b ≤ q)
theorem Pe_blind {D : va_G} {tys : List (ClassId × FieldType)} {b n : Nat} {E : Nat → va_E} {av : List Value} : FrameBlind (Pe D tys b n E av) := fun a U g mk h => by
  obtain ⟨q0, qP, qK⟩ := h
  exact ⟨q0, qP, va_K.moved (u := U) (U := U.calling g mk a) (Vm.Alike.refl U.vm) qK⟩
theorem e_met {l : Launch} {D : va_G} {tys : List (ClassId × FieldType)} {b n : Nat} {E : Nat → va_E} {y : MethodName} {cc : ByteArray} {maxL : Nat} {ret : Option FieldType} {ws ws' : List Cond} {rm : Room} {av : List Value} {Qc : Array Value → State → Outcome → State → Prop} {mc ms : Nat} {free : Addr → Prop} (hy : plainName y.cls = true) (hw : ws = Cond.code y cc maxL ret :: ws') (hav : (lg_sl av).length ≤ maxL)
    (body : ∀ (p : Program) (e : Env) (s : State) (m : MethodId) (below : List Frame) (meth : Method) (c : Code) (ls : Array Slot), p.tables.exec = Jvm.exec → c.code = cc → meth.sig.returnType = ret → c.maxLocals = maxL → (∀ w ∈ ws, w.before av.toArray s = true) → s.vm.findClass y.cls = some m.cls → meth.locks = false → meth.name = y.name → He D b n E s.heap → va_K D vwCl tys s → lv_has ls maxL (lv_args 0 av) → va_S (fun q => b ≤ q) s.heap s.heap [] →
      W p l e rm s m av.toArray below meth c s.heap [] 0 0 (MQ below Qc av.toArray s mc ms free) (F0 m 0 ls [])) : Met l y ws rm (Pe D tys b n E av) Qc mc ms free := by
  refine Met.ofW (cc := cc) (maxL := maxL) (ret := ret) hy hw ?_
  intro p e s m args below meth c s₁ B hml hv
  obtain ⟨rfl, hH, hK⟩ := hv
  have hl := lv_entry av (n := maxL) hav
  rw [lg_entry_eq]
  exact body p e s m below meth c _ B.exec B.bytes B.returns hml (atoms_spec B.pre) (findClass_of_methodNamed B.named) B.notSynchronized (name_of_methodNamed B.named B.method).1 hH hK hl va_S.rf
section MB
variable {p : Program} {l : Launch} {e : Env} {R : Room} {s : State} {m : MethodId} {args : Array Value} {below : List Frame} {meth : Method} {c : Code} {H : Heap} {locs : List Loc} {cells slots : Nat} {Q : State → Prop}
variable {cc : ByteArray} {pc : Nat} {ls : Array Slot} {rest st0 : List Value} {D : va_G} {tys : List (ClassId × FieldType)} {H0 : Heap} {b n n' : Nat} {E E' E1 : Nat → va_E}
variable {y : MethodName} {bytes : ByteArray} {maxL nL mc ms nA index : Nat} {ret : Option FieldType} {ws : List Cond} {rm : Room} {Qc : Array Value → State → Outcome → State → Prop} {free : Addr → Prop} {Ts : List Cond} {own C : String} {As : List Value} {a : Array Value}
theorem e_runV (S : CallFix p m c cc nL s args Ts own) {j : Nat} (hM : Met l y ws rm (Pe D tys b n E (.ref (b + j) :: As)) Qc mc ms free) (cw : CallW R s args own C index y bytes maxL ret ws rm mc ms nA) (hK : va_K D vwCl tys s) (hH : He D b n E H) (hj : j < n) {ci : Nat} {fs : List Value} {q : vw_C} (he : E j = .inr (ci, fs)) (hc : vwCl[ci]? = some q) (hC : q.1 = C) (hn : As.length = nA) (hsize : ls.size = nL) (hst : st0 = As.reverse ++ .ref (b + j) :: rest) (hW : (rest.map fun v => v.category).sum ≤ 8) (hdg : decode cc pc = .ok (.invokevirtual index, 3)) (hf : cells + mc ≤ R.cells ∧ slots + ms ≤ R.slots) :
    va_Run p l e R s m args below meth c H locs cells slots mc ms (F0 m pc ls st0) rest (Qc (Value.ref (b + j) :: As).toArray) free := by
  subst hC
  exact va_runV (C := q.1) S hM cw ⟨Pe_blind, va_recv hK (hH.P hj he) (ci := ci) (q0 := 0) hc rfl, fun U hU hW => ⟨rfl, by rw [hU]; exact hH, va_K.moved hW.alike hK⟩⟩ rfl hn hsize hst (lv_room hW) hdg hf
theorem e_runS (S : CallFix p m c cc nL s args Ts own) (hM : Met l y ws rm (Pe D tys b n E As) Qc mc ms free) (cw : CallB R s args own index y bytes maxL ret ws rm mc ms nA ∧ (Cond.static y).before args s = true) (hK : va_K D vwCl tys s) (hH : He D b n E H) (hn : As.length = nA) (hsize : ls.size = nL) (hst : st0 = As.reverse ++ rest) (hW : (rest.map fun v => v.category).sum ≤ 8) (hdg : decode cc pc = .ok (.invokestatic index, 3)) (hf : cells + mc ≤ R.cells ∧ slots + ms ≤ R.slots) :
    va_Run p l e R s m args below meth c H locs cells slots mc ms (F0 m pc ls st0) rest (Qc As.toArray) free :=
  va_runS S hM cw ⟨Pe_blind, fun U hU hW => ⟨rfl, by rw [hU]; exact hH, va_K.moved hW.alike hK⟩⟩ rfl hn hsize hst (lv_room hW) hdg hf
theorem e_runI (S : CallFix p m c cc nL s args Ts own) {j : Nat} (hM : Met l y ws rm (Pe D tys b n E (.ref (b + j) :: As)) Qc mc ms free) (cw : CallB R s args own index y bytes maxL none ws rm mc ms nA ∧ y.name = "<init>" ∧ (Cond.instanceMethod y).before args s = true) (hK : va_K D vwCl tys s) (hH : He D b n E H) (hn : As.length = nA) (hsize : ls.size = nL) (hst : st0 = As.reverse ++ .ref (b + j) :: rest) (hW : (rest.map fun v => v.category).sum ≤ 8) (hdg : decode cc pc = .ok (.invokespecial index, 3)) (hf : cells + mc ≤ R.cells ∧ slots + ms ≤ R.slots) :
    va_Run p l e R s m args below meth c H locs cells slots mc ms (F0 m pc ls st0) rest (Qc (Value.ref (b + j) :: As).toArray) free :=
  va_runI S hM cw ⟨Pe_blind, fun U hU hW => ⟨rfl, by rw [hU]; exact hH, va_K.moved hW.alike hK⟩⟩ rfl hn hsize hst (lv_room hW) hdg hf
theorem e_ci {r : Int32} (hr : va_Run p l e R s m args below meth c H locs cells slots mc ms (F0 m pc ls st0) rest (Qi D tys b n' E' r a) (fun q => b ≤ q)) (hS : va_S (fun q => b ≤ q) H0 H locs)
    (kk : ∀ (H1 : Heap) (locs1 : List Loc), He D b n' E' H1 → va_S (fun q => b ≤ q) H0 H1 locs1 → W p l e R s m args below meth c H1 locs1 (cells + mc) (slots + ms) Q (F0 m (pc + 3) ls (.int r :: rest))) : W p l e R s m args below meth c H locs cells slots Q (F0 m pc ls st0) :=
  va_calli hr hS (fun _ _ h => h) (fun _ h => h) (fun r' u t H1 locs1 ht hvm hw hB hz hk hS1 => by
    have hw : r' = r := hw
    subst hw
    have hB : Be D tys b n' E' t := hB
    exact kk H1 locs1 (ht ▸ hB.1) hS1)
theorem e_cl {r : Int64} (hr : va_Run p l e R s m args below meth c H locs cells slots mc ms (F0 m pc ls st0) rest (Ql D tys b n' E' r a) (fun q => b ≤ q)) (hS : va_S (fun q => b ≤ q) H0 H locs)
    (kk : ∀ (H1 : Heap) (locs1 : List Loc), He D b n' E' H1 → va_S (fun q => b ≤ q) H0 H1 locs1 → W p l e R s m args below meth c H1 locs1 (cells + mc) (slots + ms) Q (F0 m (pc + 3) ls (.long r :: rest))) : W p l e R s m args below meth c H locs cells slots Q (F0 m pc ls st0) :=
  va_calll hr hS (fun _ _ h => h) (fun _ h => h) (fun r' u t H1 locs1 ht hvm hw hB hz hk hS1 => by
    have hw : r' = r := hw
    subst hw
    have hB : Be D tys b n' E' t := hB
    exact kk H1 locs1 (ht ▸ hB.1) hS1)
theorem e_cq {r : Option Nat} (hr : va_Run p l e R s m args below meth c H locs cells slots mc ms (F0 m pc ls st0) rest (Qq D tys b n' E' r a) (fun q => b ≤ q)) (hS : va_S (fun q => b ≤ q) H0 H locs)
    (kk : ∀ (H1 : Heap) (locs1 : List Loc), He D b n' E' H1 → va_S (fun q => b ≤ q) H0 H1 locs1 → W p l e R s m args below meth c H1 locs1 (cells + mc) (slots + ms) Q (F0 m (pc + 3) ls (va_rf r :: rest))) : W p l e R s m args below meth c H locs cells slots Q (F0 m pc ls st0) :=
  va_callq hr hS (fun _ _ h => h) (fun _ h => h) (fun r' u t H1 locs1 ht hvm hw hB hz hk hS1 => by
    have hw : r' = r := hw
    subst hw
    have hB : Be D tys b n' E' t := hB
    exact kk H1 locs1 (ht ▸ hB.1) hS1)
theorem e_cv (hr : va_Run p l e R s m args below meth c H locs cells slots mc ms (F0 m pc ls st0) rest (Qv D tys b n' E' a) (fun q => b ≤ q)) (hS : va_S (fun q => b ≤ q) H0 H locs)
    (kk : ∀ (H1 : Heap) (locs1 : List Loc), He D b n' E' H1 → va_S (fun q => b ≤ q) H0 H1 locs1 → W p l e R s m args below meth c H1 locs1 (cells + mc) (slots + ms) Q (F0 m (pc + 3) ls rest)) : W p l e R s m args below meth c H locs cells slots Q (F0 m pc ls st0) :=
  va_callv hr hS (fun _ _ h => h) (fun _ h => h) (fun u t H1 locs1 ht hvm hw hB hz hk hS1 => by
    have hB : Be D tys b n' E' t := hB
    exact kk H1 locs1 (ht ▸ hB.1) hS1)
/-- the ends -/
theorem e_iret {v r : Int32} (hexec : p.tables.exec = Jvm.exec) (hb : c.code = cc) (hr : meth.sig.returnType = some .int) (hlocks : meth.locks = false) (hK : va_K D vwCl tys s) (hH : He D b n E H) (hS : va_S (fun q => b ≤ q) s.heap H locs) (hdg : decode cc pc = .ok (.ireturn, 1)) (hv : v = r) (hE : E = E') :
    W p l e R s m args below meth c H locs cells slots (MQ below (Qi D tys b n E' r) args s cells slots (fun q => b ≤ q)) (F0 m pc ls [.int v]) := by
  subst hv; subst hE
  exact W.iret hexec hb hr (fun t ht hW => ⟨⟨v, (), rfl, rfl, by rw [ht]; exact hH, va_K.moved hW.alike hK⟩, hS.F ht⟩) hS.2.2 hdg hlocks
theorem e_zret {v r : Int32} {ty : FieldType} (hexec : p.tables.exec = Jvm.exec) (hb : c.code = cc) (hr : meth.sig.returnType = some ty) (hlocks : meth.locks = false) (hK : va_K D vwCl tys s) (hH : He D b n E H) (hS : va_S (fun q => b ≤ q) s.heap H locs) (hdg : decode cc pc = .ok (.ireturn, 1)) (hn : narrow ty (.int v) = .int v) (hv : v = r) (hE : E = E') :
    W p l e R s m args below meth c H locs cells slots (MQ below (Qi D tys b n E' r) args s cells slots (fun q => b ≤ q)) (F0 m pc ls [.int v]) := by
  subst hv; subst hE
  exact W.zret hexec hb hr hn (fun t ht hW => ⟨⟨v, (), rfl, rfl, by rw [ht]; exact hH, va_K.moved hW.alike hK⟩, hS.F ht⟩) hS.2.2 hdg hlocks
theorem e_lret {v r : Int64} (hexec : p.tables.exec = Jvm.exec) (hb : c.code = cc) (hr : meth.sig.returnType = some .long) (hlocks : meth.locks = false) (hK : va_K D vwCl tys s) (hH : He D b n E H) (hS : va_S (fun q => b ≤ q) s.heap H locs) (hdg : decode cc pc = .ok (.lreturn, 1)) (hv : v = r) (hE : E = E') :
    W p l e R s m args below meth c H locs cells slots (MQ below (Ql D tys b n E' r) args s cells slots (fun q => b ≤ q)) (F0 m pc ls [.long v]) := by
  subst hv; subst hE
  exact W.lret hexec hb hr (fun t ht hW => ⟨⟨v, (), rfl, rfl, by rw [ht]; exact hH, va_K.moved hW.alike hK⟩, hS.F ht⟩) hS.2.2 hdg hlocks
theorem e_vret (hexec : p.tables.exec = Jvm.exec) (hb : c.code = cc) (hr : meth.sig.returnType = none) (hlocks : meth.locks = false) (hK : va_K D vwCl tys s) (hH : He D b n E H) (hS : va_S (fun q => b ≤ q) s.heap H locs) (hdg : decode cc pc = .ok (.return_, 1)) (hE : E = E') :
    W p l e R s m args below meth c H locs cells slots (MQ below (Qv D tys b n E') args s cells slots (fun q => b ≤ q)) (F0 m pc ls []) := by
  subst hE
  exact W.vret hexec hb hr (fun t ht hW => ⟨⟨(), rfl, trivial, by rw [ht]; exact hH, va_K.moved hW.alike hK⟩, hS.F ht⟩) hS.2.2 hdg hlocks
theorem e_qret {v : Value} {r : Option Nat} {C' : String} (hexec : p.tables.exec = Jvm.exec) (hb : c.code = cc) (hr : meth.sig.returnType = some (.object C')) (hlocks : meth.locks = false) (hK : va_K D vwCl tys s) (hH : He D b n E H) (hS : va_S (fun q => b ≤ q) s.heap H locs) (hdg : decode cc pc = .ok (.areturn, 1)) (hv : v = va_rf r) (hE : E = E') :
    W p l e R s m args below meth c H locs cells slots (MQ below (Qq D tys b n E' r) args s cells slots (fun q => b ≤ q)) (F0 m pc ls [v]) := by
  subst hv; subst hE
  exact W.aret hexec hb hr (Or.inl ⟨_, rfl⟩) (va_rf_or r) (fun t ht hW => ⟨⟨r, (), rfl, rfl, by rw [ht]; exact hH, va_K.moved hW.alike hK⟩, hS.F ht⟩) hS.2.2 hdg hlocks
end MB
end
section
/-! THE LAYOUT. A state is what the variables hold: ints by (group, place in the group, slot), references likewise (which process). The groups:
 0 ProcessTurns, 1 Program, 2 ops, 3 operands, 4 processes, 5 Proc, 6 words, 7 channels, 8 Channel, 9 Row, 10 members, 11 Log, 12 parts;
 13 ProcessTurnsModel, 14 code, 15 state, 16 priority, 17 place, 18 cells, 19 rank, 20 until, 21 message, 22 channel, 23 log. -/
abbrev St : Type := (Nat → Nat → Nat → Int32) × (Nat → Nat → Nat → Option Nat)
def gI (σ : St) (g i k : Nat) : Int32 := σ.1 g i k
def gR (σ : St) (g i k : Nat) : Option Nat := σ.2 g i k
def sI (σ : St) (g i k : Nat) (v : Int32) : St := (fun g' i' k' => if g' = g ∧ i' = i ∧ k' = k then v else σ.1 g' i' k', σ.2)
def sR (σ : St) (g i k : Nat) (v : Option Nat) : St := (σ.1, fun g' i' k' => if g' = g ∧ i' = i ∧ k' = k then v else σ.2 g' i' k')
theorem gI_sI (σ : St) (g i k : Nat) (v : Int32) (g' i' k' : Nat) : gI (sI σ g i k v) g' i' k' = if g' = g ∧ i' = i ∧ k' = k then v else gI σ g' i' k' := rfl
theorem gR_sI (σ : St) (g i k : Nat) (v : Int32) (g' i' k' : Nat) : gR (sI σ g i k v) g' i' k' = gR σ g' i' k' := rfl
theorem gI_sR (σ : St) (g i k : Nat) (v : Option Nat) (g' i' k' : Nat) : gI (sR σ g i k v) g' i' k' = gI σ g' i' k' := rfl
theorem gR_sR (σ : St) (g i k : Nat) (v : Option Nat) (g' i' k' : Nat) : gR (sR σ g i k v) g' i' k' = if g' = g ∧ i' = i ∧ k' = k then v else gR σ g' i' k' := rfl
theorem gI_sI_f (σ : St) (g i k : Nat) (v : Int32) : gI (sI σ g i k v) g i = upd (gI σ g i) k v := by
  funext j
  simp [gI_sI, upd]
theorem gR_sR_f (σ : St) (g i k : Nat) (v : Option Nat) : gR (sR σ g i k v) g i = va_up (gR σ g i) k v := by
  funext j
  simp [gR_sR, va_up]
def xo (g i : Nat) : Nat := match g with
  | 5 => 5 + 2 * i
  | 6 => 6 + 2 * i
  | 7 => 21
  | 8 => 22 + i
  | 9 => 26 + 2 * i
  | 10 => 27 + 2 * i
  | 11 => 30
  | 12 => 31
  | g => if g < 5 then g else g + 19
def xn (g : Nat) : Nat := match g with
  | 5 => 8
  | 6 => 8
  | 8 => 4
  | 9 => 2
  | 10 => 2
  | g => if g < 24 then 1 else 0
def xg (j : Nat) : Nat := if j < 5 then j else if j < 21 then (if j % 2 = 1 then 5 else 6) else if j = 21 then 7 else if j < 26 then 8 else if j < 30 then (if j % 2 = 0 then 9 else 10) else if j = 30 then 11 else if j = 31 then 12 else j - 19
def xi (j : Nat) : Nat := if j < 5 then 0 else if j < 21 then (j - 5) / 2 else if j = 21 then 0 else if j < 26 then j - 22 else if j < 30 then (j - 26) / 2 else 0
theorem xo_ok0 : ∀ g, g < 24 → ∀ i, i < xn g → xg (xo g i) = g ∧ xi (xo g i) = i ∧ xo g i < 43 := by decide +kernel
theorem xo_back : ∀ j, j < 43 → xo (xg j) (xi j) = j ∧ xi j < xn (xg j) := by decide +kernel
theorem xn_lt {g i : Nat} (h : i < xn g) : g < 24 := by
  rcases Nat.lt_or_ge g 24 with q | q
  · exact q
  · have h0 : xn g = 0 := by
      unfold xn
      split <;> first | omega | (rw [if_neg (by omega)])
    omega
theorem xo_ok {g i : Nat} (h : i < xn g) : xg (xo g i) = g ∧ xi (xo g i) = i ∧ xo g i < 43 := xo_ok0 g (xn_lt h) i h
/-- a cell out of its variables f (ints), r (references) -/
def xeF (cs : Nat → ClassId) (b : Nat) (f : Nat → Int32) (r : Nat → Option Nat) (g i : Nat) : va_E := match g with
  | 0 => .inr (5, [.ref (b + xo 1 0), .ref (b + xo 4 0), .ref (b + xo 7 0), .ref (b + xo 9 0), .ref (b + xo 9 1), .ref (b + xo 11 0), va_rf ((r 6).map (fun p => b + xo 5 p)), .int (f 7)])
  | 1 => .inr (3, [.ref (b + xo 2 0), .ref (b + xo 3 0), .int (f 2)])
  | 2 => .inl (cs 0, 40, .inl f)
  | 3 => .inl (cs 0, 40, .inl f)
  | 4 => .inl (cs 1, 8, .inr (.inr (.inr (.inr (fun k => some (b + xo 5 k))))))
  | 5 => .inr (2, [.int (nI i), .ref (b + xo 6 i), .int (f 2), .int (f 3), .int (f 4), .int (f 5), .int (f 6), .int (f 7), .int (f 8), .int (f 9)])
  | 6 => .inl (cs 0, 4, .inl f)
  | 7 => .inl (cs 2, 4, .inr (.inr (.inr (.inr (fun k => some (b + xo 8 k))))))
  | 8 => .inr (0, [.int (nI i), va_rf ((r 1).map (fun p => b + xo 5 p)), .int (f 2), .int (f 3)])
  | 9 => .inr (4, [.ref (b + xo 10 i), .int (f 1)])
  | 10 => .inl (cs 1, 8, .inr (.inr (.inr (.inr (fun k => (r k).map (fun p => b + xo 5 p))))))
  | 11 => .inr (1, [.ref (b + xo 12 0), .int (f 1)])
  | 12 => .inl (cs 0, 80, .inl f)
  | 13 => .inr (6, [.ref (b + xo 14 0), .int (f 1), .ref (b + xo 15 0), .ref (b + xo 16 0), .ref (b + xo 17 0), .ref (b + xo 18 0), .ref (b + xo 19 0), .ref (b + xo 20 0), .ref (b + xo 21 0), .int (f 9), .int (f 10), .int (f 11), .int (f 12), .ref (b + xo 22 0), .int (f 14), .ref (b + xo 23 0)])
  | 14 => .inl (cs 0, 80, .inl f)
  | 18 => .inl (cs 0, 56, .inl f)
  | 22 => .inl (cs 0, 4, .inl f)
  | 23 => .inl (cs 0, 80, .inl f)
  | _ => .inl (cs 0, 8, .inl f)
def Ex (cs : Nat → ClassId) (b : Nat) (σ : St) (j : Nat) : va_E := xeF cs b (gI σ (xg j) (xi j)) (gR σ (xg j) (xi j)) (xg j) (xi j)
abbrev tyx (cs : Nat → ClassId) : List (ClassId × FieldType) := [(cs 0, .int), (cs 1, .object RX2), (cs 2, .object RX0)]
theorem Ex_at (cs : Nat → ClassId) (b : Nat) (σ : St) {g i : Nat} (h : i < xn g) : Ex cs b σ (xo g i) = xeF cs b (gI σ g i) (gR σ g i) g i := by
  obtain ⟨h1, h2, -⟩ := xo_ok h
  unfold Ex
  rw [h1, h2]
theorem Ex_put {D : va_G} {cs : Nat → ClassId} {b : Nat} {σ σ' : St} {g i : Nat} {x : va_E} {H : Heap} (h : i < xn g) (hu : ∀ g' i', ¬ (g' = g ∧ i' = i) → gI σ' g' i' = gI σ g' i' ∧ gR σ' g' i' = gR σ g' i') (hx : xeF cs b (gI σ' g i) (gR σ' g i) g i = x) (hH : He D b 43 (eU (Ex cs b σ) (xo g i) x) H) : He D b 43 (Ex cs b σ') H := by
  refine hH.to fun j hj => ?_
  by_cases hij : j = xo g i
  · subst hij
    rw [eU_s, Ex_at cs b σ' h, hx]
  · rw [eU_n hij]
    unfold Ex
    obtain ⟨e1, e2⟩ := hu (xg j) (xi j) (fun q => hij (by rw [← (xo_back j hj).1, q.1, q.2]))
    rw [e1, e2]
theorem sI_off {σ : St} {g i k : Nat} {v : Int32} (g' i' : Nat) (h : ¬ (g' = g ∧ i' = i)) : gI (sI σ g i k v) g' i' = gI σ g' i' ∧ gR (sI σ g i k v) g' i' = gR σ g' i' := by
  refine ⟨?_, rfl⟩
  funext q
  rw [gI_sI, if_neg (fun z => h ⟨z.1, z.2.1⟩)]
theorem sR_off {σ : St} {g i k : Nat} {v : Option Nat} (g' i' : Nat) (h : ¬ (g' = g ∧ i' = i)) : gI (sR σ g i k v) g' i' = gI σ g' i' ∧ gR (sR σ g i k v) g' i' = gR σ g' i' := by
  refine ⟨rfl, ?_⟩
  funext q
  rw [gR_sR, if_neg (fun z => h ⟨z.1, z.2.1⟩)]
section MT
variable {p : Program} {l : Launch} {e : Env} {R : Room} {s : State} {m : MethodId} {args : Array Value} {below : List Frame} {meth : Method} {c : Code} {H : Heap} {locs : List Loc} {cells slots : Nat} {Q : State → Prop}
variable {cc : ByteArray} {pc : Nat} {ls : Array Slot} {rest : List Value} {D : va_G} {cs : Nat → ClassId} {H0 : Heap} {b : Nat} {σ : St}
theorem x_get (hexec : p.tables.exec = Jvm.exec) (hb : c.code = cc) {own ref C : String} {T : u_T} {N ci index : Nat} {Ts : List Cond} (hts : ∀ w ∈ Ts, w.before args s = true) (hin : ∀ w ∈ u_ws C T N, w ∈ Ts) (hown : s.vm.findClass own = some m.cls) (hK : va_K D vwCl (tyx cs) s) (hH : He D b 43 (Ex cs b σ) H) (g i k : Nat) (hi : i < xn g) {fs : List Value} (he : xeF cs b (gI σ g i) (gR σ g i) g i = .inr (ci, fs)) (hc : vwCl[ci]? = some (C, T, N)) (hk : k < N) (hlink : Cond.fieldLink own index ref (T k).2.1 (T k).2.2.1 ∈ Ts) (href : (T k).1 = ref) {v : Value} (hv : fs[k]? = some v) (hdg : decode cc pc = .ok (.getfield index, 3))
    (kk : W p l e R s m args below meth c H locs cells slots Q (F0 m (pc + 3) ls (v :: rest))) : W p l e R s m args below meth c H locs cells slots Q (F0 m pc ls (.ref (b + xo g i) :: rest)) :=
  e_get hexec hb hts hin hown hK hH (xo_ok hi).2.2 ((Ex_at cs b σ hi).trans he) hc k hk hlink href hv hdg kk
theorem x_putI (hexec : p.tables.exec = Jvm.exec) (hb : c.code = cc) {own ref C : String} {T : u_T} {N ci index : Nat} {Ts : List Cond} (hts : ∀ w ∈ Ts, w.before args s = true) (hin : ∀ w ∈ u_ws C T N, w ∈ Ts) (ty0 : Nat → FieldType) (hty : ∀ k, k < N → parseFieldDescriptor (T k).2.2.1 = some (ty0 k)) (hnm : ∀ a, a < N → ∀ b, b < N → a ≠ b → (T a).2.1 ≠ (T b).2.1) (hown : s.vm.findClass own = some m.cls) (hK : va_K D vwCl (tyx cs) s) (hH : He D b 43 (Ex cs b σ) H) (hS0 : va_S (fun q => b ≤ q) H0 H locs) (g i k : Nat) (hi : i < xn g) {fs : List Value} (he : xeF cs b (gI σ g i) (gR σ g i) g i = .inr (ci, fs)) {v : Int32} (he' : xeF cs b (upd (gI σ g i) k v) (gR σ g i) g i = .inr (ci, fs.set k (.int v))) (hc : vwCl[ci]? = some (C, T, N)) (hk : k < N) (hlink : Cond.fieldLink own index ref (T k).2.1 (T k).2.2.1 ∈ Ts) (href : (T k).1 = ref) (hfin : (T k).2.2.2 = false) (hn : narrow (ty0 k) (.int v) = .int v) (hfit : fits (ty0 k) (.int v) = true) (hl : k < fs.length)
    (hdg : decode cc pc = .ok (.putfield index, 3)) (kk : ∀ (H1 : Heap) (locs1 : List Loc), He D b 43 (Ex cs b (sI σ g i k v)) H1 → va_S (fun q => b ≤ q) H0 H1 locs1 → W p l e R s m args below meth c H1 locs1 cells slots Q (F0 m (pc + 3) ls rest)) : W p l e R s m args below meth c H locs cells slots Q (F0 m pc ls (.int v :: .ref (b + xo g i) :: rest)) :=
  e_put hexec hb hts hin ty0 hty hnm hown hK hH hS0 (xo_ok hi).2.2 ((Ex_at cs b σ hi).trans he) hc k hk hlink href hfin hn hfit hl hdg (fun H1 locs1 hH1 hS1 => kk H1 locs1 (Ex_put hi sI_off (by rw [gI_sI_f]; exact he') hH1) hS1)
theorem x_putR (hexec : p.tables.exec = Jvm.exec) (hb : c.code = cc) {own ref C : String} {T : u_T} {N ci index : Nat} {Ts : List Cond} (hts : ∀ w ∈ Ts, w.before args s = true) (hin : ∀ w ∈ u_ws C T N, w ∈ Ts) (ty0 : Nat → FieldType) (hty : ∀ k, k < N → parseFieldDescriptor (T k).2.2.1 = some (ty0 k)) (hnm : ∀ a, a < N → ∀ b, b < N → a ≠ b → (T a).2.1 ≠ (T b).2.1) (hown : s.vm.findClass own = some m.cls) (hK : va_K D vwCl (tyx cs) s) (hH : He D b 43 (Ex cs b σ) H) (hS0 : va_S (fun q => b ≤ q) H0 H locs) (g i k : Nat) (hi : i < xn g) {fs : List Value} (he : xeF cs b (gI σ g i) (gR σ g i) g i = .inr (ci, fs)) (r : Option Nat) {v : Value} (hrv : va_rf (r.map (fun p => b + xo 5 p)) = v) (he' : xeF cs b (gI σ g i) (va_up (gR σ g i) k r) g i = .inr (ci, fs.set k (va_rf (r.map (fun p => b + xo 5 p))))) (hc : vwCl[ci]? = some (C, T, N)) (hk : k < N) (hlink : Cond.fieldLink own index ref (T k).2.1 (T k).2.2.1 ∈ Ts) (href : (T k).1 = ref) (hfin : (T k).2.2.2 = false) {C' : String} (hty0 : ty0 k = .object C') (hl : k < fs.length)
    (hdg : decode cc pc = .ok (.putfield index, 3)) (kk : ∀ (H1 : Heap) (locs1 : List Loc), He D b 43 (Ex cs b (sR σ g i k r)) H1 → va_S (fun q => b ≤ q) H0 H1 locs1 → W p l e R s m args below meth c H1 locs1 cells slots Q (F0 m (pc + 3) ls rest)) : W p l e R s m args below meth c H locs cells slots Q (F0 m pc ls (v :: .ref (b + xo g i) :: rest)) := by
  subst hrv
  refine e_put hexec hb hts hin ty0 hty hnm hown hK hH hS0 (xo_ok hi).2.2 ((Ex_at cs b σ hi).trans he) hc k hk hlink href hfin ?_ ?_ hl hdg (fun H1 locs1 hH1 hS1 => kk H1 locs1 (Ex_put hi sR_off (by rw [gR_sR_f]; exact he') hH1) hS1)
  · rw [hty0]; cases r <;> rfl
  · rw [hty0]; cases r <;> rfl
theorem x_iald (hexec : p.tables.exec = Jvm.exec) (hb : c.code = cc) (hK : va_K D vwCl (tyx cs) s) (hH : He D b 43 (Ex cs b σ) H) (g i N : Nat) (hi : i < xn g) (he : xeF cs b (gI σ g i) (gR σ g i) g i = .inl (cs 0, N, .inl (gI σ g i))) (j : Nat) {x : Int32} (hx : x = nI j) (hj : j < N) (hN : N < 1000) (hdg : decode cc pc = .ok (.iaload, 1))
    (kk : W p l e R s m args below meth c H locs cells slots Q (F0 m (pc + 1) ls (.int (gI σ g i j) :: rest))) : W p l e R s m args below meth c H locs cells slots Q (F0 m pc ls (.int x :: .ref (b + xo g i) :: rest)) := by
  subst hx
  refine e_iald hexec hb hK hH (xo_ok hi).2.2 0 ((Ex_at cs b σ hi).trans he) rfl (vp_in_nI hj (by omega)) hdg ?_
  rw [nI_clamp (show j < 2 ^ 31 by omega)]
  exact kk
theorem x_iast (hexec : p.tables.exec = Jvm.exec) (hb : c.code = cc) (hK : va_K D vwCl (tyx cs) s) (hH : He D b 43 (Ex cs b σ) H) (hS0 : va_S (fun q => b ≤ q) H0 H locs) (g i N : Nat) (hi : i < xn g) (he : ∀ (f : Nat → Int32) (r : Nat → Option Nat), xeF cs b f r g i = .inl (cs 0, N, .inl f)) (j : Nat) {x v : Int32} (hx : x = nI j) (hj : j < N) (hN : N < 1000) (hdg : decode cc pc = .ok (.iastore, 1))
    (kk : ∀ (H1 : Heap) (locs1 : List Loc), He D b 43 (Ex cs b (sI σ g i j v)) H1 → va_S (fun q => b ≤ q) H0 H1 locs1 → W p l e R s m args below meth c H1 locs1 cells slots Q (F0 m (pc + 1) ls rest)) : W p l e R s m args below meth c H locs cells slots Q (F0 m pc ls (.int v :: .int x :: .ref (b + xo g i) :: rest)) := by
  subst hx
  refine e_iast hexec hb hK hH hS0 (xo_ok hi).2.2 0 ((Ex_at cs b σ hi).trans (he _ _)) rfl (vp_in_nI hj (by omega)) hdg (fun H1 locs1 hH1 hS1 => kk H1 locs1 (Ex_put hi sI_off ?_ hH1) hS1)
  rw [gI_sI_f, nI_clamp (show j < 2 ^ 31 by omega)]
  exact he _ _
/-- processes[j], channels[j] -/
theorem x_procs (hexec : p.tables.exec = Jvm.exec) (hb : c.code = cc) (hK : va_K D vwCl (tyx cs) s) (hH : He D b 43 (Ex cs b σ) H) (j : Nat) {x : Int32} (hx : x = nI j) (hj : j < 8) (hdg : decode cc pc = .ok (.aaload, 1))
    (kk : W p l e R s m args below meth c H locs cells slots Q (F0 m (pc + 1) ls (.ref (b + xo 5 j) :: rest))) : W p l e R s m args below meth c H locs cells slots Q (F0 m pc ls (.int x :: .ref (b + xo 4 0) :: rest)) := by
  subst hx
  refine e_aald hexec hb hK hH (xo_ok (show 0 < xn 4 by decide)).2.2 1 (Ex_at cs b σ (show 0 < xn 4 by decide)) rfl (vp_in_nI hj (by omega)) hdg ?_
  rw [nI_clamp (show j < 2 ^ 31 by omega)]
  exact kk
theorem x_chans (hexec : p.tables.exec = Jvm.exec) (hb : c.code = cc) (hK : va_K D vwCl (tyx cs) s) (hH : He D b 43 (Ex cs b σ) H) (j : Nat) {x : Int32} (hx : x = nI j) (hj : j < 4) (hdg : decode cc pc = .ok (.aaload, 1))
    (kk : W p l e R s m args below meth c H locs cells slots Q (F0 m (pc + 1) ls (.ref (b + xo 8 j) :: rest))) : W p l e R s m args below meth c H locs cells slots Q (F0 m pc ls (.int x :: .ref (b + xo 7 0) :: rest)) := by
  subst hx
  refine e_aald hexec hb hK hH (xo_ok (show 0 < xn 7 by decide)).2.2 2 (Ex_at cs b σ (show 0 < xn 7 by decide)) rfl (vp_in_nI hj (by omega)) hdg ?_
  rw [nI_clamp (show j < 2 ^ 31 by omega)]
  exact kk
/-- members[j] of a row -/
theorem x_memb (hexec : p.tables.exec = Jvm.exec) (hb : c.code = cc) (hK : va_K D vwCl (tyx cs) s) (hH : He D b 43 (Ex cs b σ) H) (i : Nat) (hi : i < 2) (j : Nat) {x : Int32} (hx : x = nI j) (hj : j < 8) (hdg : decode cc pc = .ok (.aaload, 1))
    (kk : W p l e R s m args below meth c H locs cells slots Q (F0 m (pc + 1) ls (va_rf ((gR σ 10 i j).map (fun p => b + xo 5 p)) :: rest))) : W p l e R s m args below meth c H locs cells slots Q (F0 m pc ls (.int x :: .ref (b + xo 10 i) :: rest)) := by
  subst hx
  refine e_aald hexec hb hK hH (xo_ok (show i < xn 10 from hi)).2.2 1 (Ex_at cs b σ (show i < xn 10 from hi)) rfl (vp_in_nI hj (by omega)) hdg ?_
  rw [nI_clamp (show j < 2 ^ 31 by omega)]
  exact kk
theorem x_membS (hexec : p.tables.exec = Jvm.exec) (hb : c.code = cc) (hK : va_K D vwCl (tyx cs) s) (hH : He D b 43 (Ex cs b σ) H) (hS0 : va_S (fun q => b ≤ q) H0 H locs) (i : Nat) (hi : i < 2) (j : Nat) {x : Int32} (hx : x = nI j) (hj : j < 8) (q : Option Nat) (hq : ∀ p, q = some p → p < 8) {v : Value} (hv : va_rf (q.map (fun p => b + xo 5 p)) = v) (hdg : decode cc pc = .ok (.aastore, 1))
    (kk : ∀ (H1 : Heap) (locs1 : List Loc), He D b 43 (Ex cs b (sR σ 10 i j q)) H1 → va_S (fun q => b ≤ q) H0 H1 locs1 → W p l e R s m args below meth c H1 locs1 cells slots Q (F0 m (pc + 1) ls rest)) : W p l e R s m args below meth c H locs cells slots Q (F0 m pc ls (v :: .int x :: .ref (b + xo 10 i) :: rest)) := by
  subst hx
  subst hv
  have hi' : i < xn 10 := hi
  have hfin : ∀ (q : Option Nat), xeF cs b (gI (sR σ 10 i j q) 10 i) (gR (sR σ 10 i j q) 10 i) 10 i = .inl (cs 1, 8, .inr (.inr (.inr (.inr (va_up (fun k => (gR σ 10 i k).map (fun p => b + xo 5 p)) (nI j).toNatClampNeg (q.map (fun p => b + xo 5 p))))))) := by
    intro q
    rw [gR_sR_f, nI_clamp (show j < 2 ^ 31 by omega)]
    show (Sum.inl (cs 1, 8, .inr (.inr (.inr (.inr (fun k => (va_up (gR σ 10 i) j q k).map (fun p => b + xo 5 p)))))) : va_E) = _
    congr 7
    funext k
    by_cases hk : k = j
    · subst hk; simp [va_up]
    · simp [va_up, hk]
  cases q with
  | none =>
    refine e_aastN hexec hb hK hH hS0 (xo_ok hi').2.2 1 (Ex_at cs b σ hi') rfl (vp_in_nI hj (by omega)) hdg (fun H1 locs1 hH1 hS1 => kk H1 locs1 (Ex_put hi' sR_off (hfin none) hH1) hS1)
  | some p =>
    have hp : p < xn 5 := hq p rfl
    exact e_aast hexec hb hK hH hS0 (r := (RX2, TX2, 10)) (xo_ok hi').2.2 1 (Ex_at cs b σ hi') rfl (xo_ok hp).2.2 (Ex_at cs b σ hp) rfl (vp_in_nI hj (by omega)) hdg (fun H1 locs1 hH1 hS1 => kk H1 locs1 (Ex_put hi' sR_off (hfin (some p)) hH1) hS1)
end MT
end
section
theorem dX0_init_0 : decode cX0_init 0 = .ok (.aload_n 0, 1) := by decide +kernel
theorem dX0_init_1 : decode cX0_init 1 = .ok (.invokespecial 3, 3) := by decide +kernel
theorem dX0_init_4 : decode cX0_init 4 = .ok (.aload_n 0, 1) := by decide +kernel
theorem dX0_init_5 : decode cX0_init 5 = .ok (.iload_n 1, 1) := by decide +kernel
theorem dX0_init_6 : decode cX0_init 6 = .ok (.putfield 9, 3) := by decide +kernel
theorem dX0_init_9 : decode cX0_init 9 = .ok (.aload_n 0, 1) := by decide +kernel
theorem dX0_init_10 : decode cX0_init 10 = .ok (.aconst_null, 1) := by decide +kernel
theorem dX0_init_11 : decode cX0_init 11 = .ok (.putfield 15, 3) := by decide +kernel
theorem dX0_init_14 : decode cX0_init 14 = .ok (.aload_n 0, 1) := by decide +kernel
theorem dX0_init_15 : decode cX0_init 15 = .ok (.iconst 0, 1) := by decide +kernel
theorem dX0_init_16 : decode cX0_init 16 = .ok (.putfield 19, 3) := by decide +kernel
theorem dX0_init_19 : decode cX0_init 19 = .ok (.aload_n 0, 1) := by decide +kernel
theorem dX0_init_20 : decode cX0_init 20 = .ok (.iconst 0, 1) := by decide +kernel
theorem dX0_init_21 : decode cX0_init 21 = .ok (.putfield 23, 3) := by decide +kernel
theorem dX0_init_24 : decode cX0_init 24 = .ok (.return_, 1) := by decide +kernel
theorem dX0_clear_0 : decode cX0_clear 0 = .ok (.aload_n 0, 1) := by decide +kernel
theorem dX0_clear_1 : decode cX0_clear 1 = .ok (.aconst_null, 1) := by decide +kernel
theorem dX0_clear_2 : decode cX0_clear 2 = .ok (.putfield 15, 3) := by decide +kernel
theorem dX0_clear_5 : decode cX0_clear 5 = .ok (.aload_n 0, 1) := by decide +kernel
theorem dX0_clear_6 : decode cX0_clear 6 = .ok (.iconst 0, 1) := by decide +kernel
theorem dX0_clear_7 : decode cX0_clear 7 = .ok (.putfield 19, 3) := by decide +kernel
theorem dX0_clear_10 : decode cX0_clear 10 = .ok (.aload_n 0, 1) := by decide +kernel
theorem dX0_clear_11 : decode cX0_clear 11 = .ok (.iconst 0, 1) := by decide +kernel
theorem dX0_clear_12 : decode cX0_clear 12 = .ok (.putfield 23, 3) := by decide +kernel
theorem dX0_clear_15 : decode cX0_clear 15 = .ok (.return_, 1) := by decide +kernel
theorem dX0_hold_0 : decode cX0_hold 0 = .ok (.aload_n 0, 1) := by decide +kernel
theorem dX0_hold_1 : decode cX0_hold 1 = .ok (.aload_n 1, 1) := by decide +kernel
theorem dX0_hold_2 : decode cX0_hold 2 = .ok (.putfield 15, 3) := by decide +kernel
theorem dX0_hold_5 : decode cX0_hold 5 = .ok (.aload_n 0, 1) := by decide +kernel
theorem dX0_hold_6 : decode cX0_hold 6 = .ok (.iload_n 2, 1) := by decide +kernel
theorem dX0_hold_7 : decode cX0_hold 7 = .ok (.putfield 19, 3) := by decide +kernel
theorem dX0_hold_10 : decode cX0_hold 10 = .ok (.aload_n 0, 1) := by decide +kernel
theorem dX0_hold_11 : decode cX0_hold 11 = .ok (.iload_n 3, 1) := by decide +kernel
theorem dX0_hold_12 : decode cX0_hold 12 = .ok (.putfield 23, 3) := by decide +kernel
theorem dX0_hold_15 : decode cX0_hold 15 = .ok (.aload_n 1, 1) := by decide +kernel
theorem dX0_hold_16 : decode cX0_hold 16 = .ok (.iconst 3, 1) := by decide +kernel
theorem dX0_hold_17 : decode cX0_hold 17 = .ok (.putfield 26, 3) := by decide +kernel
theorem dX0_hold_20 : decode cX0_hold 20 = .ok (.return_, 1) := by decide +kernel
theorem dX0_hasSender_0 : decode cX0_hasSender 0 = .ok (.aload_n 0, 1) := by decide +kernel
theorem dX0_hasSender_1 : decode cX0_hasSender 1 = .ok (.getfield 15, 3) := by decide +kernel
theorem dX0_hasSender_4 : decode cX0_hasSender 4 = .ok (.ifnull 14, 3) := by decide +kernel
theorem dX0_hasSender_7 : decode cX0_hasSender 7 = .ok (.aload_n 0, 1) := by decide +kernel
theorem dX0_hasSender_8 : decode cX0_hasSender 8 = .ok (.getfield 19, 3) := by decide +kernel
theorem dX0_hasSender_11 : decode cX0_hasSender 11 = .ok (.ifCond .eq 7, 3) := by decide +kernel
theorem dX0_hasSender_14 : decode cX0_hasSender 14 = .ok (.iconst 1, 1) := by decide +kernel
theorem dX0_hasSender_15 : decode cX0_hasSender 15 = .ok (.goto 4, 3) := by decide +kernel
theorem dX0_hasSender_18 : decode cX0_hasSender 18 = .ok (.iconst 0, 1) := by decide +kernel
theorem dX0_hasSender_19 : decode cX0_hasSender 19 = .ok (.ireturn, 1) := by decide +kernel
theorem dX0_hasReceiver_0 : decode cX0_hasReceiver 0 = .ok (.aload_n 0, 1) := by decide +kernel
theorem dX0_hasReceiver_1 : decode cX0_hasReceiver 1 = .ok (.getfield 15, 3) := by decide +kernel
theorem dX0_hasReceiver_4 : decode cX0_hasReceiver 4 = .ok (.ifnull 14, 3) := by decide +kernel
theorem dX0_hasReceiver_7 : decode cX0_hasReceiver 7 = .ok (.aload_n 0, 1) := by decide +kernel
theorem dX0_hasReceiver_8 : decode cX0_hasReceiver 8 = .ok (.getfield 19, 3) := by decide +kernel
theorem dX0_hasReceiver_11 : decode cX0_hasReceiver 11 = .ok (.ifCond .ne 7, 3) := by decide +kernel
theorem dX0_hasReceiver_14 : decode cX0_hasReceiver 14 = .ok (.iconst 1, 1) := by decide +kernel
theorem dX0_hasReceiver_15 : decode cX0_hasReceiver 15 = .ok (.goto 4, 3) := by decide +kernel
theorem dX0_hasReceiver_18 : decode cX0_hasReceiver 18 = .ok (.iconst 0, 1) := by decide +kernel
theorem dX0_hasReceiver_19 : decode cX0_hasReceiver 19 = .ok (.ireturn, 1) := by decide +kernel
theorem dX0_code_0 : decode cX0_code 0 = .ok (.aload_n 0, 1) := by decide +kernel
theorem dX0_code_1 : decode cX0_code 1 = .ok (.getfield 15, 3) := by decide +kernel
theorem dX0_code_4 : decode cX0_code 4 = .ok (.ifnonnull 5, 3) := by decide +kernel
theorem dX0_code_7 : decode cX0_code 7 = .ok (.iconst 0, 1) := by decide +kernel
theorem dX0_code_8 : decode cX0_code 8 = .ok (.ireturn, 1) := by decide +kernel
theorem dX0_code_9 : decode cX0_code 9 = .ok (.aload_n 0, 1) := by decide +kernel
theorem dX0_code_10 : decode cX0_code 10 = .ok (.getfield 19, 3) := by decide +kernel
theorem dX0_code_13 : decode cX0_code 13 = .ok (.ifCond .eq 8, 3) := by decide +kernel
theorem dX0_code_16 : decode cX0_code 16 = .ok (.bipush 8, 2) := by decide +kernel
theorem dX0_code_18 : decode cX0_code 18 = .ok (.goto 5, 3) := by decide +kernel
theorem dX0_code_21 : decode cX0_code 21 = .ok (.bipush 16, 2) := by decide +kernel
theorem dX0_code_23 : decode cX0_code 23 = .ok (.aload_n 0, 1) := by decide +kernel
theorem dX0_code_24 : decode cX0_code 24 = .ok (.getfield 15, 3) := by decide +kernel
theorem dX0_code_27 : decode cX0_code 27 = .ok (.getfield 31, 3) := by decide +kernel
theorem dX0_code_30 : decode cX0_code 30 = .ok (.iadd, 1) := by decide +kernel
theorem dX0_code_31 : decode cX0_code 31 = .ok (.ireturn, 1) := by decide +kernel
theorem dX1_init_0 : decode cX1_init 0 = .ok (.aload_n 0, 1) := by decide +kernel
theorem dX1_init_1 : decode cX1_init 1 = .ok (.invokespecial 3, 3) := by decide +kernel
theorem dX1_init_4 : decode cX1_init 4 = .ok (.aload_n 0, 1) := by decide +kernel
theorem dX1_init_5 : decode cX1_init 5 = .ok (.bipush 80, 2) := by decide +kernel
theorem dX1_init_7 : decode cX1_init 7 = .ok (.newarray .int, 2) := by decide +kernel
theorem dX1_init_9 : decode cX1_init 9 = .ok (.putfield 9, 3) := by decide +kernel
theorem dX1_init_12 : decode cX1_init 12 = .ok (.aload_n 0, 1) := by decide +kernel
theorem dX1_init_13 : decode cX1_init 13 = .ok (.iconst 0, 1) := by decide +kernel
theorem dX1_init_14 : decode cX1_init 14 = .ok (.putfield 15, 3) := by decide +kernel
theorem dX1_init_17 : decode cX1_init 17 = .ok (.return_, 1) := by decide +kernel
theorem dX1_roomOf_0 : decode cX1_roomOf 0 = .ok (.iload_n 0, 1) := by decide +kernel
theorem dX1_roomOf_1 : decode cX1_roomOf 1 = .ok (.bipush 15, 2) := by decide +kernel
theorem dX1_roomOf_3 : decode cX1_roomOf 3 = .ok (.iand, 1) := by decide +kernel
theorem dX1_roomOf_4 : decode cX1_roomOf 4 = .ok (.iconst 5, 1) := by decide +kernel
theorem dX1_roomOf_5 : decode cX1_roomOf 5 = .ok (.imul, 1) := by decide +kernel
theorem dX1_roomOf_6 : decode cX1_roomOf 6 = .ok (.ireturn, 1) := by decide +kernel
theorem dX1_append_0 : decode cX1_append 0 = .ok (.aload_n 0, 1) := by decide +kernel
theorem dX1_append_1 : decode cX1_append 1 = .ok (.getfield 15, 3) := by decide +kernel
theorem dX1_append_4 : decode cX1_append 4 = .ok (.invokestatic 19, 3) := by decide +kernel
theorem dX1_append_7 : decode cX1_append 7 = .ok (.istore 6, 2) := by decide +kernel
theorem dX1_append_9 : decode cX1_append 9 = .ok (.aload_n 0, 1) := by decide +kernel
theorem dX1_append_10 : decode cX1_append 10 = .ok (.getfield 9, 3) := by decide +kernel
theorem dX1_append_13 : decode cX1_append 13 = .ok (.iload 6, 2) := by decide +kernel
theorem dX1_append_15 : decode cX1_append 15 = .ok (.iload_n 1, 1) := by decide +kernel
theorem dX1_append_16 : decode cX1_append 16 = .ok (.iastore, 1) := by decide +kernel
theorem dX1_append_17 : decode cX1_append 17 = .ok (.aload_n 0, 1) := by decide +kernel
theorem dX1_append_18 : decode cX1_append 18 = .ok (.getfield 9, 3) := by decide +kernel
theorem dX1_append_21 : decode cX1_append 21 = .ok (.iload 6, 2) := by decide +kernel
theorem dX1_append_23 : decode cX1_append 23 = .ok (.iconst 1, 1) := by decide +kernel
theorem dX1_append_24 : decode cX1_append 24 = .ok (.iadd, 1) := by decide +kernel
theorem dX1_append_25 : decode cX1_append 25 = .ok (.iload_n 2, 1) := by decide +kernel
theorem dX1_append_26 : decode cX1_append 26 = .ok (.iastore, 1) := by decide +kernel
theorem dX1_append_27 : decode cX1_append 27 = .ok (.aload_n 0, 1) := by decide +kernel
theorem dX1_append_28 : decode cX1_append 28 = .ok (.getfield 9, 3) := by decide +kernel
theorem dX1_append_31 : decode cX1_append 31 = .ok (.iload 6, 2) := by decide +kernel
theorem dX1_append_33 : decode cX1_append 33 = .ok (.iconst 2, 1) := by decide +kernel
theorem dX1_append_34 : decode cX1_append 34 = .ok (.iadd, 1) := by decide +kernel
theorem dX1_append_35 : decode cX1_append 35 = .ok (.iload_n 3, 1) := by decide +kernel
theorem dX1_append_36 : decode cX1_append 36 = .ok (.iastore, 1) := by decide +kernel
theorem dX1_append_37 : decode cX1_append 37 = .ok (.aload_n 0, 1) := by decide +kernel
theorem dX1_append_38 : decode cX1_append 38 = .ok (.getfield 9, 3) := by decide +kernel
theorem dX1_append_41 : decode cX1_append 41 = .ok (.iload 6, 2) := by decide +kernel
theorem dX1_append_43 : decode cX1_append 43 = .ok (.iconst 3, 1) := by decide +kernel
theorem dX1_append_44 : decode cX1_append 44 = .ok (.iadd, 1) := by decide +kernel
theorem dX1_append_45 : decode cX1_append 45 = .ok (.iload 4, 2) := by decide +kernel
theorem dX1_append_47 : decode cX1_append 47 = .ok (.iastore, 1) := by decide +kernel
theorem dX1_append_48 : decode cX1_append 48 = .ok (.aload_n 0, 1) := by decide +kernel
theorem dX1_append_49 : decode cX1_append 49 = .ok (.getfield 9, 3) := by decide +kernel
theorem dX1_append_52 : decode cX1_append 52 = .ok (.iload 6, 2) := by decide +kernel
theorem dX1_append_54 : decode cX1_append 54 = .ok (.iconst 4, 1) := by decide +kernel
theorem dX1_append_55 : decode cX1_append 55 = .ok (.iadd, 1) := by decide +kernel
theorem dX1_append_56 : decode cX1_append 56 = .ok (.iload 5, 2) := by decide +kernel
theorem dX1_append_58 : decode cX1_append 58 = .ok (.iastore, 1) := by decide +kernel
theorem dX1_append_59 : decode cX1_append 59 = .ok (.aload_n 0, 1) := by decide +kernel
theorem dX1_append_60 : decode cX1_append 60 = .ok (.dup, 1) := by decide +kernel
theorem dX1_append_61 : decode cX1_append 61 = .ok (.getfield 15, 3) := by decide +kernel
theorem dX1_append_64 : decode cX1_append 64 = .ok (.iconst 1, 1) := by decide +kernel
theorem dX1_append_65 : decode cX1_append 65 = .ok (.iadd, 1) := by decide +kernel
theorem dX1_append_66 : decode cX1_append 66 = .ok (.putfield 15, 3) := by decide +kernel
theorem dX1_append_69 : decode cX1_append 69 = .ok (.return_, 1) := by decide +kernel
theorem dX1_part_0 : decode cX1_part 0 = .ok (.iload_n 1, 1) := by decide +kernel
theorem dX1_part_1 : decode cX1_part 1 = .ok (.ifCond .lt 26, 3) := by decide +kernel
theorem dX1_part_4 : decode cX1_part 4 = .ok (.iload_n 1, 1) := by decide +kernel
theorem dX1_part_5 : decode cX1_part 5 = .ok (.bipush 16, 2) := by decide +kernel
theorem dX1_part_7 : decode cX1_part 7 = .ok (.if_icmp .ge 20, 3) := by decide +kernel
theorem dX1_part_10 : decode cX1_part 10 = .ok (.iload_n 1, 1) := by decide +kernel
theorem dX1_part_11 : decode cX1_part 11 = .ok (.aload_n 0, 1) := by decide +kernel
theorem dX1_part_12 : decode cX1_part 12 = .ok (.getfield 15, 3) := by decide +kernel
theorem dX1_part_15 : decode cX1_part 15 = .ok (.if_icmp .ge 12, 3) := by decide +kernel
theorem dX1_part_18 : decode cX1_part 18 = .ok (.iload_n 2, 1) := by decide +kernel
theorem dX1_part_19 : decode cX1_part 19 = .ok (.ifCond .lt 8, 3) := by decide +kernel
theorem dX1_part_22 : decode cX1_part 22 = .ok (.iload_n 2, 1) := by decide +kernel
theorem dX1_part_23 : decode cX1_part 23 = .ok (.iconst 5, 1) := by decide +kernel
theorem dX1_part_24 : decode cX1_part 24 = .ok (.if_icmp .lt 7, 3) := by decide +kernel
theorem dX1_part_27 : decode cX1_part 27 = .ok (.ldc2_w 23, 3) := by decide +kernel
theorem dX1_part_30 : decode cX1_part 30 = .ok (.lreturn, 1) := by decide +kernel
theorem dX1_part_31 : decode cX1_part 31 = .ok (.aload_n 0, 1) := by decide +kernel
theorem dX1_part_32 : decode cX1_part 32 = .ok (.getfield 9, 3) := by decide +kernel
theorem dX1_part_35 : decode cX1_part 35 = .ok (.aload_n 0, 1) := by decide +kernel
theorem dX1_part_36 : decode cX1_part 36 = .ok (.getfield 15, 3) := by decide +kernel
theorem dX1_part_39 : decode cX1_part 39 = .ok (.iconst 1, 1) := by decide +kernel
theorem dX1_part_40 : decode cX1_part 40 = .ok (.isub, 1) := by decide +kernel
theorem dX1_part_41 : decode cX1_part 41 = .ok (.iload_n 1, 1) := by decide +kernel
theorem dX1_part_42 : decode cX1_part 42 = .ok (.isub, 1) := by decide +kernel
theorem dX1_part_43 : decode cX1_part 43 = .ok (.invokestatic 19, 3) := by decide +kernel
theorem dX1_part_46 : decode cX1_part 46 = .ok (.iload_n 2, 1) := by decide +kernel
theorem dX1_part_47 : decode cX1_part 47 = .ok (.iadd, 1) := by decide +kernel
theorem dX1_part_48 : decode cX1_part 48 = .ok (.iaload, 1) := by decide +kernel
theorem dX1_part_49 : decode cX1_part 49 = .ok (.i2l, 1) := by decide +kernel
theorem dX1_part_50 : decode cX1_part 50 = .ok (.lreturn, 1) := by decide +kernel
theorem dX2_init_0 : decode cX2_init 0 = .ok (.aload_n 0, 1) := by decide +kernel
theorem dX2_init_1 : decode cX2_init 1 = .ok (.invokespecial 3, 3) := by decide +kernel
theorem dX2_init_4 : decode cX2_init 4 = .ok (.aload_n 0, 1) := by decide +kernel
theorem dX2_init_5 : decode cX2_init 5 = .ok (.iload_n 1, 1) := by decide +kernel
theorem dX2_init_6 : decode cX2_init 6 = .ok (.putfield 9, 3) := by decide +kernel
theorem dX2_init_9 : decode cX2_init 9 = .ok (.aload_n 0, 1) := by decide +kernel
theorem dX2_init_10 : decode cX2_init 10 = .ok (.iconst 4, 1) := by decide +kernel
theorem dX2_init_11 : decode cX2_init 11 = .ok (.newarray .int, 2) := by decide +kernel
theorem dX2_init_13 : decode cX2_init 13 = .ok (.putfield 15, 3) := by decide +kernel
theorem dX2_init_16 : decode cX2_init 16 = .ok (.aload_n 0, 1) := by decide +kernel
theorem dX2_init_17 : decode cX2_init 17 = .ok (.iconst 0, 1) := by decide +kernel
theorem dX2_init_18 : decode cX2_init 18 = .ok (.putfield 19, 3) := by decide +kernel
theorem dX2_init_21 : decode cX2_init 21 = .ok (.return_, 1) := by decide +kernel
theorem dX2_begin_0 : decode cX2_begin 0 = .ok (.aload_n 0, 1) := by decide +kernel
theorem dX2_begin_1 : decode cX2_begin 1 = .ok (.iload_n 1, 1) := by decide +kernel
theorem dX2_begin_2 : decode cX2_begin 2 = .ok (.putfield 22, 3) := by decide +kernel
theorem dX2_begin_5 : decode cX2_begin 5 = .ok (.aload_n 0, 1) := by decide +kernel
theorem dX2_begin_6 : decode cX2_begin 6 = .ok (.iload_n 2, 1) := by decide +kernel
theorem dX2_begin_7 : decode cX2_begin 7 = .ok (.putfield 25, 3) := by decide +kernel
theorem dX2_begin_10 : decode cX2_begin 10 = .ok (.aload_n 0, 1) := by decide +kernel
theorem dX2_begin_11 : decode cX2_begin 11 = .ok (.iload_n 3, 1) := by decide +kernel
theorem dX2_begin_12 : decode cX2_begin 12 = .ok (.putfield 28, 3) := by decide +kernel
theorem dX2_begin_15 : decode cX2_begin 15 = .ok (.aload_n 0, 1) := by decide +kernel
theorem dX2_begin_16 : decode cX2_begin 16 = .ok (.iconst 0, 1) := by decide +kernel
theorem dX2_begin_17 : decode cX2_begin 17 = .ok (.putfield 31, 3) := by decide +kernel
theorem dX2_begin_20 : decode cX2_begin 20 = .ok (.aload_n 0, 1) := by decide +kernel
theorem dX2_begin_21 : decode cX2_begin 21 = .ok (.iconst 0, 1) := by decide +kernel
theorem dX2_begin_22 : decode cX2_begin 22 = .ok (.putfield 34, 3) := by decide +kernel
theorem dX2_begin_25 : decode cX2_begin 25 = .ok (.iconst 0, 1) := by decide +kernel
theorem dX2_begin_26 : decode cX2_begin 26 = .ok (.istore 4, 2) := by decide +kernel
theorem dX2_begin_28 : decode cX2_begin 28 = .ok (.iload 4, 2) := by decide +kernel
theorem dX2_begin_30 : decode cX2_begin 30 = .ok (.iconst 4, 1) := by decide +kernel
theorem dX2_begin_31 : decode cX2_begin 31 = .ok (.if_icmp .ge 17, 3) := by decide +kernel
theorem dX2_begin_34 : decode cX2_begin 34 = .ok (.aload_n 0, 1) := by decide +kernel
theorem dX2_begin_35 : decode cX2_begin 35 = .ok (.getfield 15, 3) := by decide +kernel
theorem dX2_begin_38 : decode cX2_begin 38 = .ok (.iload 4, 2) := by decide +kernel
theorem dX2_begin_40 : decode cX2_begin 40 = .ok (.iconst 0, 1) := by decide +kernel
theorem dX2_begin_41 : decode cX2_begin 41 = .ok (.iastore, 1) := by decide +kernel
theorem dX2_begin_42 : decode cX2_begin 42 = .ok (.iinc 4 1, 3) := by decide +kernel
theorem dX2_begin_45 : decode cX2_begin 45 = .ok (.goto (-17), 3) := by decide +kernel
theorem dX2_begin_48 : decode cX2_begin 48 = .ok (.return_, 1) := by decide +kernel
theorem dX2_put_0 : decode cX2_put 0 = .ok (.aload_n 0, 1) := by decide +kernel
theorem dX2_put_1 : decode cX2_put 1 = .ok (.aload_n 0, 1) := by decide +kernel
theorem dX2_put_2 : decode cX2_put 2 = .ok (.getfield 31, 3) := by decide +kernel
theorem dX2_put_5 : decode cX2_put 5 = .ok (.putfield 34, 3) := by decide +kernel
theorem dX2_put_8 : decode cX2_put 8 = .ok (.aload_n 0, 1) := by decide +kernel
theorem dX2_put_9 : decode cX2_put 9 = .ok (.aload_n 0, 1) := by decide +kernel
theorem dX2_put_10 : decode cX2_put 10 = .ok (.getfield 28, 3) := by decide +kernel
theorem dX2_put_13 : decode cX2_put 13 = .ok (.putfield 31, 3) := by decide +kernel
theorem dX2_put_16 : decode cX2_put 16 = .ok (.aload_n 0, 1) := by decide +kernel
theorem dX2_put_17 : decode cX2_put 17 = .ok (.iload_n 1, 1) := by decide +kernel
theorem dX2_put_18 : decode cX2_put 18 = .ok (.putfield 28, 3) := by decide +kernel
theorem dX2_put_21 : decode cX2_put 21 = .ok (.return_, 1) := by decide +kernel
theorem dX2_drop_0 : decode cX2_drop 0 = .ok (.aload_n 0, 1) := by decide +kernel
theorem dX2_drop_1 : decode cX2_drop 1 = .ok (.aload_n 0, 1) := by decide +kernel
theorem dX2_drop_2 : decode cX2_drop 2 = .ok (.getfield 31, 3) := by decide +kernel
theorem dX2_drop_5 : decode cX2_drop 5 = .ok (.putfield 28, 3) := by decide +kernel
theorem dX2_drop_8 : decode cX2_drop 8 = .ok (.aload_n 0, 1) := by decide +kernel
theorem dX2_drop_9 : decode cX2_drop 9 = .ok (.aload_n 0, 1) := by decide +kernel
theorem dX2_drop_10 : decode cX2_drop 10 = .ok (.getfield 34, 3) := by decide +kernel
theorem dX2_drop_13 : decode cX2_drop 13 = .ok (.putfield 31, 3) := by decide +kernel
theorem dX2_drop_16 : decode cX2_drop 16 = .ok (.return_, 1) := by decide +kernel
theorem dX2_replaceTwo_0 : decode cX2_replaceTwo 0 = .ok (.aload_n 0, 1) := by decide +kernel
theorem dX2_replaceTwo_1 : decode cX2_replaceTwo 1 = .ok (.iload_n 1, 1) := by decide +kernel
theorem dX2_replaceTwo_2 : decode cX2_replaceTwo 2 = .ok (.putfield 28, 3) := by decide +kernel
theorem dX2_replaceTwo_5 : decode cX2_replaceTwo 5 = .ok (.aload_n 0, 1) := by decide +kernel
theorem dX2_replaceTwo_6 : decode cX2_replaceTwo 6 = .ok (.aload_n 0, 1) := by decide +kernel
theorem dX2_replaceTwo_7 : decode cX2_replaceTwo 7 = .ok (.getfield 34, 3) := by decide +kernel
theorem dX2_replaceTwo_10 : decode cX2_replaceTwo 10 = .ok (.putfield 31, 3) := by decide +kernel
theorem dX2_replaceTwo_13 : decode cX2_replaceTwo 13 = .ok (.return_, 1) := by decide +kernel
theorem dX2_word_0 : decode cX2_word 0 = .ok (.iload_n 1, 1) := by decide +kernel
theorem dX2_word_1 : decode cX2_word 1 = .ok (.ifCond .lt 17, 3) := by decide +kernel
theorem dX2_word_4 : decode cX2_word 4 = .ok (.iload_n 1, 1) := by decide +kernel
theorem dX2_word_5 : decode cX2_word 5 = .ok (.iconst 4, 1) := by decide +kernel
theorem dX2_word_6 : decode cX2_word 6 = .ok (.if_icmp .ge 12, 3) := by decide +kernel
theorem dX2_word_9 : decode cX2_word 9 = .ok (.aload_n 0, 1) := by decide +kernel
theorem dX2_word_10 : decode cX2_word 10 = .ok (.getfield 15, 3) := by decide +kernel
theorem dX2_word_13 : decode cX2_word 13 = .ok (.iload_n 1, 1) := by decide +kernel
theorem dX2_word_14 : decode cX2_word 14 = .ok (.iaload, 1) := by decide +kernel
theorem dX2_word_15 : decode cX2_word 15 = .ok (.goto 4, 3) := by decide +kernel
theorem dX2_word_18 : decode cX2_word 18 = .ok (.iconst 0, 1) := by decide +kernel
theorem dX2_word_19 : decode cX2_word 19 = .ok (.ireturn, 1) := by decide +kernel
theorem dX2_setWord_0 : decode cX2_setWord 0 = .ok (.iload_n 1, 1) := by decide +kernel
theorem dX2_setWord_1 : decode cX2_setWord 1 = .ok (.ifCond .lt 15, 3) := by decide +kernel
theorem dX2_setWord_4 : decode cX2_setWord 4 = .ok (.iload_n 1, 1) := by decide +kernel
theorem dX2_setWord_5 : decode cX2_setWord 5 = .ok (.iconst 4, 1) := by decide +kernel
theorem dX2_setWord_6 : decode cX2_setWord 6 = .ok (.if_icmp .ge 10, 3) := by decide +kernel
theorem dX2_setWord_9 : decode cX2_setWord 9 = .ok (.aload_n 0, 1) := by decide +kernel
theorem dX2_setWord_10 : decode cX2_setWord 10 = .ok (.getfield 15, 3) := by decide +kernel
theorem dX2_setWord_13 : decode cX2_setWord 13 = .ok (.iload_n 1, 1) := by decide +kernel
theorem dX2_setWord_14 : decode cX2_setWord 14 = .ok (.iload_n 2, 1) := by decide +kernel
theorem dX2_setWord_15 : decode cX2_setWord 15 = .ok (.iastore, 1) := by decide +kernel
theorem dX2_setWord_16 : decode cX2_setWord 16 = .ok (.return_, 1) := by decide +kernel
theorem dX2_part_0 : decode cX2_part 0 = .ok (.iload_n 1, 1) := by decide +kernel
theorem dX2_part_1 : decode cX2_part 1 = .ok (.tableswitch 90 0 8 #[51, 57, 63, 69, 75, 81, 81, 81, 81], 51) := by decide +kernel
theorem dX2_part_52 : decode cX2_part 52 = .ok (.aload_n 0, 1) := by decide +kernel
theorem dX2_part_53 : decode cX2_part 53 = .ok (.getfield 22, 3) := by decide +kernel
theorem dX2_part_56 : decode cX2_part 56 = .ok (.i2l, 1) := by decide +kernel
theorem dX2_part_57 : decode cX2_part 57 = .ok (.lreturn, 1) := by decide +kernel
theorem dX2_part_58 : decode cX2_part 58 = .ok (.aload_n 0, 1) := by decide +kernel
theorem dX2_part_59 : decode cX2_part 59 = .ok (.getfield 25, 3) := by decide +kernel
theorem dX2_part_62 : decode cX2_part 62 = .ok (.i2l, 1) := by decide +kernel
theorem dX2_part_63 : decode cX2_part 63 = .ok (.lreturn, 1) := by decide +kernel
theorem dX2_part_64 : decode cX2_part 64 = .ok (.aload_n 0, 1) := by decide +kernel
theorem dX2_part_65 : decode cX2_part 65 = .ok (.getfield 28, 3) := by decide +kernel
theorem dX2_part_68 : decode cX2_part 68 = .ok (.i2l, 1) := by decide +kernel
theorem dX2_part_69 : decode cX2_part 69 = .ok (.lreturn, 1) := by decide +kernel
theorem dX2_part_70 : decode cX2_part 70 = .ok (.aload_n 0, 1) := by decide +kernel
theorem dX2_part_71 : decode cX2_part 71 = .ok (.getfield 31, 3) := by decide +kernel
theorem dX2_part_74 : decode cX2_part 74 = .ok (.i2l, 1) := by decide +kernel
theorem dX2_part_75 : decode cX2_part 75 = .ok (.lreturn, 1) := by decide +kernel
theorem dX2_part_76 : decode cX2_part 76 = .ok (.aload_n 0, 1) := by decide +kernel
theorem dX2_part_77 : decode cX2_part 77 = .ok (.getfield 34, 3) := by decide +kernel
theorem dX2_part_80 : decode cX2_part 80 = .ok (.i2l, 1) := by decide +kernel
theorem dX2_part_81 : decode cX2_part 81 = .ok (.lreturn, 1) := by decide +kernel
theorem dX2_part_82 : decode cX2_part 82 = .ok (.aload_n 0, 1) := by decide +kernel
theorem dX2_part_83 : decode cX2_part 83 = .ok (.iload_n 1, 1) := by decide +kernel
theorem dX2_part_84 : decode cX2_part 84 = .ok (.iconst 5, 1) := by decide +kernel
theorem dX2_part_85 : decode cX2_part 85 = .ok (.isub, 1) := by decide +kernel
theorem dX2_part_86 : decode cX2_part 86 = .ok (.invokevirtual 37, 3) := by decide +kernel
theorem dX2_part_89 : decode cX2_part 89 = .ok (.i2l, 1) := by decide +kernel
theorem dX2_part_90 : decode cX2_part 90 = .ok (.lreturn, 1) := by decide +kernel
theorem dX2_part_91 : decode cX2_part 91 = .ok (.ldc2_w 41, 3) := by decide +kernel
theorem dX2_part_94 : decode cX2_part 94 = .ok (.lreturn, 1) := by decide +kernel
theorem dX3_init_0 : decode cX3_init 0 = .ok (.aload_n 0, 1) := by decide +kernel
theorem dX3_init_1 : decode cX3_init 1 = .ok (.invokespecial 3, 3) := by decide +kernel
theorem dX3_init_4 : decode cX3_init 4 = .ok (.aload_n 0, 1) := by decide +kernel
theorem dX3_init_5 : decode cX3_init 5 = .ok (.bipush 40, 2) := by decide +kernel
theorem dX3_init_7 : decode cX3_init 7 = .ok (.newarray .int, 2) := by decide +kernel
theorem dX3_init_9 : decode cX3_init 9 = .ok (.putfield 9, 3) := by decide +kernel
theorem dX3_init_12 : decode cX3_init 12 = .ok (.aload_n 0, 1) := by decide +kernel
theorem dX3_init_13 : decode cX3_init 13 = .ok (.bipush 40, 2) := by decide +kernel
theorem dX3_init_15 : decode cX3_init 15 = .ok (.newarray .int, 2) := by decide +kernel
theorem dX3_init_17 : decode cX3_init 17 = .ok (.putfield 15, 3) := by decide +kernel
theorem dX3_init_20 : decode cX3_init 20 = .ok (.aload_n 0, 1) := by decide +kernel
theorem dX3_init_21 : decode cX3_init 21 = .ok (.iconst 0, 1) := by decide +kernel
theorem dX3_init_22 : decode cX3_init 22 = .ok (.putfield 18, 3) := by decide +kernel
theorem dX3_init_25 : decode cX3_init 25 = .ok (.return_, 1) := by decide +kernel
theorem dX3_append_0 : decode cX3_append 0 = .ok (.aload_n 0, 1) := by decide +kernel
theorem dX3_append_1 : decode cX3_append 1 = .ok (.getfield 18, 3) := by decide +kernel
theorem dX3_append_4 : decode cX3_append 4 = .ok (.istore_n 3, 1) := by decide +kernel
theorem dX3_append_5 : decode cX3_append 5 = .ok (.iload_n 3, 1) := by decide +kernel
theorem dX3_append_6 : decode cX3_append 6 = .ok (.ifCond .lt 9, 3) := by decide +kernel
theorem dX3_append_9 : decode cX3_append 9 = .ok (.iload_n 3, 1) := by decide +kernel
theorem dX3_append_10 : decode cX3_append 10 = .ok (.bipush 40, 2) := by decide +kernel
theorem dX3_append_12 : decode cX3_append 12 = .ok (.if_icmp .lt 5, 3) := by decide +kernel
theorem dX3_append_15 : decode cX3_append 15 = .ok (.iconst (-1), 1) := by decide +kernel
theorem dX3_append_16 : decode cX3_append 16 = .ok (.ireturn, 1) := by decide +kernel
theorem dX3_append_17 : decode cX3_append 17 = .ok (.aload_n 0, 1) := by decide +kernel
theorem dX3_append_18 : decode cX3_append 18 = .ok (.getfield 9, 3) := by decide +kernel
theorem dX3_append_21 : decode cX3_append 21 = .ok (.iload_n 3, 1) := by decide +kernel
theorem dX3_append_22 : decode cX3_append 22 = .ok (.iload_n 1, 1) := by decide +kernel
theorem dX3_append_23 : decode cX3_append 23 = .ok (.iastore, 1) := by decide +kernel
theorem dX3_append_24 : decode cX3_append 24 = .ok (.aload_n 0, 1) := by decide +kernel
theorem dX3_append_25 : decode cX3_append 25 = .ok (.getfield 15, 3) := by decide +kernel
theorem dX3_append_28 : decode cX3_append 28 = .ok (.iload_n 3, 1) := by decide +kernel
theorem dX3_append_29 : decode cX3_append 29 = .ok (.iload_n 2, 1) := by decide +kernel
theorem dX3_append_30 : decode cX3_append 30 = .ok (.iastore, 1) := by decide +kernel
theorem dX3_append_31 : decode cX3_append 31 = .ok (.aload_n 0, 1) := by decide +kernel
theorem dX3_append_32 : decode cX3_append 32 = .ok (.iload_n 3, 1) := by decide +kernel
theorem dX3_append_33 : decode cX3_append 33 = .ok (.iconst 1, 1) := by decide +kernel
theorem dX3_append_34 : decode cX3_append 34 = .ok (.iadd, 1) := by decide +kernel
theorem dX3_append_35 : decode cX3_append 35 = .ok (.putfield 18, 3) := by decide +kernel
theorem dX3_append_38 : decode cX3_append 38 = .ok (.iload_n 3, 1) := by decide +kernel
theorem dX3_append_39 : decode cX3_append 39 = .ok (.ireturn, 1) := by decide +kernel
theorem dX3_holds_0 : decode cX3_holds 0 = .ok (.iload_n 1, 1) := by decide +kernel
theorem dX3_holds_1 : decode cX3_holds 1 = .ok (.ifCond .lt 21, 3) := by decide +kernel
theorem dX3_holds_4 : decode cX3_holds 4 = .ok (.iload_n 1, 1) := by decide +kernel
theorem dX3_holds_5 : decode cX3_holds 5 = .ok (.aload_n 0, 1) := by decide +kernel
theorem dX3_holds_6 : decode cX3_holds 6 = .ok (.getfield 18, 3) := by decide +kernel
theorem dX3_holds_9 : decode cX3_holds 9 = .ok (.if_icmp .ge 13, 3) := by decide +kernel
theorem dX3_holds_12 : decode cX3_holds 12 = .ok (.iload_n 1, 1) := by decide +kernel
theorem dX3_holds_13 : decode cX3_holds 13 = .ok (.bipush 40, 2) := by decide +kernel
theorem dX3_holds_15 : decode cX3_holds 15 = .ok (.if_icmp .ge 7, 3) := by decide +kernel
theorem dX3_holds_18 : decode cX3_holds 18 = .ok (.iconst 1, 1) := by decide +kernel
theorem dX3_holds_19 : decode cX3_holds 19 = .ok (.goto 4, 3) := by decide +kernel
theorem dX3_holds_22 : decode cX3_holds 22 = .ok (.iconst 0, 1) := by decide +kernel
theorem dX3_holds_23 : decode cX3_holds 23 = .ok (.ireturn, 1) := by decide +kernel
theorem dX3_opAt_0 : decode cX3_opAt 0 = .ok (.aload_n 0, 1) := by decide +kernel
theorem dX3_opAt_1 : decode cX3_opAt 1 = .ok (.iload_n 1, 1) := by decide +kernel
theorem dX3_opAt_2 : decode cX3_opAt 2 = .ok (.invokevirtual 22, 3) := by decide +kernel
theorem dX3_opAt_5 : decode cX3_opAt 5 = .ok (.ifCond .eq 12, 3) := by decide +kernel
theorem dX3_opAt_8 : decode cX3_opAt 8 = .ok (.aload_n 0, 1) := by decide +kernel
theorem dX3_opAt_9 : decode cX3_opAt 9 = .ok (.getfield 9, 3) := by decide +kernel
theorem dX3_opAt_12 : decode cX3_opAt 12 = .ok (.iload_n 1, 1) := by decide +kernel
theorem dX3_opAt_13 : decode cX3_opAt 13 = .ok (.iaload, 1) := by decide +kernel
theorem dX3_opAt_14 : decode cX3_opAt 14 = .ok (.goto 4, 3) := by decide +kernel
theorem dX3_opAt_17 : decode cX3_opAt 17 = .ok (.iconst 0, 1) := by decide +kernel
theorem dX3_opAt_18 : decode cX3_opAt 18 = .ok (.ireturn, 1) := by decide +kernel
theorem dX3_operandAt_0 : decode cX3_operandAt 0 = .ok (.aload_n 0, 1) := by decide +kernel
theorem dX3_operandAt_1 : decode cX3_operandAt 1 = .ok (.iload_n 1, 1) := by decide +kernel
theorem dX3_operandAt_2 : decode cX3_operandAt 2 = .ok (.invokevirtual 22, 3) := by decide +kernel
theorem dX3_operandAt_5 : decode cX3_operandAt 5 = .ok (.ifCond .eq 12, 3) := by decide +kernel
theorem dX3_operandAt_8 : decode cX3_operandAt 8 = .ok (.aload_n 0, 1) := by decide +kernel
theorem dX3_operandAt_9 : decode cX3_operandAt 9 = .ok (.getfield 15, 3) := by decide +kernel
theorem dX3_operandAt_12 : decode cX3_operandAt 12 = .ok (.iload_n 1, 1) := by decide +kernel
theorem dX3_operandAt_13 : decode cX3_operandAt 13 = .ok (.iaload, 1) := by decide +kernel
theorem dX3_operandAt_14 : decode cX3_operandAt 14 = .ok (.goto 4, 3) := by decide +kernel
theorem dX3_operandAt_17 : decode cX3_operandAt 17 = .ok (.iconst 0, 1) := by decide +kernel
theorem dX3_operandAt_18 : decode cX3_operandAt 18 = .ok (.ireturn, 1) := by decide +kernel
theorem dX4_init_0 : decode cX4_init 0 = .ok (.aload_n 0, 1) := by decide +kernel
theorem dX4_init_1 : decode cX4_init 1 = .ok (.invokespecial 3, 3) := by decide +kernel
theorem dX4_init_4 : decode cX4_init 4 = .ok (.aload_n 0, 1) := by decide +kernel
theorem dX4_init_5 : decode cX4_init 5 = .ok (.bipush 8, 2) := by decide +kernel
theorem dX4_init_7 : decode cX4_init 7 = .ok (.anewarray 9, 3) := by decide +kernel
theorem dX4_init_10 : decode cX4_init 10 = .ok (.putfield 11, 3) := by decide +kernel
theorem dX4_init_13 : decode cX4_init 13 = .ok (.aload_n 0, 1) := by decide +kernel
theorem dX4_init_14 : decode cX4_init 14 = .ok (.iconst 0, 1) := by decide +kernel
theorem dX4_init_15 : decode cX4_init 15 = .ok (.putfield 17, 3) := by decide +kernel
theorem dX4_init_18 : decode cX4_init 18 = .ok (.return_, 1) := by decide +kernel
theorem dX4_clear_0 : decode cX4_clear 0 = .ok (.aload_n 0, 1) := by decide +kernel
theorem dX4_clear_1 : decode cX4_clear 1 = .ok (.iconst 0, 1) := by decide +kernel
theorem dX4_clear_2 : decode cX4_clear 2 = .ok (.putfield 17, 3) := by decide +kernel
theorem dX4_clear_5 : decode cX4_clear 5 = .ok (.return_, 1) := by decide +kernel
theorem dX4_putLast_0 : decode cX4_putLast 0 = .ok (.aload_n 0, 1) := by decide +kernel
theorem dX4_putLast_1 : decode cX4_putLast 1 = .ok (.getfield 17, 3) := by decide +kernel
theorem dX4_putLast_4 : decode cX4_putLast 4 = .ok (.ifCond .lt 32, 3) := by decide +kernel
theorem dX4_putLast_7 : decode cX4_putLast 7 = .ok (.aload_n 0, 1) := by decide +kernel
theorem dX4_putLast_8 : decode cX4_putLast 8 = .ok (.getfield 17, 3) := by decide +kernel
theorem dX4_putLast_11 : decode cX4_putLast 11 = .ok (.bipush 8, 2) := by decide +kernel
theorem dX4_putLast_13 : decode cX4_putLast 13 = .ok (.if_icmp .ge 23, 3) := by decide +kernel
theorem dX4_putLast_16 : decode cX4_putLast 16 = .ok (.aload_n 0, 1) := by decide +kernel
theorem dX4_putLast_17 : decode cX4_putLast 17 = .ok (.getfield 11, 3) := by decide +kernel
theorem dX4_putLast_20 : decode cX4_putLast 20 = .ok (.aload_n 0, 1) := by decide +kernel
theorem dX4_putLast_21 : decode cX4_putLast 21 = .ok (.getfield 17, 3) := by decide +kernel
theorem dX4_putLast_24 : decode cX4_putLast 24 = .ok (.aload_n 1, 1) := by decide +kernel
theorem dX4_putLast_25 : decode cX4_putLast 25 = .ok (.aastore, 1) := by decide +kernel
theorem dX4_putLast_26 : decode cX4_putLast 26 = .ok (.aload_n 0, 1) := by decide +kernel
theorem dX4_putLast_27 : decode cX4_putLast 27 = .ok (.dup, 1) := by decide +kernel
theorem dX4_putLast_28 : decode cX4_putLast 28 = .ok (.getfield 17, 3) := by decide +kernel
theorem dX4_putLast_31 : decode cX4_putLast 31 = .ok (.iconst 1, 1) := by decide +kernel
theorem dX4_putLast_32 : decode cX4_putLast 32 = .ok (.iadd, 1) := by decide +kernel
theorem dX4_putLast_33 : decode cX4_putLast 33 = .ok (.putfield 17, 3) := by decide +kernel
theorem dX4_putLast_36 : decode cX4_putLast 36 = .ok (.return_, 1) := by decide +kernel
theorem dX4_putFirst_0 : decode cX4_putFirst 0 = .ok (.aload_n 0, 1) := by decide +kernel
theorem dX4_putFirst_1 : decode cX4_putFirst 1 = .ok (.getfield 17, 3) := by decide +kernel
theorem dX4_putFirst_4 : decode cX4_putFirst 4 = .ok (.bipush 8, 2) := by decide +kernel
theorem dX4_putFirst_6 : decode cX4_putFirst 6 = .ok (.if_icmp .ge 49, 3) := by decide +kernel
theorem dX4_putFirst_9 : decode cX4_putFirst 9 = .ok (.aload_n 0, 1) := by decide +kernel
theorem dX4_putFirst_10 : decode cX4_putFirst 10 = .ok (.getfield 17, 3) := by decide +kernel
theorem dX4_putFirst_13 : decode cX4_putFirst 13 = .ok (.istore_n 2, 1) := by decide +kernel
theorem dX4_putFirst_14 : decode cX4_putFirst 14 = .ok (.iload_n 2, 1) := by decide +kernel
theorem dX4_putFirst_15 : decode cX4_putFirst 15 = .ok (.ifCond .le 23, 3) := by decide +kernel
theorem dX4_putFirst_18 : decode cX4_putFirst 18 = .ok (.aload_n 0, 1) := by decide +kernel
theorem dX4_putFirst_19 : decode cX4_putFirst 19 = .ok (.getfield 11, 3) := by decide +kernel
theorem dX4_putFirst_22 : decode cX4_putFirst 22 = .ok (.iload_n 2, 1) := by decide +kernel
theorem dX4_putFirst_23 : decode cX4_putFirst 23 = .ok (.aload_n 0, 1) := by decide +kernel
theorem dX4_putFirst_24 : decode cX4_putFirst 24 = .ok (.getfield 11, 3) := by decide +kernel
theorem dX4_putFirst_27 : decode cX4_putFirst 27 = .ok (.iload_n 2, 1) := by decide +kernel
theorem dX4_putFirst_28 : decode cX4_putFirst 28 = .ok (.iconst 1, 1) := by decide +kernel
theorem dX4_putFirst_29 : decode cX4_putFirst 29 = .ok (.isub, 1) := by decide +kernel
theorem dX4_putFirst_30 : decode cX4_putFirst 30 = .ok (.aaload, 1) := by decide +kernel
theorem dX4_putFirst_31 : decode cX4_putFirst 31 = .ok (.aastore, 1) := by decide +kernel
theorem dX4_putFirst_32 : decode cX4_putFirst 32 = .ok (.iinc 2 (-1), 3) := by decide +kernel
theorem dX4_putFirst_35 : decode cX4_putFirst 35 = .ok (.goto (-21), 3) := by decide +kernel
theorem dX4_putFirst_38 : decode cX4_putFirst 38 = .ok (.aload_n 0, 1) := by decide +kernel
theorem dX4_putFirst_39 : decode cX4_putFirst 39 = .ok (.getfield 11, 3) := by decide +kernel
theorem dX4_putFirst_42 : decode cX4_putFirst 42 = .ok (.iconst 0, 1) := by decide +kernel
theorem dX4_putFirst_43 : decode cX4_putFirst 43 = .ok (.aload_n 1, 1) := by decide +kernel
theorem dX4_putFirst_44 : decode cX4_putFirst 44 = .ok (.aastore, 1) := by decide +kernel
theorem dX4_putFirst_45 : decode cX4_putFirst 45 = .ok (.aload_n 0, 1) := by decide +kernel
theorem dX4_putFirst_46 : decode cX4_putFirst 46 = .ok (.dup, 1) := by decide +kernel
theorem dX4_putFirst_47 : decode cX4_putFirst 47 = .ok (.getfield 17, 3) := by decide +kernel
theorem dX4_putFirst_50 : decode cX4_putFirst 50 = .ok (.iconst 1, 1) := by decide +kernel
theorem dX4_putFirst_51 : decode cX4_putFirst 51 = .ok (.iadd, 1) := by decide +kernel
theorem dX4_putFirst_52 : decode cX4_putFirst 52 = .ok (.putfield 17, 3) := by decide +kernel
theorem dX4_putFirst_55 : decode cX4_putFirst 55 = .ok (.return_, 1) := by decide +kernel
theorem dX4_takeFirst_0 : decode cX4_takeFirst 0 = .ok (.aload_n 0, 1) := by decide +kernel
theorem dX4_takeFirst_1 : decode cX4_takeFirst 1 = .ok (.getfield 17, 3) := by decide +kernel
theorem dX4_takeFirst_4 : decode cX4_takeFirst 4 = .ok (.ifCond .gt 5, 3) := by decide +kernel
theorem dX4_takeFirst_7 : decode cX4_takeFirst 7 = .ok (.aconst_null, 1) := by decide +kernel
theorem dX4_takeFirst_8 : decode cX4_takeFirst 8 = .ok (.areturn, 1) := by decide +kernel
theorem dX4_takeFirst_9 : decode cX4_takeFirst 9 = .ok (.aload_n 0, 1) := by decide +kernel
theorem dX4_takeFirst_10 : decode cX4_takeFirst 10 = .ok (.getfield 11, 3) := by decide +kernel
theorem dX4_takeFirst_13 : decode cX4_takeFirst 13 = .ok (.iconst 0, 1) := by decide +kernel
theorem dX4_takeFirst_14 : decode cX4_takeFirst 14 = .ok (.aaload, 1) := by decide +kernel
theorem dX4_takeFirst_15 : decode cX4_takeFirst 15 = .ok (.astore_n 1, 1) := by decide +kernel
theorem dX4_takeFirst_16 : decode cX4_takeFirst 16 = .ok (.aload_n 0, 1) := by decide +kernel
theorem dX4_takeFirst_17 : decode cX4_takeFirst 17 = .ok (.dup, 1) := by decide +kernel
theorem dX4_takeFirst_18 : decode cX4_takeFirst 18 = .ok (.getfield 17, 3) := by decide +kernel
theorem dX4_takeFirst_21 : decode cX4_takeFirst 21 = .ok (.iconst 1, 1) := by decide +kernel
theorem dX4_takeFirst_22 : decode cX4_takeFirst 22 = .ok (.isub, 1) := by decide +kernel
theorem dX4_takeFirst_23 : decode cX4_takeFirst 23 = .ok (.putfield 17, 3) := by decide +kernel
theorem dX4_takeFirst_26 : decode cX4_takeFirst 26 = .ok (.iconst 0, 1) := by decide +kernel
theorem dX4_takeFirst_27 : decode cX4_takeFirst 27 = .ok (.istore_n 2, 1) := by decide +kernel
theorem dX4_takeFirst_28 : decode cX4_takeFirst 28 = .ok (.iload_n 2, 1) := by decide +kernel
theorem dX4_takeFirst_29 : decode cX4_takeFirst 29 = .ok (.aload_n 0, 1) := by decide +kernel
theorem dX4_takeFirst_30 : decode cX4_takeFirst 30 = .ok (.getfield 17, 3) := by decide +kernel
theorem dX4_takeFirst_33 : decode cX4_takeFirst 33 = .ok (.if_icmp .ge 23, 3) := by decide +kernel
theorem dX4_takeFirst_36 : decode cX4_takeFirst 36 = .ok (.aload_n 0, 1) := by decide +kernel
theorem dX4_takeFirst_37 : decode cX4_takeFirst 37 = .ok (.getfield 11, 3) := by decide +kernel
theorem dX4_takeFirst_40 : decode cX4_takeFirst 40 = .ok (.iload_n 2, 1) := by decide +kernel
theorem dX4_takeFirst_41 : decode cX4_takeFirst 41 = .ok (.aload_n 0, 1) := by decide +kernel
theorem dX4_takeFirst_42 : decode cX4_takeFirst 42 = .ok (.getfield 11, 3) := by decide +kernel
theorem dX4_takeFirst_45 : decode cX4_takeFirst 45 = .ok (.iload_n 2, 1) := by decide +kernel
theorem dX4_takeFirst_46 : decode cX4_takeFirst 46 = .ok (.iconst 1, 1) := by decide +kernel
theorem dX4_takeFirst_47 : decode cX4_takeFirst 47 = .ok (.iadd, 1) := by decide +kernel
theorem dX4_takeFirst_48 : decode cX4_takeFirst 48 = .ok (.aaload, 1) := by decide +kernel
theorem dX4_takeFirst_49 : decode cX4_takeFirst 49 = .ok (.aastore, 1) := by decide +kernel
theorem dX4_takeFirst_50 : decode cX4_takeFirst 50 = .ok (.iinc 2 1, 3) := by decide +kernel
theorem dX4_takeFirst_53 : decode cX4_takeFirst 53 = .ok (.goto (-25), 3) := by decide +kernel
theorem dX4_takeFirst_56 : decode cX4_takeFirst 56 = .ok (.aload_n 1, 1) := by decide +kernel
theorem dX4_takeFirst_57 : decode cX4_takeFirst 57 = .ok (.areturn, 1) := by decide +kernel
theorem dX4_numberAt_0 : decode cX4_numberAt 0 = .ok (.iload_n 1, 1) := by decide +kernel
theorem dX4_numberAt_1 : decode cX4_numberAt 1 = .ok (.ifCond .lt 32, 3) := by decide +kernel
theorem dX4_numberAt_4 : decode cX4_numberAt 4 = .ok (.iload_n 1, 1) := by decide +kernel
theorem dX4_numberAt_5 : decode cX4_numberAt 5 = .ok (.aload_n 0, 1) := by decide +kernel
theorem dX4_numberAt_6 : decode cX4_numberAt 6 = .ok (.getfield 17, 3) := by decide +kernel
theorem dX4_numberAt_9 : decode cX4_numberAt 9 = .ok (.if_icmp .ge 24, 3) := by decide +kernel
theorem dX4_numberAt_12 : decode cX4_numberAt 12 = .ok (.aload_n 0, 1) := by decide +kernel
theorem dX4_numberAt_13 : decode cX4_numberAt 13 = .ok (.getfield 11, 3) := by decide +kernel
theorem dX4_numberAt_16 : decode cX4_numberAt 16 = .ok (.iload_n 1, 1) := by decide +kernel
theorem dX4_numberAt_17 : decode cX4_numberAt 17 = .ok (.aaload, 1) := by decide +kernel
theorem dX4_numberAt_18 : decode cX4_numberAt 18 = .ok (.ifnull 15, 3) := by decide +kernel
theorem dX4_numberAt_21 : decode cX4_numberAt 21 = .ok (.aload_n 0, 1) := by decide +kernel
theorem dX4_numberAt_22 : decode cX4_numberAt 22 = .ok (.getfield 11, 3) := by decide +kernel
theorem dX4_numberAt_25 : decode cX4_numberAt 25 = .ok (.iload_n 1, 1) := by decide +kernel
theorem dX4_numberAt_26 : decode cX4_numberAt 26 = .ok (.aaload, 1) := by decide +kernel
theorem dX4_numberAt_27 : decode cX4_numberAt 27 = .ok (.getfield 21, 3) := by decide +kernel
theorem dX4_numberAt_30 : decode cX4_numberAt 30 = .ok (.goto 4, 3) := by decide +kernel
theorem dX4_numberAt_33 : decode cX4_numberAt 33 = .ok (.iconst (-1), 1) := by decide +kernel
theorem dX4_numberAt_34 : decode cX4_numberAt 34 = .ok (.ireturn, 1) := by decide +kernel
end
section
theorem dX5_init_0 : decode cX5_init 0 = .ok (.aload_n 0, 1) := by decide +kernel
theorem dX5_init_1 : decode cX5_init 1 = .ok (.invokespecial 1, 3) := by decide +kernel
theorem dX5_init_4 : decode cX5_init 4 = .ok (.aload_n 0, 1) := by decide +kernel
theorem dX5_init_5 : decode cX5_init 5 = .ok (.new 7, 3) := by decide +kernel
theorem dX5_init_8 : decode cX5_init 8 = .ok (.dup, 1) := by decide +kernel
theorem dX5_init_9 : decode cX5_init 9 = .ok (.invokespecial 9, 3) := by decide +kernel
theorem dX5_init_12 : decode cX5_init 12 = .ok (.putfield 10, 3) := by decide +kernel
theorem dX5_init_15 : decode cX5_init 15 = .ok (.aload_n 0, 1) := by decide +kernel
theorem dX5_init_16 : decode cX5_init 16 = .ok (.bipush 8, 2) := by decide +kernel
theorem dX5_init_18 : decode cX5_init 18 = .ok (.anewarray 16, 3) := by decide +kernel
theorem dX5_init_21 : decode cX5_init 21 = .ok (.putfield 18, 3) := by decide +kernel
theorem dX5_init_24 : decode cX5_init 24 = .ok (.iconst 0, 1) := by decide +kernel
theorem dX5_init_25 : decode cX5_init 25 = .ok (.istore_n 1, 1) := by decide +kernel
theorem dX5_init_26 : decode cX5_init 26 = .ok (.iload_n 1, 1) := by decide +kernel
theorem dX5_init_27 : decode cX5_init 27 = .ok (.bipush 8, 2) := by decide +kernel
theorem dX5_init_29 : decode cX5_init 29 = .ok (.if_icmp .ge 23, 3) := by decide +kernel
theorem dX5_init_32 : decode cX5_init 32 = .ok (.aload_n 0, 1) := by decide +kernel
theorem dX5_init_33 : decode cX5_init 33 = .ok (.getfield 18, 3) := by decide +kernel
theorem dX5_init_36 : decode cX5_init 36 = .ok (.iload_n 1, 1) := by decide +kernel
theorem dX5_init_37 : decode cX5_init 37 = .ok (.new 16, 3) := by decide +kernel
theorem dX5_init_40 : decode cX5_init 40 = .ok (.dup, 1) := by decide +kernel
theorem dX5_init_41 : decode cX5_init 41 = .ok (.iload_n 1, 1) := by decide +kernel
theorem dX5_init_42 : decode cX5_init 42 = .ok (.invokespecial 22, 3) := by decide +kernel
theorem dX5_init_45 : decode cX5_init 45 = .ok (.aastore, 1) := by decide +kernel
theorem dX5_init_46 : decode cX5_init 46 = .ok (.iinc 1 1, 3) := by decide +kernel
theorem dX5_init_49 : decode cX5_init 49 = .ok (.goto (-23), 3) := by decide +kernel
theorem dX5_init_52 : decode cX5_init 52 = .ok (.aload_n 0, 1) := by decide +kernel
theorem dX5_init_53 : decode cX5_init 53 = .ok (.iconst 4, 1) := by decide +kernel
theorem dX5_init_54 : decode cX5_init 54 = .ok (.anewarray 25, 3) := by decide +kernel
theorem dX5_init_57 : decode cX5_init 57 = .ok (.putfield 27, 3) := by decide +kernel
theorem dX5_init_60 : decode cX5_init 60 = .ok (.iconst 0, 1) := by decide +kernel
theorem dX5_init_61 : decode cX5_init 61 = .ok (.istore_n 1, 1) := by decide +kernel
theorem dX5_init_62 : decode cX5_init 62 = .ok (.iload_n 1, 1) := by decide +kernel
theorem dX5_init_63 : decode cX5_init 63 = .ok (.iconst 4, 1) := by decide +kernel
theorem dX5_init_64 : decode cX5_init 64 = .ok (.if_icmp .ge 23, 3) := by decide +kernel
theorem dX5_init_67 : decode cX5_init 67 = .ok (.aload_n 0, 1) := by decide +kernel
theorem dX5_init_68 : decode cX5_init 68 = .ok (.getfield 27, 3) := by decide +kernel
theorem dX5_init_71 : decode cX5_init 71 = .ok (.iload_n 1, 1) := by decide +kernel
theorem dX5_init_72 : decode cX5_init 72 = .ok (.new 25, 3) := by decide +kernel
theorem dX5_init_75 : decode cX5_init 75 = .ok (.dup, 1) := by decide +kernel
theorem dX5_init_76 : decode cX5_init 76 = .ok (.iload_n 1, 1) := by decide +kernel
theorem dX5_init_77 : decode cX5_init 77 = .ok (.invokespecial 31, 3) := by decide +kernel
theorem dX5_init_80 : decode cX5_init 80 = .ok (.aastore, 1) := by decide +kernel
theorem dX5_init_81 : decode cX5_init 81 = .ok (.iinc 1 1, 3) := by decide +kernel
theorem dX5_init_84 : decode cX5_init 84 = .ok (.goto (-22), 3) := by decide +kernel
theorem dX5_init_87 : decode cX5_init 87 = .ok (.aload_n 0, 1) := by decide +kernel
theorem dX5_init_88 : decode cX5_init 88 = .ok (.new 32, 3) := by decide +kernel
theorem dX5_init_91 : decode cX5_init 91 = .ok (.dup, 1) := by decide +kernel
theorem dX5_init_92 : decode cX5_init 92 = .ok (.invokespecial 34, 3) := by decide +kernel
theorem dX5_init_95 : decode cX5_init 95 = .ok (.putfield 35, 3) := by decide +kernel
theorem dX5_init_98 : decode cX5_init 98 = .ok (.aload_n 0, 1) := by decide +kernel
theorem dX5_init_99 : decode cX5_init 99 = .ok (.new 32, 3) := by decide +kernel
theorem dX5_init_102 : decode cX5_init 102 = .ok (.dup, 1) := by decide +kernel
theorem dX5_init_103 : decode cX5_init 103 = .ok (.invokespecial 34, 3) := by decide +kernel
theorem dX5_init_106 : decode cX5_init 106 = .ok (.putfield 39, 3) := by decide +kernel
theorem dX5_init_109 : decode cX5_init 109 = .ok (.aload_n 0, 1) := by decide +kernel
theorem dX5_init_110 : decode cX5_init 110 = .ok (.new 42, 3) := by decide +kernel
theorem dX5_init_113 : decode cX5_init 113 = .ok (.dup, 1) := by decide +kernel
theorem dX5_init_114 : decode cX5_init 114 = .ok (.invokespecial 44, 3) := by decide +kernel
theorem dX5_init_117 : decode cX5_init 117 = .ok (.putfield 45, 3) := by decide +kernel
theorem dX5_init_120 : decode cX5_init 120 = .ok (.aload_n 0, 1) := by decide +kernel
theorem dX5_init_121 : decode cX5_init 121 = .ok (.aconst_null, 1) := by decide +kernel
theorem dX5_init_122 : decode cX5_init 122 = .ok (.putfield 49, 3) := by decide +kernel
theorem dX5_init_125 : decode cX5_init 125 = .ok (.aload_n 0, 1) := by decide +kernel
theorem dX5_init_126 : decode cX5_init 126 = .ok (.iconst 0, 1) := by decide +kernel
theorem dX5_init_127 : decode cX5_init 127 = .ok (.putfield 53, 3) := by decide +kernel
theorem dX5_init_130 : decode cX5_init 130 = .ok (.return_, 1) := by decide +kernel
theorem dX5_add_0 : decode cX5_add 0 = .ok (.iload_n 1, 1) := by decide +kernel
theorem dX5_add_1 : decode cX5_add 1 = .ok (.ifCond .lt 9, 3) := by decide +kernel
theorem dX5_add_4 : decode cX5_add 4 = .ok (.iload_n 1, 1) := by decide +kernel
theorem dX5_add_5 : decode cX5_add 5 = .ok (.bipush 15, 2) := by decide +kernel
theorem dX5_add_7 : decode cX5_add 7 = .ok (.if_icmp .le 5, 3) := by decide +kernel
theorem dX5_add_10 : decode cX5_add 10 = .ok (.iconst (-1), 1) := by decide +kernel
theorem dX5_add_11 : decode cX5_add 11 = .ok (.ireturn, 1) := by decide +kernel
theorem dX5_add_12 : decode cX5_add 12 = .ok (.iload_n 1, 1) := by decide +kernel
theorem dX5_add_13 : decode cX5_add 13 = .ok (.iload_n 2, 1) := by decide +kernel
theorem dX5_add_14 : decode cX5_add 14 = .ok (.invokestatic 57, 3) := by decide +kernel
theorem dX5_add_17 : decode cX5_add 17 = .ok (.ifCond .ne 6, 3) := by decide +kernel
theorem dX5_add_20 : decode cX5_add 20 = .ok (.bipush (-2), 2) := by decide +kernel
theorem dX5_add_22 : decode cX5_add 22 = .ok (.ireturn, 1) := by decide +kernel
theorem dX5_add_23 : decode cX5_add 23 = .ok (.aload_n 0, 1) := by decide +kernel
theorem dX5_add_24 : decode cX5_add 24 = .ok (.getfield 10, 3) := by decide +kernel
theorem dX5_add_27 : decode cX5_add 27 = .ok (.getfield 61, 3) := by decide +kernel
theorem dX5_add_30 : decode cX5_add 30 = .ok (.bipush 40, 2) := by decide +kernel
theorem dX5_add_32 : decode cX5_add 32 = .ok (.if_icmp .lt 6, 3) := by decide +kernel
theorem dX5_add_35 : decode cX5_add 35 = .ok (.bipush (-3), 2) := by decide +kernel
theorem dX5_add_37 : decode cX5_add 37 = .ok (.ireturn, 1) := by decide +kernel
theorem dX5_add_38 : decode cX5_add 38 = .ok (.aload_n 0, 1) := by decide +kernel
theorem dX5_add_39 : decode cX5_add 39 = .ok (.getfield 10, 3) := by decide +kernel
theorem dX5_add_42 : decode cX5_add 42 = .ok (.iload_n 1, 1) := by decide +kernel
theorem dX5_add_43 : decode cX5_add 43 = .ok (.iload_n 2, 1) := by decide +kernel
theorem dX5_add_44 : decode cX5_add 44 = .ok (.invokevirtual 64, 3) := by decide +kernel
theorem dX5_add_47 : decode cX5_add 47 = .ok (.ireturn, 1) := by decide +kernel
theorem dX5_start_0 : decode cX5_start 0 = .ok (.iload_n 1, 1) := by decide +kernel
theorem dX5_start_1 : decode cX5_start 1 = .ok (.invokestatic 68, 3) := by decide +kernel
theorem dX5_start_4 : decode cX5_start 4 = .ok (.ifCond .eq 13, 3) := by decide +kernel
theorem dX5_start_7 : decode cX5_start 7 = .ok (.iload_n 2, 1) := by decide +kernel
theorem dX5_start_8 : decode cX5_start 8 = .ok (.ifCond .lt 9, 3) := by decide +kernel
theorem dX5_start_11 : decode cX5_start 11 = .ok (.iload_n 2, 1) := by decide +kernel
theorem dX5_start_12 : decode cX5_start 12 = .ok (.bipush 40, 2) := by decide +kernel
theorem dX5_start_14 : decode cX5_start 14 = .ok (.if_icmp .lt 5, 3) := by decide +kernel
theorem dX5_start_17 : decode cX5_start 17 = .ok (.iconst (-1), 1) := by decide +kernel
theorem dX5_start_18 : decode cX5_start 18 = .ok (.ireturn, 1) := by decide +kernel
theorem dX5_start_19 : decode cX5_start 19 = .ok (.aload_n 0, 1) := by decide +kernel
theorem dX5_start_20 : decode cX5_start 20 = .ok (.iload_n 1, 1) := by decide +kernel
theorem dX5_start_21 : decode cX5_start 21 = .ok (.iload_n 2, 1) := by decide +kernel
theorem dX5_start_22 : decode cX5_start 22 = .ok (.iload_n 3, 1) := by decide +kernel
theorem dX5_start_23 : decode cX5_start 23 = .ok (.invokevirtual 72, 3) := by decide +kernel
theorem dX5_start_26 : decode cX5_start 26 = .ok (.istore 4, 2) := by decide +kernel
theorem dX5_start_28 : decode cX5_start 28 = .ok (.iload 4, 2) := by decide +kernel
theorem dX5_start_30 : decode cX5_start 30 = .ok (.iconst (-1), 1) := by decide +kernel
theorem dX5_start_31 : decode cX5_start 31 = .ok (.if_icmp .ne 8, 3) := by decide +kernel
theorem dX5_start_34 : decode cX5_start 34 = .ok (.bipush (-2), 2) := by decide +kernel
theorem dX5_start_36 : decode cX5_start 36 = .ok (.goto 5, 3) := by decide +kernel
theorem dX5_start_39 : decode cX5_start 39 = .ok (.iload 4, 2) := by decide +kernel
theorem dX5_start_41 : decode cX5_start 41 = .ok (.ireturn, 1) := by decide +kernel
theorem dX5_run_0 : decode cX5_run 0 = .ok (.iload_n 1, 1) := by decide +kernel
theorem dX5_run_1 : decode cX5_run 1 = .ok (.ifCond .lt 10, 3) := by decide +kernel
theorem dX5_run_4 : decode cX5_run 4 = .ok (.iload_n 1, 1) := by decide +kernel
theorem dX5_run_5 : decode cX5_run 5 = .ok (.sipush 400, 3) := by decide +kernel
theorem dX5_run_8 : decode cX5_run 8 = .ok (.if_icmp .le 5, 3) := by decide +kernel
theorem dX5_run_11 : decode cX5_run 11 = .ok (.iconst (-1), 1) := by decide +kernel
theorem dX5_run_12 : decode cX5_run 12 = .ok (.ireturn, 1) := by decide +kernel
theorem dX5_run_13 : decode cX5_run 13 = .ok (.iconst 0, 1) := by decide +kernel
theorem dX5_run_14 : decode cX5_run 14 = .ok (.istore_n 2, 1) := by decide +kernel
theorem dX5_run_15 : decode cX5_run 15 = .ok (.iconst 0, 1) := by decide +kernel
theorem dX5_run_16 : decode cX5_run 16 = .ok (.istore_n 3, 1) := by decide +kernel
theorem dX5_run_17 : decode cX5_run 17 = .ok (.iload_n 3, 1) := by decide +kernel
theorem dX5_run_18 : decode cX5_run 18 = .ok (.iload_n 1, 1) := by decide +kernel
theorem dX5_run_19 : decode cX5_run 19 = .ok (.if_icmp .ge 19, 3) := by decide +kernel
theorem dX5_run_22 : decode cX5_run 22 = .ok (.aload_n 0, 1) := by decide +kernel
theorem dX5_run_23 : decode cX5_run 23 = .ok (.invokevirtual 76, 3) := by decide +kernel
theorem dX5_run_26 : decode cX5_run 26 = .ok (.ifCond .ne 6, 3) := by decide +kernel
theorem dX5_run_29 : decode cX5_run 29 = .ok (.iinc 2 1, 3) := by decide +kernel
theorem dX5_run_32 : decode cX5_run 32 = .ok (.iinc 3 1, 3) := by decide +kernel
theorem dX5_run_35 : decode cX5_run 35 = .ok (.goto (-18), 3) := by decide +kernel
theorem dX5_run_38 : decode cX5_run 38 = .ok (.iload_n 2, 1) := by decide +kernel
theorem dX5_run_39 : decode cX5_run 39 = .ok (.ireturn, 1) := by decide +kernel
theorem dX5_setClock_0 : decode cX5_setClock 0 = .ok (.aload_n 0, 1) := by decide +kernel
theorem dX5_setClock_1 : decode cX5_setClock 1 = .ok (.iload_n 1, 1) := by decide +kernel
theorem dX5_setClock_2 : decode cX5_setClock 2 = .ok (.putfield 53, 3) := by decide +kernel
theorem dX5_setClock_5 : decode cX5_setClock 5 = .ok (.return_, 1) := by decide +kernel
theorem dX5_reset_0 : decode cX5_reset 0 = .ok (.iconst 0, 1) := by decide +kernel
theorem dX5_reset_1 : decode cX5_reset 1 = .ok (.istore_n 1, 1) := by decide +kernel
theorem dX5_reset_2 : decode cX5_reset 2 = .ok (.iload_n 1, 1) := by decide +kernel
theorem dX5_reset_3 : decode cX5_reset 3 = .ok (.bipush 8, 2) := by decide +kernel
theorem dX5_reset_5 : decode cX5_reset 5 = .ok (.if_icmp .ge 19, 3) := by decide +kernel
theorem dX5_reset_8 : decode cX5_reset 8 = .ok (.aload_n 0, 1) := by decide +kernel
theorem dX5_reset_9 : decode cX5_reset 9 = .ok (.getfield 18, 3) := by decide +kernel
theorem dX5_reset_12 : decode cX5_reset 12 = .ok (.iload_n 1, 1) := by decide +kernel
theorem dX5_reset_13 : decode cX5_reset 13 = .ok (.aaload, 1) := by decide +kernel
theorem dX5_reset_14 : decode cX5_reset 14 = .ok (.iconst 0, 1) := by decide +kernel
theorem dX5_reset_15 : decode cX5_reset 15 = .ok (.putfield 80, 3) := by decide +kernel
theorem dX5_reset_18 : decode cX5_reset 18 = .ok (.iinc 1 1, 3) := by decide +kernel
theorem dX5_reset_21 : decode cX5_reset 21 = .ok (.goto (-19), 3) := by decide +kernel
theorem dX5_reset_24 : decode cX5_reset 24 = .ok (.iconst 0, 1) := by decide +kernel
theorem dX5_reset_25 : decode cX5_reset 25 = .ok (.istore_n 1, 1) := by decide +kernel
theorem dX5_reset_26 : decode cX5_reset 26 = .ok (.iload_n 1, 1) := by decide +kernel
theorem dX5_reset_27 : decode cX5_reset 27 = .ok (.iconst 4, 1) := by decide +kernel
theorem dX5_reset_28 : decode cX5_reset 28 = .ok (.if_icmp .ge 18, 3) := by decide +kernel
theorem dX5_reset_31 : decode cX5_reset 31 = .ok (.aload_n 0, 1) := by decide +kernel
theorem dX5_reset_32 : decode cX5_reset 32 = .ok (.getfield 27, 3) := by decide +kernel
theorem dX5_reset_35 : decode cX5_reset 35 = .ok (.iload_n 1, 1) := by decide +kernel
theorem dX5_reset_36 : decode cX5_reset 36 = .ok (.aaload, 1) := by decide +kernel
theorem dX5_reset_37 : decode cX5_reset 37 = .ok (.invokevirtual 83, 3) := by decide +kernel
theorem dX5_reset_40 : decode cX5_reset 40 = .ok (.iinc 1 1, 3) := by decide +kernel
theorem dX5_reset_43 : decode cX5_reset 43 = .ok (.goto (-17), 3) := by decide +kernel
theorem dX5_reset_46 : decode cX5_reset 46 = .ok (.aload_n 0, 1) := by decide +kernel
theorem dX5_reset_47 : decode cX5_reset 47 = .ok (.getfield 35, 3) := by decide +kernel
theorem dX5_reset_50 : decode cX5_reset 50 = .ok (.invokevirtual 86, 3) := by decide +kernel
theorem dX5_reset_53 : decode cX5_reset 53 = .ok (.aload_n 0, 1) := by decide +kernel
theorem dX5_reset_54 : decode cX5_reset 54 = .ok (.getfield 39, 3) := by decide +kernel
theorem dX5_reset_57 : decode cX5_reset 57 = .ok (.invokevirtual 86, 3) := by decide +kernel
theorem dX5_reset_60 : decode cX5_reset 60 = .ok (.aload_n 0, 1) := by decide +kernel
theorem dX5_reset_61 : decode cX5_reset 61 = .ok (.aconst_null, 1) := by decide +kernel
theorem dX5_reset_62 : decode cX5_reset 62 = .ok (.putfield 49, 3) := by decide +kernel
theorem dX5_reset_65 : decode cX5_reset 65 = .ok (.return_, 1) := by decide +kernel
theorem dX5_clock_0 : decode cX5_clock 0 = .ok (.aload_n 0, 1) := by decide +kernel
theorem dX5_clock_1 : decode cX5_clock 1 = .ok (.getfield 53, 3) := by decide +kernel
theorem dX5_clock_4 : decode cX5_clock 4 = .ok (.ireturn, 1) := by decide +kernel
theorem dX5_running_0 : decode cX5_running 0 = .ok (.aload_n 0, 1) := by decide +kernel
theorem dX5_running_1 : decode cX5_running 1 = .ok (.getfield 49, 3) := by decide +kernel
theorem dX5_running_4 : decode cX5_running 4 = .ok (.ifnonnull 7, 3) := by decide +kernel
theorem dX5_running_7 : decode cX5_running 7 = .ok (.iconst (-1), 1) := by decide +kernel
theorem dX5_running_8 : decode cX5_running 8 = .ok (.goto 10, 3) := by decide +kernel
theorem dX5_running_11 : decode cX5_running 11 = .ok (.aload_n 0, 1) := by decide +kernel
theorem dX5_running_12 : decode cX5_running 12 = .ok (.getfield 49, 3) := by decide +kernel
theorem dX5_running_15 : decode cX5_running 15 = .ok (.getfield 87, 3) := by decide +kernel
theorem dX5_running_18 : decode cX5_running 18 = .ok (.ireturn, 1) := by decide +kernel
theorem dX5_state_0 : decode cX5_state 0 = .ok (.iload_n 1, 1) := by decide +kernel
theorem dX5_state_1 : decode cX5_state 1 = .ok (.invokestatic 90, 3) := by decide +kernel
theorem dX5_state_4 : decode cX5_state 4 = .ok (.ifCond .eq 15, 3) := by decide +kernel
theorem dX5_state_7 : decode cX5_state 7 = .ok (.aload_n 0, 1) := by decide +kernel
theorem dX5_state_8 : decode cX5_state 8 = .ok (.getfield 18, 3) := by decide +kernel
theorem dX5_state_11 : decode cX5_state 11 = .ok (.iload_n 1, 1) := by decide +kernel
theorem dX5_state_12 : decode cX5_state 12 = .ok (.aaload, 1) := by decide +kernel
theorem dX5_state_13 : decode cX5_state 13 = .ok (.getfield 80, 3) := by decide +kernel
theorem dX5_state_16 : decode cX5_state 16 = .ok (.goto 4, 3) := by decide +kernel
theorem dX5_state_19 : decode cX5_state 19 = .ok (.iconst (-1), 1) := by decide +kernel
theorem dX5_state_20 : decode cX5_state 20 = .ok (.ireturn, 1) := by decide +kernel
theorem dX5_look_0 : decode cX5_look 0 = .ok (.iload_n 1, 1) := by decide +kernel
theorem dX5_look_1 : decode cX5_look 1 = .ok (.invokestatic 90, 3) := by decide +kernel
theorem dX5_look_4 : decode cX5_look 4 = .ok (.ifCond .eq 15, 3) := by decide +kernel
theorem dX5_look_7 : decode cX5_look 7 = .ok (.aload_n 0, 1) := by decide +kernel
theorem dX5_look_8 : decode cX5_look 8 = .ok (.getfield 18, 3) := by decide +kernel
theorem dX5_look_11 : decode cX5_look 11 = .ok (.iload_n 1, 1) := by decide +kernel
theorem dX5_look_12 : decode cX5_look 12 = .ok (.aaload, 1) := by decide +kernel
theorem dX5_look_13 : decode cX5_look 13 = .ok (.getfield 80, 3) := by decide +kernel
theorem dX5_look_16 : decode cX5_look 16 = .ok (.ifCond .ne 7, 3) := by decide +kernel
theorem dX5_look_19 : decode cX5_look 19 = .ok (.ldc2_w 93, 3) := by decide +kernel
theorem dX5_look_22 : decode cX5_look 22 = .ok (.lreturn, 1) := by decide +kernel
theorem dX5_look_23 : decode cX5_look 23 = .ok (.aload_n 0, 1) := by decide +kernel
theorem dX5_look_24 : decode cX5_look 24 = .ok (.getfield 18, 3) := by decide +kernel
theorem dX5_look_27 : decode cX5_look 27 = .ok (.iload_n 1, 1) := by decide +kernel
theorem dX5_look_28 : decode cX5_look 28 = .ok (.aaload, 1) := by decide +kernel
theorem dX5_look_29 : decode cX5_look 29 = .ok (.iload_n 2, 1) := by decide +kernel
theorem dX5_look_30 : decode cX5_look 30 = .ok (.invokevirtual 95, 3) := by decide +kernel
theorem dX5_look_33 : decode cX5_look 33 = .ok (.lreturn, 1) := by decide +kernel
theorem dX5_waiting_0 : decode cX5_waiting 0 = .ok (.iload_n 1, 1) := by decide +kernel
theorem dX5_waiting_1 : decode cX5_waiting 1 = .ok (.invokestatic 68, 3) := by decide +kernel
theorem dX5_waiting_4 : decode cX5_waiting 4 = .ok (.ifCond .eq 15, 3) := by decide +kernel
theorem dX5_waiting_7 : decode cX5_waiting 7 = .ok (.aload_n 0, 1) := by decide +kernel
theorem dX5_waiting_8 : decode cX5_waiting 8 = .ok (.iload_n 1, 1) := by decide +kernel
theorem dX5_waiting_9 : decode cX5_waiting 9 = .ok (.invokevirtual 99, 3) := by decide +kernel
theorem dX5_waiting_12 : decode cX5_waiting 12 = .ok (.iload_n 2, 1) := by decide +kernel
theorem dX5_waiting_13 : decode cX5_waiting 13 = .ok (.invokevirtual 103, 3) := by decide +kernel
theorem dX5_waiting_16 : decode cX5_waiting 16 = .ok (.goto 4, 3) := by decide +kernel
theorem dX5_waiting_19 : decode cX5_waiting 19 = .ok (.iconst (-1), 1) := by decide +kernel
theorem dX5_waiting_20 : decode cX5_waiting 20 = .ok (.ireturn, 1) := by decide +kernel
theorem dX5_channel_0 : decode cX5_channel 0 = .ok (.aload_n 0, 1) := by decide +kernel
theorem dX5_channel_1 : decode cX5_channel 1 = .ok (.iload_n 1, 1) := by decide +kernel
theorem dX5_channel_2 : decode cX5_channel 2 = .ok (.invokevirtual 107, 3) := by decide +kernel
theorem dX5_channel_5 : decode cX5_channel 5 = .ok (.astore_n 2, 1) := by decide +kernel
theorem dX5_channel_6 : decode cX5_channel 6 = .ok (.aload_n 2, 1) := by decide +kernel
theorem dX5_channel_7 : decode cX5_channel 7 = .ok (.ifnonnull 7, 3) := by decide +kernel
theorem dX5_channel_10 : decode cX5_channel 10 = .ok (.iconst (-1), 1) := by decide +kernel
theorem dX5_channel_11 : decode cX5_channel 11 = .ok (.goto 7, 3) := by decide +kernel
theorem dX5_channel_14 : decode cX5_channel 14 = .ok (.aload_n 2, 1) := by decide +kernel
theorem dX5_channel_15 : decode cX5_channel 15 = .ok (.invokevirtual 111, 3) := by decide +kernel
theorem dX5_channel_18 : decode cX5_channel 18 = .ok (.ireturn, 1) := by decide +kernel
theorem dX5_messages_0 : decode cX5_messages 0 = .ok (.aload_n 0, 1) := by decide +kernel
theorem dX5_messages_1 : decode cX5_messages 1 = .ok (.getfield 45, 3) := by decide +kernel
theorem dX5_messages_4 : decode cX5_messages 4 = .ok (.getfield 115, 3) := by decide +kernel
theorem dX5_messages_7 : decode cX5_messages 7 = .ok (.ireturn, 1) := by decide +kernel
theorem dX5_message_0 : decode cX5_message 0 = .ok (.aload_n 0, 1) := by decide +kernel
theorem dX5_message_1 : decode cX5_message 1 = .ok (.getfield 45, 3) := by decide +kernel
theorem dX5_message_4 : decode cX5_message 4 = .ok (.iload_n 1, 1) := by decide +kernel
theorem dX5_message_5 : decode cX5_message 5 = .ok (.iload_n 2, 1) := by decide +kernel
theorem dX5_message_6 : decode cX5_message 6 = .ok (.invokevirtual 118, 3) := by decide +kernel
theorem dX5_message_9 : decode cX5_message 9 = .ok (.lreturn, 1) := by decide +kernel
theorem dX5_isPriority_0 : decode cX5_isPriority 0 = .ok (.iload_n 0, 1) := by decide +kernel
theorem dX5_isPriority_1 : decode cX5_isPriority 1 = .ok (.ifCond .eq 8, 3) := by decide +kernel
theorem dX5_isPriority_4 : decode cX5_isPriority 4 = .ok (.iload_n 0, 1) := by decide +kernel
theorem dX5_isPriority_5 : decode cX5_isPriority 5 = .ok (.iconst 1, 1) := by decide +kernel
theorem dX5_isPriority_6 : decode cX5_isPriority 6 = .ok (.if_icmp .ne 7, 3) := by decide +kernel
theorem dX5_isPriority_9 : decode cX5_isPriority 9 = .ok (.iconst 1, 1) := by decide +kernel
theorem dX5_isPriority_10 : decode cX5_isPriority 10 = .ok (.goto 4, 3) := by decide +kernel
theorem dX5_isPriority_13 : decode cX5_isPriority 13 = .ok (.iconst 0, 1) := by decide +kernel
theorem dX5_isPriority_14 : decode cX5_isPriority 14 = .ok (.ireturn, 1) := by decide +kernel
theorem dX5_isProcess_0 : decode cX5_isProcess 0 = .ok (.iload_n 0, 1) := by decide +kernel
theorem dX5_isProcess_1 : decode cX5_isProcess 1 = .ok (.ifCond .lt 13, 3) := by decide +kernel
theorem dX5_isProcess_4 : decode cX5_isProcess 4 = .ok (.iload_n 0, 1) := by decide +kernel
theorem dX5_isProcess_5 : decode cX5_isProcess 5 = .ok (.bipush 8, 2) := by decide +kernel
theorem dX5_isProcess_7 : decode cX5_isProcess 7 = .ok (.if_icmp .ge 7, 3) := by decide +kernel
theorem dX5_isProcess_10 : decode cX5_isProcess 10 = .ok (.iconst 1, 1) := by decide +kernel
theorem dX5_isProcess_11 : decode cX5_isProcess 11 = .ok (.goto 4, 3) := by decide +kernel
theorem dX5_isProcess_14 : decode cX5_isProcess 14 = .ok (.iconst 0, 1) := by decide +kernel
theorem dX5_isProcess_15 : decode cX5_isProcess 15 = .ok (.ireturn, 1) := by decide +kernel
theorem dX5_isOperand_0 : decode cX5_isOperand 0 = .ok (.iload_n 0, 1) := by decide +kernel
theorem dX5_isOperand_1 : decode cX5_isOperand 1 = .ok (.tableswitch 129 2 14 #[67, 67, 129, 129, 129, 129, 97, 97, 82, 82, 129, 129, 113], 67) := by decide +kernel
theorem dX5_isOperand_68 : decode cX5_isOperand 68 = .ok (.iload_n 1, 1) := by decide +kernel
theorem dX5_isOperand_69 : decode cX5_isOperand 69 = .ok (.ifCond .lt 12, 3) := by decide +kernel
theorem dX5_isOperand_72 : decode cX5_isOperand 72 = .ok (.iload_n 1, 1) := by decide +kernel
theorem dX5_isOperand_73 : decode cX5_isOperand 73 = .ok (.iconst 4, 1) := by decide +kernel
theorem dX5_isOperand_74 : decode cX5_isOperand 74 = .ok (.if_icmp .ge 7, 3) := by decide +kernel
theorem dX5_isOperand_77 : decode cX5_isOperand 77 = .ok (.iconst 1, 1) := by decide +kernel
theorem dX5_isOperand_78 : decode cX5_isOperand 78 = .ok (.goto 4, 3) := by decide +kernel
theorem dX5_isOperand_81 : decode cX5_isOperand 81 = .ok (.iconst 0, 1) := by decide +kernel
theorem dX5_isOperand_82 : decode cX5_isOperand 82 = .ok (.ireturn, 1) := by decide +kernel
theorem dX5_isOperand_83 : decode cX5_isOperand 83 = .ok (.iload_n 1, 1) := by decide +kernel
theorem dX5_isOperand_84 : decode cX5_isOperand 84 = .ok (.ifCond .lt 12, 3) := by decide +kernel
theorem dX5_isOperand_87 : decode cX5_isOperand 87 = .ok (.iload_n 1, 1) := by decide +kernel
theorem dX5_isOperand_88 : decode cX5_isOperand 88 = .ok (.iconst 4, 1) := by decide +kernel
theorem dX5_isOperand_89 : decode cX5_isOperand 89 = .ok (.if_icmp .ge 7, 3) := by decide +kernel
theorem dX5_isOperand_92 : decode cX5_isOperand 92 = .ok (.iconst 1, 1) := by decide +kernel
theorem dX5_isOperand_93 : decode cX5_isOperand 93 = .ok (.goto 4, 3) := by decide +kernel
theorem dX5_isOperand_96 : decode cX5_isOperand 96 = .ok (.iconst 0, 1) := by decide +kernel
theorem dX5_isOperand_97 : decode cX5_isOperand 97 = .ok (.ireturn, 1) := by decide +kernel
theorem dX5_isOperand_98 : decode cX5_isOperand 98 = .ok (.iload_n 1, 1) := by decide +kernel
theorem dX5_isOperand_99 : decode cX5_isOperand 99 = .ok (.ifCond .lt 13, 3) := by decide +kernel
theorem dX5_isOperand_102 : decode cX5_isOperand 102 = .ok (.iload_n 1, 1) := by decide +kernel
theorem dX5_isOperand_103 : decode cX5_isOperand 103 = .ok (.bipush 40, 2) := by decide +kernel
theorem dX5_isOperand_105 : decode cX5_isOperand 105 = .ok (.if_icmp .ge 7, 3) := by decide +kernel
theorem dX5_isOperand_108 : decode cX5_isOperand 108 = .ok (.iconst 1, 1) := by decide +kernel
theorem dX5_isOperand_109 : decode cX5_isOperand 109 = .ok (.goto 4, 3) := by decide +kernel
theorem dX5_isOperand_112 : decode cX5_isOperand 112 = .ok (.iconst 0, 1) := by decide +kernel
theorem dX5_isOperand_113 : decode cX5_isOperand 113 = .ok (.ireturn, 1) := by decide +kernel
theorem dX5_isOperand_114 : decode cX5_isOperand 114 = .ok (.iload_n 1, 1) := by decide +kernel
theorem dX5_isOperand_115 : decode cX5_isOperand 115 = .ok (.ifCond .lt 13, 3) := by decide +kernel
theorem dX5_isOperand_118 : decode cX5_isOperand 118 = .ok (.iload_n 1, 1) := by decide +kernel
theorem dX5_isOperand_119 : decode cX5_isOperand 119 = .ok (.bipush 80, 2) := by decide +kernel
theorem dX5_isOperand_121 : decode cX5_isOperand 121 = .ok (.if_icmp .ge 7, 3) := by decide +kernel
theorem dX5_isOperand_124 : decode cX5_isOperand 124 = .ok (.iconst 1, 1) := by decide +kernel
theorem dX5_isOperand_125 : decode cX5_isOperand 125 = .ok (.goto 4, 3) := by decide +kernel
theorem dX5_isOperand_128 : decode cX5_isOperand 128 = .ok (.iconst 0, 1) := by decide +kernel
theorem dX5_isOperand_129 : decode cX5_isOperand 129 = .ok (.ireturn, 1) := by decide +kernel
theorem dX5_isOperand_130 : decode cX5_isOperand 130 = .ok (.iconst 1, 1) := by decide +kernel
theorem dX5_isOperand_131 : decode cX5_isOperand 131 = .ok (.ireturn, 1) := by decide +kernel
theorem dX5_rowOf_0 : decode cX5_rowOf 0 = .ok (.iload_n 1, 1) := by decide +kernel
theorem dX5_rowOf_1 : decode cX5_rowOf 1 = .ok (.ifCond .ne 10, 3) := by decide +kernel
theorem dX5_rowOf_4 : decode cX5_rowOf 4 = .ok (.aload_n 0, 1) := by decide +kernel
theorem dX5_rowOf_5 : decode cX5_rowOf 5 = .ok (.getfield 35, 3) := by decide +kernel
theorem dX5_rowOf_8 : decode cX5_rowOf 8 = .ok (.goto 7, 3) := by decide +kernel
theorem dX5_rowOf_11 : decode cX5_rowOf 11 = .ok (.aload_n 0, 1) := by decide +kernel
theorem dX5_rowOf_12 : decode cX5_rowOf 12 = .ok (.getfield 39, 3) := by decide +kernel
theorem dX5_rowOf_15 : decode cX5_rowOf 15 = .ok (.areturn, 1) := by decide +kernel
theorem dX5_channelAt_0 : decode cX5_channelAt 0 = .ok (.iload_n 1, 1) := by decide +kernel
theorem dX5_channelAt_1 : decode cX5_channelAt 1 = .ok (.ifCond .lt 17, 3) := by decide +kernel
theorem dX5_channelAt_4 : decode cX5_channelAt 4 = .ok (.iload_n 1, 1) := by decide +kernel
theorem dX5_channelAt_5 : decode cX5_channelAt 5 = .ok (.iconst 4, 1) := by decide +kernel
theorem dX5_channelAt_6 : decode cX5_channelAt 6 = .ok (.if_icmp .ge 12, 3) := by decide +kernel
theorem dX5_channelAt_9 : decode cX5_channelAt 9 = .ok (.aload_n 0, 1) := by decide +kernel
theorem dX5_channelAt_10 : decode cX5_channelAt 10 = .ok (.getfield 27, 3) := by decide +kernel
theorem dX5_channelAt_13 : decode cX5_channelAt 13 = .ok (.iload_n 1, 1) := by decide +kernel
theorem dX5_channelAt_14 : decode cX5_channelAt 14 = .ok (.aaload, 1) := by decide +kernel
theorem dX5_channelAt_15 : decode cX5_channelAt 15 = .ok (.goto 4, 3) := by decide +kernel
theorem dX5_channelAt_18 : decode cX5_channelAt 18 = .ok (.aconst_null, 1) := by decide +kernel
theorem dX5_channelAt_19 : decode cX5_channelAt 19 = .ok (.areturn, 1) := by decide +kernel
theorem dX5_leastFree_0 : decode cX5_leastFree 0 = .ok (.iconst 0, 1) := by decide +kernel
theorem dX5_leastFree_1 : decode cX5_leastFree 1 = .ok (.istore_n 1, 1) := by decide +kernel
theorem dX5_leastFree_2 : decode cX5_leastFree 2 = .ok (.iload_n 1, 1) := by decide +kernel
theorem dX5_leastFree_3 : decode cX5_leastFree 3 = .ok (.bipush 8, 2) := by decide +kernel
theorem dX5_leastFree_5 : decode cX5_leastFree 5 = .ok (.if_icmp .ge 28, 3) := by decide +kernel
theorem dX5_leastFree_8 : decode cX5_leastFree 8 = .ok (.aload_n 0, 1) := by decide +kernel
theorem dX5_leastFree_9 : decode cX5_leastFree 9 = .ok (.getfield 18, 3) := by decide +kernel
theorem dX5_leastFree_12 : decode cX5_leastFree 12 = .ok (.iload_n 1, 1) := by decide +kernel
theorem dX5_leastFree_13 : decode cX5_leastFree 13 = .ok (.aaload, 1) := by decide +kernel
theorem dX5_leastFree_14 : decode cX5_leastFree 14 = .ok (.getfield 80, 3) := by decide +kernel
theorem dX5_leastFree_17 : decode cX5_leastFree 17 = .ok (.ifCond .ne 10, 3) := by decide +kernel
theorem dX5_leastFree_20 : decode cX5_leastFree 20 = .ok (.aload_n 0, 1) := by decide +kernel
theorem dX5_leastFree_21 : decode cX5_leastFree 21 = .ok (.getfield 18, 3) := by decide +kernel
theorem dX5_leastFree_24 : decode cX5_leastFree 24 = .ok (.iload_n 1, 1) := by decide +kernel
theorem dX5_leastFree_25 : decode cX5_leastFree 25 = .ok (.aaload, 1) := by decide +kernel
theorem dX5_leastFree_26 : decode cX5_leastFree 26 = .ok (.areturn, 1) := by decide +kernel
theorem dX5_leastFree_27 : decode cX5_leastFree 27 = .ok (.iinc 1 1, 3) := by decide +kernel
theorem dX5_leastFree_30 : decode cX5_leastFree 30 = .ok (.goto (-28), 3) := by decide +kernel
theorem dX5_leastFree_33 : decode cX5_leastFree 33 = .ok (.aconst_null, 1) := by decide +kernel
theorem dX5_leastFree_34 : decode cX5_leastFree 34 = .ok (.areturn, 1) := by decide +kernel
theorem dX5_startLeastFree_0 : decode cX5_startLeastFree 0 = .ok (.aload_n 0, 1) := by decide +kernel
theorem dX5_startLeastFree_1 : decode cX5_startLeastFree 1 = .ok (.invokevirtual 121, 3) := by decide +kernel
theorem dX5_startLeastFree_4 : decode cX5_startLeastFree 4 = .ok (.astore 4, 2) := by decide +kernel
theorem dX5_startLeastFree_6 : decode cX5_startLeastFree 6 = .ok (.aload 4, 2) := by decide +kernel
theorem dX5_startLeastFree_8 : decode cX5_startLeastFree 8 = .ok (.ifnonnull 5, 3) := by decide +kernel
theorem dX5_startLeastFree_11 : decode cX5_startLeastFree 11 = .ok (.iconst (-1), 1) := by decide +kernel
theorem dX5_startLeastFree_12 : decode cX5_startLeastFree 12 = .ok (.ireturn, 1) := by decide +kernel
theorem dX5_startLeastFree_13 : decode cX5_startLeastFree 13 = .ok (.aload 4, 2) := by decide +kernel
theorem dX5_startLeastFree_15 : decode cX5_startLeastFree 15 = .ok (.iload_n 1, 1) := by decide +kernel
theorem dX5_startLeastFree_16 : decode cX5_startLeastFree 16 = .ok (.iload_n 2, 1) := by decide +kernel
theorem dX5_startLeastFree_17 : decode cX5_startLeastFree 17 = .ok (.iload_n 3, 1) := by decide +kernel
theorem dX5_startLeastFree_18 : decode cX5_startLeastFree 18 = .ok (.invokevirtual 125, 3) := by decide +kernel
theorem dX5_startLeastFree_21 : decode cX5_startLeastFree 21 = .ok (.aload_n 0, 1) := by decide +kernel
theorem dX5_startLeastFree_22 : decode cX5_startLeastFree 22 = .ok (.aload 4, 2) := by decide +kernel
theorem dX5_startLeastFree_24 : decode cX5_startLeastFree 24 = .ok (.invokevirtual 129, 3) := by decide +kernel
theorem dX5_startLeastFree_27 : decode cX5_startLeastFree 27 = .ok (.aload 4, 2) := by decide +kernel
theorem dX5_startLeastFree_29 : decode cX5_startLeastFree 29 = .ok (.getfield 87, 3) := by decide +kernel
theorem dX5_startLeastFree_32 : decode cX5_startLeastFree 32 = .ok (.ireturn, 1) := by decide +kernel
theorem dX5_becomeReady_0 : decode cX5_becomeReady 0 = .ok (.aload_n 1, 1) := by decide +kernel
theorem dX5_becomeReady_1 : decode cX5_becomeReady 1 = .ok (.iconst 1, 1) := by decide +kernel
theorem dX5_becomeReady_2 : decode cX5_becomeReady 2 = .ok (.putfield 80, 3) := by decide +kernel
theorem dX5_becomeReady_5 : decode cX5_becomeReady 5 = .ok (.aload_n 0, 1) := by decide +kernel
theorem dX5_becomeReady_6 : decode cX5_becomeReady 6 = .ok (.aload_n 1, 1) := by decide +kernel
theorem dX5_becomeReady_7 : decode cX5_becomeReady 7 = .ok (.getfield 133, 3) := by decide +kernel
theorem dX5_becomeReady_10 : decode cX5_becomeReady 10 = .ok (.invokevirtual 99, 3) := by decide +kernel
theorem dX5_becomeReady_13 : decode cX5_becomeReady 13 = .ok (.aload_n 1, 1) := by decide +kernel
theorem dX5_becomeReady_14 : decode cX5_becomeReady 14 = .ok (.invokevirtual 136, 3) := by decide +kernel
theorem dX5_becomeReady_17 : decode cX5_becomeReady 17 = .ok (.return_, 1) := by decide +kernel
theorem dX5_step_0 : decode cX5_step 0 = .ok (.aload_n 0, 1) := by decide +kernel
theorem dX5_step_1 : decode cX5_step 1 = .ok (.invokevirtual 139, 3) := by decide +kernel
theorem dX5_step_4 : decode cX5_step 4 = .ok (.aload_n 0, 1) := by decide +kernel
theorem dX5_step_5 : decode cX5_step 5 = .ok (.invokevirtual 142, 3) := by decide +kernel
theorem dX5_step_8 : decode cX5_step 8 = .ok (.aload_n 0, 1) := by decide +kernel
theorem dX5_step_9 : decode cX5_step 9 = .ok (.getfield 49, 3) := by decide +kernel
theorem dX5_step_12 : decode cX5_step 12 = .ok (.ifnonnull 7, 3) := by decide +kernel
theorem dX5_step_15 : decode cX5_step 15 = .ok (.aload_n 0, 1) := by decide +kernel
theorem dX5_step_16 : decode cX5_step 16 = .ok (.invokevirtual 145, 3) := by decide +kernel
theorem dX5_step_19 : decode cX5_step 19 = .ok (.aload_n 0, 1) := by decide +kernel
theorem dX5_step_20 : decode cX5_step 20 = .ok (.getfield 49, 3) := by decide +kernel
theorem dX5_step_23 : decode cX5_step 23 = .ok (.astore_n 1, 1) := by decide +kernel
theorem dX5_step_24 : decode cX5_step 24 = .ok (.aload_n 1, 1) := by decide +kernel
theorem dX5_step_25 : decode cX5_step 25 = .ok (.ifnull 21, 3) := by decide +kernel
theorem dX5_step_28 : decode cX5_step 28 = .ok (.aload_n 0, 1) := by decide +kernel
theorem dX5_step_29 : decode cX5_step 29 = .ok (.aload_n 1, 1) := by decide +kernel
theorem dX5_step_30 : decode cX5_step 30 = .ok (.invokevirtual 148, 3) := by decide +kernel
theorem dX5_step_33 : decode cX5_step 33 = .ok (.aload_n 1, 1) := by decide +kernel
theorem dX5_step_34 : decode cX5_step 34 = .ok (.getfield 80, 3) := by decide +kernel
theorem dX5_step_37 : decode cX5_step 37 = .ok (.iconst 2, 1) := by decide +kernel
theorem dX5_step_38 : decode cX5_step 38 = .ok (.if_icmp .eq 8, 3) := by decide +kernel
theorem dX5_step_41 : decode cX5_step 41 = .ok (.aload_n 0, 1) := by decide +kernel
theorem dX5_step_42 : decode cX5_step 42 = .ok (.aconst_null, 1) := by decide +kernel
theorem dX5_step_43 : decode cX5_step 43 = .ok (.putfield 49, 3) := by decide +kernel
theorem dX5_step_46 : decode cX5_step 46 = .ok (.aload_n 0, 1) := by decide +kernel
theorem dX5_step_47 : decode cX5_step 47 = .ok (.dup, 1) := by decide +kernel
theorem dX5_step_48 : decode cX5_step 48 = .ok (.getfield 53, 3) := by decide +kernel
theorem dX5_step_51 : decode cX5_step 51 = .ok (.iconst 1, 1) := by decide +kernel
theorem dX5_step_52 : decode cX5_step 52 = .ok (.iadd, 1) := by decide +kernel
theorem dX5_step_53 : decode cX5_step 53 = .ok (.putfield 53, 3) := by decide +kernel
theorem dX5_step_56 : decode cX5_step 56 = .ok (.aload_n 1, 1) := by decide +kernel
theorem dX5_step_57 : decode cX5_step 57 = .ok (.ifnull 7, 3) := by decide +kernel
theorem dX5_step_60 : decode cX5_step 60 = .ok (.iconst 1, 1) := by decide +kernel
theorem dX5_step_61 : decode cX5_step 61 = .ok (.goto 4, 3) := by decide +kernel
theorem dX5_step_64 : decode cX5_step 64 = .ok (.iconst 0, 1) := by decide +kernel
theorem dX5_step_65 : decode cX5_step 65 = .ok (.ireturn, 1) := by decide +kernel
theorem dX5_wakeThoseWhoseTimeHasCome_0 : decode cX5_wakeThoseWhoseTimeHasCome 0 = .ok (.iconst 0, 1) := by decide +kernel
theorem dX5_wakeThoseWhoseTimeHasCome_1 : decode cX5_wakeThoseWhoseTimeHasCome 1 = .ok (.istore_n 1, 1) := by decide +kernel
theorem dX5_wakeThoseWhoseTimeHasCome_2 : decode cX5_wakeThoseWhoseTimeHasCome 2 = .ok (.iload_n 1, 1) := by decide +kernel
theorem dX5_wakeThoseWhoseTimeHasCome_3 : decode cX5_wakeThoseWhoseTimeHasCome 3 = .ok (.bipush 8, 2) := by decide +kernel
theorem dX5_wakeThoseWhoseTimeHasCome_5 : decode cX5_wakeThoseWhoseTimeHasCome 5 = .ok (.if_icmp .ge 48, 3) := by decide +kernel
theorem dX5_wakeThoseWhoseTimeHasCome_8 : decode cX5_wakeThoseWhoseTimeHasCome 8 = .ok (.aload_n 0, 1) := by decide +kernel
theorem dX5_wakeThoseWhoseTimeHasCome_9 : decode cX5_wakeThoseWhoseTimeHasCome 9 = .ok (.getfield 18, 3) := by decide +kernel
theorem dX5_wakeThoseWhoseTimeHasCome_12 : decode cX5_wakeThoseWhoseTimeHasCome 12 = .ok (.iload_n 1, 1) := by decide +kernel
theorem dX5_wakeThoseWhoseTimeHasCome_13 : decode cX5_wakeThoseWhoseTimeHasCome 13 = .ok (.aaload, 1) := by decide +kernel
theorem dX5_wakeThoseWhoseTimeHasCome_14 : decode cX5_wakeThoseWhoseTimeHasCome 14 = .ok (.getfield 80, 3) := by decide +kernel
theorem dX5_wakeThoseWhoseTimeHasCome_17 : decode cX5_wakeThoseWhoseTimeHasCome 17 = .ok (.iconst 4, 1) := by decide +kernel
theorem dX5_wakeThoseWhoseTimeHasCome_18 : decode cX5_wakeThoseWhoseTimeHasCome 18 = .ok (.if_icmp .ne 29, 3) := by decide +kernel
theorem dX5_wakeThoseWhoseTimeHasCome_21 : decode cX5_wakeThoseWhoseTimeHasCome 21 = .ok (.aload_n 0, 1) := by decide +kernel
theorem dX5_wakeThoseWhoseTimeHasCome_22 : decode cX5_wakeThoseWhoseTimeHasCome 22 = .ok (.aload_n 0, 1) := by decide +kernel
theorem dX5_wakeThoseWhoseTimeHasCome_23 : decode cX5_wakeThoseWhoseTimeHasCome 23 = .ok (.getfield 18, 3) := by decide +kernel
theorem dX5_wakeThoseWhoseTimeHasCome_26 : decode cX5_wakeThoseWhoseTimeHasCome 26 = .ok (.iload_n 1, 1) := by decide +kernel
theorem dX5_wakeThoseWhoseTimeHasCome_27 : decode cX5_wakeThoseWhoseTimeHasCome 27 = .ok (.aaload, 1) := by decide +kernel
theorem dX5_wakeThoseWhoseTimeHasCome_28 : decode cX5_wakeThoseWhoseTimeHasCome 28 = .ok (.getfield 151, 3) := by decide +kernel
theorem dX5_wakeThoseWhoseTimeHasCome_31 : decode cX5_wakeThoseWhoseTimeHasCome 31 = .ok (.invokevirtual 154, 3) := by decide +kernel
theorem dX5_wakeThoseWhoseTimeHasCome_34 : decode cX5_wakeThoseWhoseTimeHasCome 34 = .ok (.ifCond .eq 13, 3) := by decide +kernel
theorem dX5_wakeThoseWhoseTimeHasCome_37 : decode cX5_wakeThoseWhoseTimeHasCome 37 = .ok (.aload_n 0, 1) := by decide +kernel
theorem dX5_wakeThoseWhoseTimeHasCome_38 : decode cX5_wakeThoseWhoseTimeHasCome 38 = .ok (.aload_n 0, 1) := by decide +kernel
theorem dX5_wakeThoseWhoseTimeHasCome_39 : decode cX5_wakeThoseWhoseTimeHasCome 39 = .ok (.getfield 18, 3) := by decide +kernel
theorem dX5_wakeThoseWhoseTimeHasCome_42 : decode cX5_wakeThoseWhoseTimeHasCome 42 = .ok (.iload_n 1, 1) := by decide +kernel
theorem dX5_wakeThoseWhoseTimeHasCome_43 : decode cX5_wakeThoseWhoseTimeHasCome 43 = .ok (.aaload, 1) := by decide +kernel
theorem dX5_wakeThoseWhoseTimeHasCome_44 : decode cX5_wakeThoseWhoseTimeHasCome 44 = .ok (.invokevirtual 129, 3) := by decide +kernel
theorem dX5_wakeThoseWhoseTimeHasCome_47 : decode cX5_wakeThoseWhoseTimeHasCome 47 = .ok (.iinc 1 1, 3) := by decide +kernel
theorem dX5_wakeThoseWhoseTimeHasCome_50 : decode cX5_wakeThoseWhoseTimeHasCome 50 = .ok (.goto (-48), 3) := by decide +kernel
theorem dX5_wakeThoseWhoseTimeHasCome_53 : decode cX5_wakeThoseWhoseTimeHasCome 53 = .ok (.return_, 1) := by decide +kernel
theorem dX5_hasCome_0 : decode cX5_hasCome 0 = .ok (.iload_n 1, 1) := by decide +kernel
theorem dX5_hasCome_1 : decode cX5_hasCome 1 = .ok (.aload_n 0, 1) := by decide +kernel
theorem dX5_hasCome_2 : decode cX5_hasCome 2 = .ok (.getfield 53, 3) := by decide +kernel
theorem dX5_hasCome_5 : decode cX5_hasCome 5 = .ok (.isub, 1) := by decide +kernel
theorem dX5_hasCome_6 : decode cX5_hasCome 6 = .ok (.ifCond .gt 7, 3) := by decide +kernel
theorem dX5_hasCome_9 : decode cX5_hasCome 9 = .ok (.iconst 1, 1) := by decide +kernel
theorem dX5_hasCome_10 : decode cX5_hasCome 10 = .ok (.goto 4, 3) := by decide +kernel
theorem dX5_hasCome_13 : decode cX5_hasCome 13 = .ok (.iconst 0, 1) := by decide +kernel
theorem dX5_hasCome_14 : decode cX5_hasCome 14 = .ok (.ireturn, 1) := by decide +kernel
theorem dX5_giveWayToHigh_0 : decode cX5_giveWayToHigh 0 = .ok (.aload_n 0, 1) := by decide +kernel
theorem dX5_giveWayToHigh_1 : decode cX5_giveWayToHigh 1 = .ok (.getfield 49, 3) := by decide +kernel
theorem dX5_giveWayToHigh_4 : decode cX5_giveWayToHigh 4 = .ok (.ifnull 48, 3) := by decide +kernel
theorem dX5_giveWayToHigh_7 : decode cX5_giveWayToHigh 7 = .ok (.aload_n 0, 1) := by decide +kernel
theorem dX5_giveWayToHigh_8 : decode cX5_giveWayToHigh 8 = .ok (.getfield 49, 3) := by decide +kernel
theorem dX5_giveWayToHigh_11 : decode cX5_giveWayToHigh 11 = .ok (.getfield 133, 3) := by decide +kernel
theorem dX5_giveWayToHigh_14 : decode cX5_giveWayToHigh 14 = .ok (.iconst 1, 1) := by decide +kernel
theorem dX5_giveWayToHigh_15 : decode cX5_giveWayToHigh 15 = .ok (.if_icmp .ne 37, 3) := by decide +kernel
theorem dX5_giveWayToHigh_18 : decode cX5_giveWayToHigh 18 = .ok (.aload_n 0, 1) := by decide +kernel
theorem dX5_giveWayToHigh_19 : decode cX5_giveWayToHigh 19 = .ok (.getfield 35, 3) := by decide +kernel
theorem dX5_giveWayToHigh_22 : decode cX5_giveWayToHigh 22 = .ok (.getfield 157, 3) := by decide +kernel
theorem dX5_giveWayToHigh_25 : decode cX5_giveWayToHigh 25 = .ok (.ifCond .le 27, 3) := by decide +kernel
theorem dX5_giveWayToHigh_28 : decode cX5_giveWayToHigh 28 = .ok (.aload_n 0, 1) := by decide +kernel
theorem dX5_giveWayToHigh_29 : decode cX5_giveWayToHigh 29 = .ok (.getfield 49, 3) := by decide +kernel
theorem dX5_giveWayToHigh_32 : decode cX5_giveWayToHigh 32 = .ok (.iconst 1, 1) := by decide +kernel
theorem dX5_giveWayToHigh_33 : decode cX5_giveWayToHigh 33 = .ok (.putfield 80, 3) := by decide +kernel
theorem dX5_giveWayToHigh_36 : decode cX5_giveWayToHigh 36 = .ok (.aload_n 0, 1) := by decide +kernel
theorem dX5_giveWayToHigh_37 : decode cX5_giveWayToHigh 37 = .ok (.getfield 39, 3) := by decide +kernel
theorem dX5_giveWayToHigh_40 : decode cX5_giveWayToHigh 40 = .ok (.aload_n 0, 1) := by decide +kernel
theorem dX5_giveWayToHigh_41 : decode cX5_giveWayToHigh 41 = .ok (.getfield 49, 3) := by decide +kernel
theorem dX5_giveWayToHigh_44 : decode cX5_giveWayToHigh 44 = .ok (.invokevirtual 158, 3) := by decide +kernel
theorem dX5_giveWayToHigh_47 : decode cX5_giveWayToHigh 47 = .ok (.aload_n 0, 1) := by decide +kernel
theorem dX5_giveWayToHigh_48 : decode cX5_giveWayToHigh 48 = .ok (.aconst_null, 1) := by decide +kernel
theorem dX5_giveWayToHigh_49 : decode cX5_giveWayToHigh 49 = .ok (.putfield 49, 3) := by decide +kernel
theorem dX5_giveWayToHigh_52 : decode cX5_giveWayToHigh 52 = .ok (.return_, 1) := by decide +kernel
theorem dX5_takeNext_0 : decode cX5_takeNext 0 = .ok (.aload_n 0, 1) := by decide +kernel
theorem dX5_takeNext_1 : decode cX5_takeNext 1 = .ok (.aload_n 0, 1) := by decide +kernel
theorem dX5_takeNext_2 : decode cX5_takeNext 2 = .ok (.getfield 35, 3) := by decide +kernel
theorem dX5_takeNext_5 : decode cX5_takeNext 5 = .ok (.getfield 157, 3) := by decide +kernel
theorem dX5_takeNext_8 : decode cX5_takeNext 8 = .ok (.ifCond .le 13, 3) := by decide +kernel
theorem dX5_takeNext_11 : decode cX5_takeNext 11 = .ok (.aload_n 0, 1) := by decide +kernel
theorem dX5_takeNext_12 : decode cX5_takeNext 12 = .ok (.getfield 35, 3) := by decide +kernel
theorem dX5_takeNext_15 : decode cX5_takeNext 15 = .ok (.invokevirtual 161, 3) := by decide +kernel
theorem dX5_takeNext_18 : decode cX5_takeNext 18 = .ok (.goto 10, 3) := by decide +kernel
theorem dX5_takeNext_21 : decode cX5_takeNext 21 = .ok (.aload_n 0, 1) := by decide +kernel
theorem dX5_takeNext_22 : decode cX5_takeNext 22 = .ok (.getfield 39, 3) := by decide +kernel
theorem dX5_takeNext_25 : decode cX5_takeNext 25 = .ok (.invokevirtual 161, 3) := by decide +kernel
theorem dX5_takeNext_28 : decode cX5_takeNext 28 = .ok (.putfield 49, 3) := by decide +kernel
theorem dX5_takeNext_31 : decode cX5_takeNext 31 = .ok (.aload_n 0, 1) := by decide +kernel
theorem dX5_takeNext_32 : decode cX5_takeNext 32 = .ok (.getfield 49, 3) := by decide +kernel
theorem dX5_takeNext_35 : decode cX5_takeNext 35 = .ok (.ifnull 19, 3) := by decide +kernel
theorem dX5_takeNext_38 : decode cX5_takeNext 38 = .ok (.aload_n 0, 1) := by decide +kernel
theorem dX5_takeNext_39 : decode cX5_takeNext 39 = .ok (.getfield 49, 3) := by decide +kernel
theorem dX5_takeNext_42 : decode cX5_takeNext 42 = .ok (.iconst 2, 1) := by decide +kernel
theorem dX5_takeNext_43 : decode cX5_takeNext 43 = .ok (.putfield 80, 3) := by decide +kernel
theorem dX5_takeNext_46 : decode cX5_takeNext 46 = .ok (.aload_n 0, 1) := by decide +kernel
theorem dX5_takeNext_47 : decode cX5_takeNext 47 = .ok (.getfield 49, 3) := by decide +kernel
theorem dX5_takeNext_50 : decode cX5_takeNext 50 = .ok (.iconst 0, 1) := by decide +kernel
theorem dX5_takeNext_51 : decode cX5_takeNext 51 = .ok (.putfield 164, 3) := by decide +kernel
theorem dX5_takeNext_54 : decode cX5_takeNext 54 = .ok (.return_, 1) := by decide +kernel
theorem dX5_execute_0 : decode cX5_execute 0 = .ok (.aload_n 0, 1) := by decide +kernel
theorem dX5_execute_1 : decode cX5_execute 1 = .ok (.getfield 10, 3) := by decide +kernel
theorem dX5_execute_4 : decode cX5_execute 4 = .ok (.aload_n 1, 1) := by decide +kernel
theorem dX5_execute_5 : decode cX5_execute 5 = .ok (.getfield 167, 3) := by decide +kernel
theorem dX5_execute_8 : decode cX5_execute 8 = .ok (.invokevirtual 170, 3) := by decide +kernel
theorem dX5_execute_11 : decode cX5_execute 11 = .ok (.istore_n 2, 1) := by decide +kernel
theorem dX5_execute_12 : decode cX5_execute 12 = .ok (.aload_n 0, 1) := by decide +kernel
theorem dX5_execute_13 : decode cX5_execute 13 = .ok (.getfield 10, 3) := by decide +kernel
theorem dX5_execute_16 : decode cX5_execute 16 = .ok (.aload_n 1, 1) := by decide +kernel
theorem dX5_execute_17 : decode cX5_execute 17 = .ok (.getfield 167, 3) := by decide +kernel
theorem dX5_execute_20 : decode cX5_execute 20 = .ok (.invokevirtual 173, 3) := by decide +kernel
theorem dX5_execute_23 : decode cX5_execute 23 = .ok (.istore_n 3, 1) := by decide +kernel
theorem dX5_execute_24 : decode cX5_execute 24 = .ok (.aload_n 1, 1) := by decide +kernel
theorem dX5_execute_25 : decode cX5_execute 25 = .ok (.dup, 1) := by decide +kernel
theorem dX5_execute_26 : decode cX5_execute 26 = .ok (.getfield 164, 3) := by decide +kernel
theorem dX5_execute_29 : decode cX5_execute 29 = .ok (.iconst 1, 1) := by decide +kernel
theorem dX5_execute_30 : decode cX5_execute 30 = .ok (.iadd, 1) := by decide +kernel
theorem dX5_execute_31 : decode cX5_execute 31 = .ok (.putfield 164, 3) := by decide +kernel
theorem dX5_execute_34 : decode cX5_execute 34 = .ok (.iload_n 2, 1) := by decide +kernel
theorem dX5_execute_35 : decode cX5_execute 35 = .ok (.tableswitch 184 0 15 #[176, 184, 184, 184, 184, 184, 184, 184, 77, 86, 95, 108, 184, 121, 129, 168], 77) := by decide +kernel
theorem dX5_execute_112 : decode cX5_execute 112 = .ok (.aload_n 0, 1) := by decide +kernel
theorem dX5_execute_113 : decode cX5_execute 113 = .ok (.aload_n 1, 1) := by decide +kernel
theorem dX5_execute_114 : decode cX5_execute 114 = .ok (.iload_n 3, 1) := by decide +kernel
theorem dX5_execute_115 : decode cX5_execute 115 = .ok (.invokevirtual 176, 3) := by decide +kernel
theorem dX5_execute_118 : decode cX5_execute 118 = .ok (.goto 118, 3) := by decide +kernel
theorem dX5_execute_121 : decode cX5_execute 121 = .ok (.aload_n 0, 1) := by decide +kernel
theorem dX5_execute_122 : decode cX5_execute 122 = .ok (.aload_n 1, 1) := by decide +kernel
theorem dX5_execute_123 : decode cX5_execute 123 = .ok (.iload_n 3, 1) := by decide +kernel
theorem dX5_execute_124 : decode cX5_execute 124 = .ok (.invokevirtual 180, 3) := by decide +kernel
theorem dX5_execute_127 : decode cX5_execute 127 = .ok (.goto 109, 3) := by decide +kernel
theorem dX5_execute_130 : decode cX5_execute 130 = .ok (.aload_n 0, 1) := by decide +kernel
theorem dX5_execute_131 : decode cX5_execute 131 = .ok (.aload_n 1, 1) := by decide +kernel
theorem dX5_execute_132 : decode cX5_execute 132 = .ok (.aload_n 0, 1) := by decide +kernel
theorem dX5_execute_133 : decode cX5_execute 133 = .ok (.iload_n 3, 1) := by decide +kernel
theorem dX5_execute_134 : decode cX5_execute 134 = .ok (.invokevirtual 107, 3) := by decide +kernel
theorem dX5_execute_137 : decode cX5_execute 137 = .ok (.invokevirtual 183, 3) := by decide +kernel
theorem dX5_execute_140 : decode cX5_execute 140 = .ok (.goto 96, 3) := by decide +kernel
theorem dX5_execute_143 : decode cX5_execute 143 = .ok (.aload_n 0, 1) := by decide +kernel
theorem dX5_execute_144 : decode cX5_execute 144 = .ok (.aload_n 1, 1) := by decide +kernel
theorem dX5_execute_145 : decode cX5_execute 145 = .ok (.aload_n 0, 1) := by decide +kernel
theorem dX5_execute_146 : decode cX5_execute 146 = .ok (.iload_n 3, 1) := by decide +kernel
theorem dX5_execute_147 : decode cX5_execute 147 = .ok (.invokevirtual 107, 3) := by decide +kernel
theorem dX5_execute_150 : decode cX5_execute 150 = .ok (.invokevirtual 187, 3) := by decide +kernel
theorem dX5_execute_153 : decode cX5_execute 153 = .ok (.goto 83, 3) := by decide +kernel
theorem dX5_execute_156 : decode cX5_execute 156 = .ok (.aload_n 0, 1) := by decide +kernel
theorem dX5_execute_157 : decode cX5_execute 157 = .ok (.aload_n 1, 1) := by decide +kernel
theorem dX5_execute_158 : decode cX5_execute 158 = .ok (.invokevirtual 190, 3) := by decide +kernel
theorem dX5_execute_161 : decode cX5_execute 161 = .ok (.goto 75, 3) := by decide +kernel
theorem dX5_execute_164 : decode cX5_execute 164 = .ok (.aload_n 1, 1) := by decide +kernel
theorem dX5_execute_165 : decode cX5_execute 165 = .ok (.aload_n 0, 1) := by decide +kernel
theorem dX5_execute_166 : decode cX5_execute 166 = .ok (.iload_n 3, 1) := by decide +kernel
theorem dX5_execute_167 : decode cX5_execute 167 = .ok (.iconst 1, 1) := by decide +kernel
theorem dX5_execute_168 : decode cX5_execute 168 = .ok (.iand, 1) := by decide +kernel
theorem dX5_execute_169 : decode cX5_execute 169 = .ok (.ifCond .ne 7, 3) := by decide +kernel
theorem dX5_execute_172 : decode cX5_execute 172 = .ok (.iconst 0, 1) := by decide +kernel
theorem dX5_execute_173 : decode cX5_execute 173 = .ok (.goto 4, 3) := by decide +kernel
theorem dX5_execute_176 : decode cX5_execute 176 = .ok (.iconst 1, 1) := by decide +kernel
theorem dX5_execute_177 : decode cX5_execute 177 = .ok (.iload_n 3, 1) := by decide +kernel
theorem dX5_execute_178 : decode cX5_execute 178 = .ok (.iconst 2, 1) := by decide +kernel
theorem dX5_execute_179 : decode cX5_execute 179 = .ok (.idiv, 1) := by decide +kernel
theorem dX5_execute_180 : decode cX5_execute 180 = .ok (.aload_n 1, 1) := by decide +kernel
theorem dX5_execute_181 : decode cX5_execute 181 = .ok (.getfield 193, 3) := by decide +kernel
theorem dX5_execute_184 : decode cX5_execute 184 = .ok (.invokevirtual 72, 3) := by decide +kernel
theorem dX5_execute_187 : decode cX5_execute 187 = .ok (.invokevirtual 196, 3) := by decide +kernel
theorem dX5_execute_190 : decode cX5_execute 190 = .ok (.aload_n 1, 1) := by decide +kernel
theorem dX5_execute_191 : decode cX5_execute 191 = .ok (.dup, 1) := by decide +kernel
theorem dX5_execute_192 : decode cX5_execute 192 = .ok (.getfield 167, 3) := by decide +kernel
theorem dX5_execute_195 : decode cX5_execute 195 = .ok (.iconst 1, 1) := by decide +kernel
theorem dX5_execute_196 : decode cX5_execute 196 = .ok (.iadd, 1) := by decide +kernel
theorem dX5_execute_197 : decode cX5_execute 197 = .ok (.putfield 167, 3) := by decide +kernel
theorem dX5_execute_200 : decode cX5_execute 200 = .ok (.goto 36, 3) := by decide +kernel
theorem dX5_execute_203 : decode cX5_execute 203 = .ok (.aload_n 1, 1) := by decide +kernel
theorem dX5_execute_204 : decode cX5_execute 204 = .ok (.iconst 0, 1) := by decide +kernel
theorem dX5_execute_205 : decode cX5_execute 205 = .ok (.putfield 80, 3) := by decide +kernel
theorem dX5_execute_208 : decode cX5_execute 208 = .ok (.goto 28, 3) := by decide +kernel
theorem dX5_execute_211 : decode cX5_execute 211 = .ok (.aload_n 1, 1) := by decide +kernel
theorem dX5_execute_212 : decode cX5_execute 212 = .ok (.iconst 5, 1) := by decide +kernel
theorem dX5_execute_213 : decode cX5_execute 213 = .ok (.putfield 80, 3) := by decide +kernel
theorem dX5_execute_216 : decode cX5_execute 216 = .ok (.goto 20, 3) := by decide +kernel
theorem dX5_execute_219 : decode cX5_execute 219 = .ok (.aload_n 0, 1) := by decide +kernel
theorem dX5_execute_220 : decode cX5_execute 220 = .ok (.aload_n 1, 1) := by decide +kernel
theorem dX5_execute_221 : decode cX5_execute 221 = .ok (.iload_n 2, 1) := by decide +kernel
theorem dX5_execute_222 : decode cX5_execute 222 = .ok (.iload_n 3, 1) := by decide +kernel
theorem dX5_execute_223 : decode cX5_execute 223 = .ok (.invokevirtual 199, 3) := by decide +kernel
theorem dX5_execute_226 : decode cX5_execute 226 = .ok (.aload_n 1, 1) := by decide +kernel
theorem dX5_execute_227 : decode cX5_execute 227 = .ok (.dup, 1) := by decide +kernel
theorem dX5_execute_228 : decode cX5_execute 228 = .ok (.getfield 167, 3) := by decide +kernel
theorem dX5_execute_231 : decode cX5_execute 231 = .ok (.iconst 1, 1) := by decide +kernel
theorem dX5_execute_232 : decode cX5_execute 232 = .ok (.iadd, 1) := by decide +kernel
theorem dX5_execute_233 : decode cX5_execute 233 = .ok (.putfield 167, 3) := by decide +kernel
theorem dX5_execute_236 : decode cX5_execute 236 = .ok (.return_, 1) := by decide +kernel
theorem dX5_compute_0 : decode cX5_compute 0 = .ok (.iload_n 2, 1) := by decide +kernel
theorem dX5_compute_1 : decode cX5_compute 1 = .ok (.tableswitch 181 1 12 #[63, 71, 83, 99, 115, 131, 147, 181, 181, 181, 181, 170], 63) := by decide +kernel
theorem dX5_compute_64 : decode cX5_compute 64 = .ok (.aload_n 1, 1) := by decide +kernel
theorem dX5_compute_65 : decode cX5_compute 65 = .ok (.iload_n 3, 1) := by decide +kernel
theorem dX5_compute_66 : decode cX5_compute 66 = .ok (.invokevirtual 196, 3) := by decide +kernel
theorem dX5_compute_69 : decode cX5_compute 69 = .ok (.goto 113, 3) := by decide +kernel
theorem dX5_compute_72 : decode cX5_compute 72 = .ok (.aload_n 1, 1) := by decide +kernel
theorem dX5_compute_73 : decode cX5_compute 73 = .ok (.aload_n 1, 1) := by decide +kernel
theorem dX5_compute_74 : decode cX5_compute 74 = .ok (.iload_n 3, 1) := by decide +kernel
theorem dX5_compute_75 : decode cX5_compute 75 = .ok (.invokevirtual 203, 3) := by decide +kernel
theorem dX5_compute_78 : decode cX5_compute 78 = .ok (.invokevirtual 196, 3) := by decide +kernel
theorem dX5_compute_81 : decode cX5_compute 81 = .ok (.goto 101, 3) := by decide +kernel
theorem dX5_compute_84 : decode cX5_compute 84 = .ok (.aload_n 1, 1) := by decide +kernel
theorem dX5_compute_85 : decode cX5_compute 85 = .ok (.iload_n 3, 1) := by decide +kernel
theorem dX5_compute_86 : decode cX5_compute 86 = .ok (.aload_n 1, 1) := by decide +kernel
theorem dX5_compute_87 : decode cX5_compute 87 = .ok (.getfield 193, 3) := by decide +kernel
theorem dX5_compute_90 : decode cX5_compute 90 = .ok (.invokevirtual 206, 3) := by decide +kernel
theorem dX5_compute_93 : decode cX5_compute 93 = .ok (.aload_n 1, 1) := by decide +kernel
theorem dX5_compute_94 : decode cX5_compute 94 = .ok (.invokevirtual 210, 3) := by decide +kernel
theorem dX5_compute_97 : decode cX5_compute 97 = .ok (.goto 85, 3) := by decide +kernel
theorem dX5_compute_100 : decode cX5_compute 100 = .ok (.aload_n 1, 1) := by decide +kernel
theorem dX5_compute_101 : decode cX5_compute 101 = .ok (.aload_n 1, 1) := by decide +kernel
theorem dX5_compute_102 : decode cX5_compute 102 = .ok (.getfield 213, 3) := by decide +kernel
theorem dX5_compute_105 : decode cX5_compute 105 = .ok (.aload_n 1, 1) := by decide +kernel
theorem dX5_compute_106 : decode cX5_compute 106 = .ok (.getfield 193, 3) := by decide +kernel
theorem dX5_compute_109 : decode cX5_compute 109 = .ok (.iadd, 1) := by decide +kernel
theorem dX5_compute_110 : decode cX5_compute 110 = .ok (.invokevirtual 216, 3) := by decide +kernel
theorem dX5_compute_113 : decode cX5_compute 113 = .ok (.goto 69, 3) := by decide +kernel
theorem dX5_compute_116 : decode cX5_compute 116 = .ok (.aload_n 1, 1) := by decide +kernel
theorem dX5_compute_117 : decode cX5_compute 117 = .ok (.aload_n 1, 1) := by decide +kernel
theorem dX5_compute_118 : decode cX5_compute 118 = .ok (.getfield 213, 3) := by decide +kernel
theorem dX5_compute_121 : decode cX5_compute 121 = .ok (.aload_n 1, 1) := by decide +kernel
theorem dX5_compute_122 : decode cX5_compute 122 = .ok (.getfield 193, 3) := by decide +kernel
theorem dX5_compute_125 : decode cX5_compute 125 = .ok (.isub, 1) := by decide +kernel
theorem dX5_compute_126 : decode cX5_compute 126 = .ok (.invokevirtual 216, 3) := by decide +kernel
theorem dX5_compute_129 : decode cX5_compute 129 = .ok (.goto 53, 3) := by decide +kernel
theorem dX5_compute_132 : decode cX5_compute 132 = .ok (.aload_n 1, 1) := by decide +kernel
theorem dX5_compute_133 : decode cX5_compute 133 = .ok (.aload_n 1, 1) := by decide +kernel
theorem dX5_compute_134 : decode cX5_compute 134 = .ok (.getfield 213, 3) := by decide +kernel
theorem dX5_compute_137 : decode cX5_compute 137 = .ok (.aload_n 1, 1) := by decide +kernel
theorem dX5_compute_138 : decode cX5_compute 138 = .ok (.getfield 193, 3) := by decide +kernel
theorem dX5_compute_141 : decode cX5_compute 141 = .ok (.imul, 1) := by decide +kernel
theorem dX5_compute_142 : decode cX5_compute 142 = .ok (.invokevirtual 216, 3) := by decide +kernel
theorem dX5_compute_145 : decode cX5_compute 145 = .ok (.goto 37, 3) := by decide +kernel
theorem dX5_compute_148 : decode cX5_compute 148 = .ok (.aload_n 1, 1) := by decide +kernel
theorem dX5_compute_149 : decode cX5_compute 149 = .ok (.aload_n 1, 1) := by decide +kernel
theorem dX5_compute_150 : decode cX5_compute 150 = .ok (.getfield 213, 3) := by decide +kernel
theorem dX5_compute_153 : decode cX5_compute 153 = .ok (.aload_n 1, 1) := by decide +kernel
theorem dX5_compute_154 : decode cX5_compute 154 = .ok (.getfield 193, 3) := by decide +kernel
theorem dX5_compute_157 : decode cX5_compute 157 = .ok (.if_icmp .le 7, 3) := by decide +kernel
theorem dX5_compute_160 : decode cX5_compute 160 = .ok (.iconst 1, 1) := by decide +kernel
theorem dX5_compute_161 : decode cX5_compute 161 = .ok (.goto 4, 3) := by decide +kernel
theorem dX5_compute_164 : decode cX5_compute 164 = .ok (.iconst 0, 1) := by decide +kernel
theorem dX5_compute_165 : decode cX5_compute 165 = .ok (.invokevirtual 216, 3) := by decide +kernel
theorem dX5_compute_168 : decode cX5_compute 168 = .ok (.goto 14, 3) := by decide +kernel
theorem dX5_compute_171 : decode cX5_compute 171 = .ok (.aload_n 1, 1) := by decide +kernel
theorem dX5_compute_172 : decode cX5_compute 172 = .ok (.aload_n 0, 1) := by decide +kernel
theorem dX5_compute_173 : decode cX5_compute 173 = .ok (.getfield 53, 3) := by decide +kernel
theorem dX5_compute_176 : decode cX5_compute 176 = .ok (.invokevirtual 196, 3) := by decide +kernel
theorem dX5_compute_179 : decode cX5_compute 179 = .ok (.goto 3, 3) := by decide +kernel
theorem dX5_compute_182 : decode cX5_compute 182 = .ok (.return_, 1) := by decide +kernel
theorem dX5_jump_0 : decode cX5_jump 0 = .ok (.aload_n 1, 1) := by decide +kernel
theorem dX5_jump_1 : decode cX5_jump 1 = .ok (.iload_n 2, 1) := by decide +kernel
theorem dX5_jump_2 : decode cX5_jump 2 = .ok (.putfield 167, 3) := by decide +kernel
theorem dX5_jump_5 : decode cX5_jump 5 = .ok (.aload_n 1, 1) := by decide +kernel
theorem dX5_jump_6 : decode cX5_jump 6 = .ok (.getfield 133, 3) := by decide +kernel
theorem dX5_jump_9 : decode cX5_jump 9 = .ok (.iconst 1, 1) := by decide +kernel
theorem dX5_jump_10 : decode cX5_jump 10 = .ok (.if_icmp .ne 17, 3) := by decide +kernel
theorem dX5_jump_13 : decode cX5_jump 13 = .ok (.aload_n 1, 1) := by decide +kernel
theorem dX5_jump_14 : decode cX5_jump 14 = .ok (.getfield 164, 3) := by decide +kernel
theorem dX5_jump_17 : decode cX5_jump 17 = .ok (.bipush 8, 2) := by decide +kernel
theorem dX5_jump_19 : decode cX5_jump 19 = .ok (.if_icmp .lt 8, 3) := by decide +kernel
theorem dX5_jump_22 : decode cX5_jump 22 = .ok (.aload_n 0, 1) := by decide +kernel
theorem dX5_jump_23 : decode cX5_jump 23 = .ok (.aload_n 1, 1) := by decide +kernel
theorem dX5_jump_24 : decode cX5_jump 24 = .ok (.invokevirtual 129, 3) := by decide +kernel
theorem dX5_jump_27 : decode cX5_jump 27 = .ok (.return_, 1) := by decide +kernel
theorem dX5_jumpIfZero_0 : decode cX5_jumpIfZero 0 = .ok (.aload_n 1, 1) := by decide +kernel
theorem dX5_jumpIfZero_1 : decode cX5_jumpIfZero 1 = .ok (.getfield 193, 3) := by decide +kernel
theorem dX5_jumpIfZero_4 : decode cX5_jumpIfZero 4 = .ok (.ifCond .ne 11, 3) := by decide +kernel
theorem dX5_jumpIfZero_7 : decode cX5_jumpIfZero 7 = .ok (.aload_n 1, 1) := by decide +kernel
theorem dX5_jumpIfZero_8 : decode cX5_jumpIfZero 8 = .ok (.iload_n 2, 1) := by decide +kernel
theorem dX5_jumpIfZero_9 : decode cX5_jumpIfZero 9 = .ok (.putfield 167, 3) := by decide +kernel
theorem dX5_jumpIfZero_12 : decode cX5_jumpIfZero 12 = .ok (.goto 17, 3) := by decide +kernel
theorem dX5_jumpIfZero_15 : decode cX5_jumpIfZero 15 = .ok (.aload_n 1, 1) := by decide +kernel
theorem dX5_jumpIfZero_16 : decode cX5_jumpIfZero 16 = .ok (.invokevirtual 210, 3) := by decide +kernel
theorem dX5_jumpIfZero_19 : decode cX5_jumpIfZero 19 = .ok (.aload_n 1, 1) := by decide +kernel
theorem dX5_jumpIfZero_20 : decode cX5_jumpIfZero 20 = .ok (.dup, 1) := by decide +kernel
theorem dX5_jumpIfZero_21 : decode cX5_jumpIfZero 21 = .ok (.getfield 167, 3) := by decide +kernel
theorem dX5_jumpIfZero_24 : decode cX5_jumpIfZero 24 = .ok (.iconst 1, 1) := by decide +kernel
theorem dX5_jumpIfZero_25 : decode cX5_jumpIfZero 25 = .ok (.iadd, 1) := by decide +kernel
theorem dX5_jumpIfZero_26 : decode cX5_jumpIfZero 26 = .ok (.putfield 167, 3) := by decide +kernel
theorem dX5_jumpIfZero_29 : decode cX5_jumpIfZero 29 = .ok (.return_, 1) := by decide +kernel
theorem dX5_awaitTime_0 : decode cX5_awaitTime 0 = .ok (.aload_n 1, 1) := by decide +kernel
theorem dX5_awaitTime_1 : decode cX5_awaitTime 1 = .ok (.getfield 193, 3) := by decide +kernel
theorem dX5_awaitTime_4 : decode cX5_awaitTime 4 = .ok (.istore_n 2, 1) := by decide +kernel
theorem dX5_awaitTime_5 : decode cX5_awaitTime 5 = .ok (.aload_n 1, 1) := by decide +kernel
theorem dX5_awaitTime_6 : decode cX5_awaitTime 6 = .ok (.invokevirtual 210, 3) := by decide +kernel
theorem dX5_awaitTime_9 : decode cX5_awaitTime 9 = .ok (.aload_n 1, 1) := by decide +kernel
theorem dX5_awaitTime_10 : decode cX5_awaitTime 10 = .ok (.dup, 1) := by decide +kernel
theorem dX5_awaitTime_11 : decode cX5_awaitTime 11 = .ok (.getfield 167, 3) := by decide +kernel
theorem dX5_awaitTime_14 : decode cX5_awaitTime 14 = .ok (.iconst 1, 1) := by decide +kernel
theorem dX5_awaitTime_15 : decode cX5_awaitTime 15 = .ok (.iadd, 1) := by decide +kernel
theorem dX5_awaitTime_16 : decode cX5_awaitTime 16 = .ok (.putfield 167, 3) := by decide +kernel
theorem dX5_awaitTime_19 : decode cX5_awaitTime 19 = .ok (.aload_n 0, 1) := by decide +kernel
theorem dX5_awaitTime_20 : decode cX5_awaitTime 20 = .ok (.iload_n 2, 1) := by decide +kernel
theorem dX5_awaitTime_21 : decode cX5_awaitTime 21 = .ok (.invokevirtual 154, 3) := by decide +kernel
theorem dX5_awaitTime_24 : decode cX5_awaitTime 24 = .ok (.ifCond .ne 13, 3) := by decide +kernel
theorem dX5_awaitTime_27 : decode cX5_awaitTime 27 = .ok (.aload_n 1, 1) := by decide +kernel
theorem dX5_awaitTime_28 : decode cX5_awaitTime 28 = .ok (.iload_n 2, 1) := by decide +kernel
theorem dX5_awaitTime_29 : decode cX5_awaitTime 29 = .ok (.putfield 151, 3) := by decide +kernel
theorem dX5_awaitTime_32 : decode cX5_awaitTime 32 = .ok (.aload_n 1, 1) := by decide +kernel
theorem dX5_awaitTime_33 : decode cX5_awaitTime 33 = .ok (.iconst 4, 1) := by decide +kernel
theorem dX5_awaitTime_34 : decode cX5_awaitTime 34 = .ok (.putfield 80, 3) := by decide +kernel
theorem dX5_awaitTime_37 : decode cX5_awaitTime 37 = .ok (.return_, 1) := by decide +kernel
theorem dX5_send_0 : decode cX5_send 0 = .ok (.aload_n 2, 1) := by decide +kernel
theorem dX5_send_1 : decode cX5_send 1 = .ok (.ifnull 10, 3) := by decide +kernel
theorem dX5_send_4 : decode cX5_send 4 = .ok (.aload_n 2, 1) := by decide +kernel
theorem dX5_send_5 : decode cX5_send 5 = .ok (.invokevirtual 219, 3) := by decide +kernel
theorem dX5_send_8 : decode cX5_send 8 = .ok (.ifCond .eq 9, 3) := by decide +kernel
theorem dX5_send_11 : decode cX5_send 11 = .ok (.aload_n 1, 1) := by decide +kernel
theorem dX5_send_12 : decode cX5_send 12 = .ok (.iconst 5, 1) := by decide +kernel
theorem dX5_send_13 : decode cX5_send 13 = .ok (.putfield 80, 3) := by decide +kernel
theorem dX5_send_16 : decode cX5_send 16 = .ok (.return_, 1) := by decide +kernel
theorem dX5_send_17 : decode cX5_send 17 = .ok (.aload_n 1, 1) := by decide +kernel
theorem dX5_send_18 : decode cX5_send 18 = .ok (.getfield 193, 3) := by decide +kernel
theorem dX5_send_21 : decode cX5_send 21 = .ok (.istore_n 3, 1) := by decide +kernel
theorem dX5_send_22 : decode cX5_send 22 = .ok (.aload_n 1, 1) := by decide +kernel
theorem dX5_send_23 : decode cX5_send 23 = .ok (.invokevirtual 210, 3) := by decide +kernel
theorem dX5_send_26 : decode cX5_send 26 = .ok (.aload_n 1, 1) := by decide +kernel
theorem dX5_send_27 : decode cX5_send 27 = .ok (.dup, 1) := by decide +kernel
theorem dX5_send_28 : decode cX5_send 28 = .ok (.getfield 167, 3) := by decide +kernel
theorem dX5_send_31 : decode cX5_send 31 = .ok (.iconst 1, 1) := by decide +kernel
theorem dX5_send_32 : decode cX5_send 32 = .ok (.iadd, 1) := by decide +kernel
theorem dX5_send_33 : decode cX5_send 33 = .ok (.putfield 167, 3) := by decide +kernel
theorem dX5_send_36 : decode cX5_send 36 = .ok (.aload_n 2, 1) := by decide +kernel
theorem dX5_send_37 : decode cX5_send 37 = .ok (.getfield 222, 3) := by decide +kernel
theorem dX5_send_40 : decode cX5_send 40 = .ok (.astore 4, 2) := by decide +kernel
theorem dX5_send_42 : decode cX5_send 42 = .ok (.aload 4, 2) := by decide +kernel
theorem dX5_send_44 : decode cX5_send 44 = .ok (.ifnonnull 11, 3) := by decide +kernel
theorem dX5_send_47 : decode cX5_send 47 = .ok (.aload_n 2, 1) := by decide +kernel
theorem dX5_send_48 : decode cX5_send 48 = .ok (.aload_n 1, 1) := by decide +kernel
theorem dX5_send_49 : decode cX5_send 49 = .ok (.iconst 1, 1) := by decide +kernel
theorem dX5_send_50 : decode cX5_send 50 = .ok (.iload_n 3, 1) := by decide +kernel
theorem dX5_send_51 : decode cX5_send 51 = .ok (.invokevirtual 225, 3) := by decide +kernel
theorem dX5_send_54 : decode cX5_send 54 = .ok (.return_, 1) := by decide +kernel
theorem dX5_send_55 : decode cX5_send 55 = .ok (.aload_n 2, 1) := by decide +kernel
theorem dX5_send_56 : decode cX5_send 56 = .ok (.invokevirtual 83, 3) := by decide +kernel
theorem dX5_send_59 : decode cX5_send 59 = .ok (.aload_n 0, 1) := by decide +kernel
theorem dX5_send_60 : decode cX5_send 60 = .ok (.aload_n 2, 1) := by decide +kernel
theorem dX5_send_61 : decode cX5_send 61 = .ok (.getfield 229, 3) := by decide +kernel
theorem dX5_send_64 : decode cX5_send 64 = .ok (.aload_n 1, 1) := by decide +kernel
theorem dX5_send_65 : decode cX5_send 65 = .ok (.aload 4, 2) := by decide +kernel
theorem dX5_send_67 : decode cX5_send 67 = .ok (.iload_n 3, 1) := by decide +kernel
theorem dX5_send_68 : decode cX5_send 68 = .ok (.invokevirtual 230, 3) := by decide +kernel
theorem dX5_send_71 : decode cX5_send 71 = .ok (.aload_n 0, 1) := by decide +kernel
theorem dX5_send_72 : decode cX5_send 72 = .ok (.aload 4, 2) := by decide +kernel
theorem dX5_send_74 : decode cX5_send 74 = .ok (.invokevirtual 129, 3) := by decide +kernel
theorem dX5_send_77 : decode cX5_send 77 = .ok (.return_, 1) := by decide +kernel
theorem dX5_receive_0 : decode cX5_receive 0 = .ok (.aload_n 2, 1) := by decide +kernel
theorem dX5_receive_1 : decode cX5_receive 1 = .ok (.ifnull 10, 3) := by decide +kernel
theorem dX5_receive_4 : decode cX5_receive 4 = .ok (.aload_n 2, 1) := by decide +kernel
theorem dX5_receive_5 : decode cX5_receive 5 = .ok (.invokevirtual 234, 3) := by decide +kernel
theorem dX5_receive_8 : decode cX5_receive 8 = .ok (.ifCond .eq 9, 3) := by decide +kernel
theorem dX5_receive_11 : decode cX5_receive 11 = .ok (.aload_n 1, 1) := by decide +kernel
theorem dX5_receive_12 : decode cX5_receive 12 = .ok (.iconst 5, 1) := by decide +kernel
theorem dX5_receive_13 : decode cX5_receive 13 = .ok (.putfield 80, 3) := by decide +kernel
theorem dX5_receive_16 : decode cX5_receive 16 = .ok (.return_, 1) := by decide +kernel
theorem dX5_receive_17 : decode cX5_receive 17 = .ok (.aload_n 1, 1) := by decide +kernel
theorem dX5_receive_18 : decode cX5_receive 18 = .ok (.dup, 1) := by decide +kernel
theorem dX5_receive_19 : decode cX5_receive 19 = .ok (.getfield 167, 3) := by decide +kernel
theorem dX5_receive_22 : decode cX5_receive 22 = .ok (.iconst 1, 1) := by decide +kernel
theorem dX5_receive_23 : decode cX5_receive 23 = .ok (.iadd, 1) := by decide +kernel
theorem dX5_receive_24 : decode cX5_receive 24 = .ok (.putfield 167, 3) := by decide +kernel
theorem dX5_receive_27 : decode cX5_receive 27 = .ok (.aload_n 2, 1) := by decide +kernel
theorem dX5_receive_28 : decode cX5_receive 28 = .ok (.getfield 222, 3) := by decide +kernel
theorem dX5_receive_31 : decode cX5_receive 31 = .ok (.astore_n 3, 1) := by decide +kernel
theorem dX5_receive_32 : decode cX5_receive 32 = .ok (.aload_n 3, 1) := by decide +kernel
theorem dX5_receive_33 : decode cX5_receive 33 = .ok (.ifnonnull 11, 3) := by decide +kernel
theorem dX5_receive_36 : decode cX5_receive 36 = .ok (.aload_n 2, 1) := by decide +kernel
theorem dX5_receive_37 : decode cX5_receive 37 = .ok (.aload_n 1, 1) := by decide +kernel
theorem dX5_receive_38 : decode cX5_receive 38 = .ok (.iconst 0, 1) := by decide +kernel
theorem dX5_receive_39 : decode cX5_receive 39 = .ok (.iconst 0, 1) := by decide +kernel
theorem dX5_receive_40 : decode cX5_receive 40 = .ok (.invokevirtual 225, 3) := by decide +kernel
theorem dX5_receive_43 : decode cX5_receive 43 = .ok (.return_, 1) := by decide +kernel
theorem dX5_receive_44 : decode cX5_receive 44 = .ok (.aload_n 2, 1) := by decide +kernel
theorem dX5_receive_45 : decode cX5_receive 45 = .ok (.getfield 237, 3) := by decide +kernel
theorem dX5_receive_48 : decode cX5_receive 48 = .ok (.istore 4, 2) := by decide +kernel
theorem dX5_receive_50 : decode cX5_receive 50 = .ok (.aload_n 2, 1) := by decide +kernel
theorem dX5_receive_51 : decode cX5_receive 51 = .ok (.invokevirtual 83, 3) := by decide +kernel
theorem dX5_receive_54 : decode cX5_receive 54 = .ok (.aload_n 0, 1) := by decide +kernel
theorem dX5_receive_55 : decode cX5_receive 55 = .ok (.aload_n 2, 1) := by decide +kernel
theorem dX5_receive_56 : decode cX5_receive 56 = .ok (.getfield 229, 3) := by decide +kernel
theorem dX5_receive_59 : decode cX5_receive 59 = .ok (.aload_n 3, 1) := by decide +kernel
theorem dX5_receive_60 : decode cX5_receive 60 = .ok (.aload_n 1, 1) := by decide +kernel
theorem dX5_receive_61 : decode cX5_receive 61 = .ok (.iload 4, 2) := by decide +kernel
theorem dX5_receive_63 : decode cX5_receive 63 = .ok (.invokevirtual 230, 3) := by decide +kernel
theorem dX5_receive_66 : decode cX5_receive 66 = .ok (.aload_n 0, 1) := by decide +kernel
theorem dX5_receive_67 : decode cX5_receive 67 = .ok (.aload_n 3, 1) := by decide +kernel
theorem dX5_receive_68 : decode cX5_receive 68 = .ok (.invokevirtual 129, 3) := by decide +kernel
theorem dX5_receive_71 : decode cX5_receive 71 = .ok (.return_, 1) := by decide +kernel
theorem dX5_deliver_0 : decode cX5_deliver 0 = .ok (.aload_n 3, 1) := by decide +kernel
theorem dX5_deliver_1 : decode cX5_deliver 1 = .ok (.iload 4, 2) := by decide +kernel
theorem dX5_deliver_3 : decode cX5_deliver 3 = .ok (.invokevirtual 196, 3) := by decide +kernel
theorem dX5_deliver_6 : decode cX5_deliver 6 = .ok (.aload_n 0, 1) := by decide +kernel
theorem dX5_deliver_7 : decode cX5_deliver 7 = .ok (.getfield 45, 3) := by decide +kernel
theorem dX5_deliver_10 : decode cX5_deliver 10 = .ok (.iload_n 1, 1) := by decide +kernel
theorem dX5_deliver_11 : decode cX5_deliver 11 = .ok (.aload_n 2, 1) := by decide +kernel
theorem dX5_deliver_12 : decode cX5_deliver 12 = .ok (.getfield 87, 3) := by decide +kernel
theorem dX5_deliver_15 : decode cX5_deliver 15 = .ok (.aload_n 3, 1) := by decide +kernel
theorem dX5_deliver_16 : decode cX5_deliver 16 = .ok (.getfield 87, 3) := by decide +kernel
theorem dX5_deliver_19 : decode cX5_deliver 19 = .ok (.iload 4, 2) := by decide +kernel
theorem dX5_deliver_21 : decode cX5_deliver 21 = .ok (.aload_n 0, 1) := by decide +kernel
theorem dX5_deliver_22 : decode cX5_deliver 22 = .ok (.getfield 53, 3) := by decide +kernel
theorem dX5_deliver_25 : decode cX5_deliver 25 = .ok (.invokevirtual 240, 3) := by decide +kernel
theorem dX5_deliver_28 : decode cX5_deliver 28 = .ok (.return_, 1) := by decide +kernel
end
section
theorem dX6_init_0 : decode cX6_init 0 = .ok (.aload_n 0, 1) := by decide +kernel
theorem dX6_init_1 : decode cX6_init 1 = .ok (.invokespecial 1, 3) := by decide +kernel
theorem dX6_init_4 : decode cX6_init 4 = .ok (.aload_n 0, 1) := by decide +kernel
theorem dX6_init_5 : decode cX6_init 5 = .ok (.bipush 80, 2) := by decide +kernel
theorem dX6_init_7 : decode cX6_init 7 = .ok (.newarray .int, 2) := by decide +kernel
theorem dX6_init_9 : decode cX6_init 9 = .ok (.putfield 7, 3) := by decide +kernel
theorem dX6_init_12 : decode cX6_init 12 = .ok (.aload_n 0, 1) := by decide +kernel
theorem dX6_init_13 : decode cX6_init 13 = .ok (.bipush 8, 2) := by decide +kernel
theorem dX6_init_15 : decode cX6_init 15 = .ok (.newarray .int, 2) := by decide +kernel
theorem dX6_init_17 : decode cX6_init 17 = .ok (.putfield 13, 3) := by decide +kernel
theorem dX6_init_20 : decode cX6_init 20 = .ok (.aload_n 0, 1) := by decide +kernel
theorem dX6_init_21 : decode cX6_init 21 = .ok (.bipush 8, 2) := by decide +kernel
theorem dX6_init_23 : decode cX6_init 23 = .ok (.newarray .int, 2) := by decide +kernel
theorem dX6_init_25 : decode cX6_init 25 = .ok (.putfield 16, 3) := by decide +kernel
theorem dX6_init_28 : decode cX6_init 28 = .ok (.aload_n 0, 1) := by decide +kernel
theorem dX6_init_29 : decode cX6_init 29 = .ok (.bipush 8, 2) := by decide +kernel
theorem dX6_init_31 : decode cX6_init 31 = .ok (.newarray .int, 2) := by decide +kernel
theorem dX6_init_33 : decode cX6_init 33 = .ok (.putfield 19, 3) := by decide +kernel
theorem dX6_init_36 : decode cX6_init 36 = .ok (.aload_n 0, 1) := by decide +kernel
theorem dX6_init_37 : decode cX6_init 37 = .ok (.bipush 56, 2) := by decide +kernel
theorem dX6_init_39 : decode cX6_init 39 = .ok (.newarray .int, 2) := by decide +kernel
theorem dX6_init_41 : decode cX6_init 41 = .ok (.putfield 22, 3) := by decide +kernel
theorem dX6_init_44 : decode cX6_init 44 = .ok (.aload_n 0, 1) := by decide +kernel
theorem dX6_init_45 : decode cX6_init 45 = .ok (.bipush 8, 2) := by decide +kernel
theorem dX6_init_47 : decode cX6_init 47 = .ok (.newarray .int, 2) := by decide +kernel
theorem dX6_init_49 : decode cX6_init 49 = .ok (.putfield 25, 3) := by decide +kernel
theorem dX6_init_52 : decode cX6_init 52 = .ok (.aload_n 0, 1) := by decide +kernel
theorem dX6_init_53 : decode cX6_init 53 = .ok (.bipush 8, 2) := by decide +kernel
theorem dX6_init_55 : decode cX6_init 55 = .ok (.newarray .int, 2) := by decide +kernel
theorem dX6_init_57 : decode cX6_init 57 = .ok (.putfield 28, 3) := by decide +kernel
theorem dX6_init_60 : decode cX6_init 60 = .ok (.aload_n 0, 1) := by decide +kernel
theorem dX6_init_61 : decode cX6_init 61 = .ok (.bipush 8, 2) := by decide +kernel
theorem dX6_init_63 : decode cX6_init 63 = .ok (.newarray .int, 2) := by decide +kernel
theorem dX6_init_65 : decode cX6_init 65 = .ok (.putfield 31, 3) := by decide +kernel
theorem dX6_init_68 : decode cX6_init 68 = .ok (.aload_n 0, 1) := by decide +kernel
theorem dX6_init_69 : decode cX6_init 69 = .ok (.iconst 4, 1) := by decide +kernel
theorem dX6_init_70 : decode cX6_init 70 = .ok (.newarray .int, 2) := by decide +kernel
theorem dX6_init_72 : decode cX6_init 72 = .ok (.putfield 34, 3) := by decide +kernel
theorem dX6_init_75 : decode cX6_init 75 = .ok (.aload_n 0, 1) := by decide +kernel
theorem dX6_init_76 : decode cX6_init 76 = .ok (.bipush 80, 2) := by decide +kernel
theorem dX6_init_78 : decode cX6_init 78 = .ok (.newarray .int, 2) := by decide +kernel
theorem dX6_init_80 : decode cX6_init 80 = .ok (.putfield 37, 3) := by decide +kernel
theorem dX6_init_83 : decode cX6_init 83 = .ok (.return_, 1) := by decide +kernel
theorem dX6_within_0 : decode cX6_within 0 = .ok (.iload_n 0, 1) := by decide +kernel
theorem dX6_within_1 : decode cX6_within 1 = .ok (.iload_n 1, 1) := by decide +kernel
theorem dX6_within_2 : decode cX6_within 2 = .ok (.if_icmp .lt 12, 3) := by decide +kernel
theorem dX6_within_5 : decode cX6_within 5 = .ok (.iload_n 0, 1) := by decide +kernel
theorem dX6_within_6 : decode cX6_within 6 = .ok (.iload_n 2, 1) := by decide +kernel
theorem dX6_within_7 : decode cX6_within 7 = .ok (.if_icmp .gt 7, 3) := by decide +kernel
theorem dX6_within_10 : decode cX6_within 10 = .ok (.iconst 1, 1) := by decide +kernel
theorem dX6_within_11 : decode cX6_within 11 = .ok (.goto 4, 3) := by decide +kernel
theorem dX6_within_14 : decode cX6_within 14 = .ok (.iconst 0, 1) := by decide +kernel
theorem dX6_within_15 : decode cX6_within 15 = .ok (.ireturn, 1) := by decide +kernel
theorem dX6_add_0 : decode cX6_add 0 = .ok (.iload_n 1, 1) := by decide +kernel
theorem dX6_add_1 : decode cX6_add 1 = .ok (.iconst 0, 1) := by decide +kernel
theorem dX6_add_2 : decode cX6_add 2 = .ok (.bipush 15, 2) := by decide +kernel
theorem dX6_add_4 : decode cX6_add 4 = .ok (.invokestatic 40, 3) := by decide +kernel
theorem dX6_add_7 : decode cX6_add 7 = .ok (.ifCond .ne 5, 3) := by decide +kernel
theorem dX6_add_10 : decode cX6_add 10 = .ok (.iconst (-1), 1) := by decide +kernel
theorem dX6_add_11 : decode cX6_add 11 = .ok (.ireturn, 1) := by decide +kernel
theorem dX6_add_12 : decode cX6_add 12 = .ok (.iload_n 1, 1) := by decide +kernel
theorem dX6_add_13 : decode cX6_add 13 = .ok (.iconst 2, 1) := by decide +kernel
theorem dX6_add_14 : decode cX6_add 14 = .ok (.if_icmp .eq 20, 3) := by decide +kernel
theorem dX6_add_17 : decode cX6_add 17 = .ok (.iload_n 1, 1) := by decide +kernel
theorem dX6_add_18 : decode cX6_add 18 = .ok (.iconst 3, 1) := by decide +kernel
theorem dX6_add_19 : decode cX6_add 19 = .ok (.if_icmp .eq 15, 3) := by decide +kernel
theorem dX6_add_22 : decode cX6_add 22 = .ok (.iload_n 1, 1) := by decide +kernel
theorem dX6_add_23 : decode cX6_add 23 = .ok (.bipush 10, 2) := by decide +kernel
theorem dX6_add_25 : decode cX6_add 25 = .ok (.if_icmp .eq 9, 3) := by decide +kernel
theorem dX6_add_28 : decode cX6_add 28 = .ok (.iload_n 1, 1) := by decide +kernel
theorem dX6_add_29 : decode cX6_add 29 = .ok (.bipush 11, 2) := by decide +kernel
theorem dX6_add_31 : decode cX6_add 31 = .ok (.if_icmp .ne 7, 3) := by decide +kernel
theorem dX6_add_34 : decode cX6_add 34 = .ok (.iconst 1, 1) := by decide +kernel
theorem dX6_add_35 : decode cX6_add 35 = .ok (.goto 4, 3) := by decide +kernel
theorem dX6_add_38 : decode cX6_add 38 = .ok (.iconst 0, 1) := by decide +kernel
theorem dX6_add_39 : decode cX6_add 39 = .ok (.istore_n 3, 1) := by decide +kernel
theorem dX6_add_40 : decode cX6_add 40 = .ok (.iload_n 3, 1) := by decide +kernel
theorem dX6_add_41 : decode cX6_add 41 = .ok (.ifCond .eq 12, 3) := by decide +kernel
theorem dX6_add_44 : decode cX6_add 44 = .ok (.iload_n 2, 1) := by decide +kernel
theorem dX6_add_45 : decode cX6_add 45 = .ok (.iconst 0, 1) := by decide +kernel
theorem dX6_add_46 : decode cX6_add 46 = .ok (.iconst 3, 1) := by decide +kernel
theorem dX6_add_47 : decode cX6_add 47 = .ok (.invokestatic 40, 3) := by decide +kernel
theorem dX6_add_50 : decode cX6_add 50 = .ok (.ifCond .eq 41, 3) := by decide +kernel
theorem dX6_add_53 : decode cX6_add 53 = .ok (.iload_n 1, 1) := by decide +kernel
theorem dX6_add_54 : decode cX6_add 54 = .ok (.bipush 8, 2) := by decide +kernel
theorem dX6_add_56 : decode cX6_add 56 = .ok (.if_icmp .eq 9, 3) := by decide +kernel
theorem dX6_add_59 : decode cX6_add 59 = .ok (.iload_n 1, 1) := by decide +kernel
theorem dX6_add_60 : decode cX6_add 60 = .ok (.bipush 9, 2) := by decide +kernel
theorem dX6_add_62 : decode cX6_add 62 = .ok (.if_icmp .ne 13, 3) := by decide +kernel
theorem dX6_add_65 : decode cX6_add 65 = .ok (.iload_n 2, 1) := by decide +kernel
theorem dX6_add_66 : decode cX6_add 66 = .ok (.iconst 0, 1) := by decide +kernel
theorem dX6_add_67 : decode cX6_add 67 = .ok (.bipush 39, 2) := by decide +kernel
theorem dX6_add_69 : decode cX6_add 69 = .ok (.invokestatic 40, 3) := by decide +kernel
theorem dX6_add_72 : decode cX6_add 72 = .ok (.ifCond .eq 19, 3) := by decide +kernel
theorem dX6_add_75 : decode cX6_add 75 = .ok (.iload_n 1, 1) := by decide +kernel
theorem dX6_add_76 : decode cX6_add 76 = .ok (.bipush 14, 2) := by decide +kernel
theorem dX6_add_78 : decode cX6_add 78 = .ok (.if_icmp .ne 16, 3) := by decide +kernel
theorem dX6_add_81 : decode cX6_add 81 = .ok (.iload_n 2, 1) := by decide +kernel
theorem dX6_add_82 : decode cX6_add 82 = .ok (.iconst 0, 1) := by decide +kernel
theorem dX6_add_83 : decode cX6_add 83 = .ok (.bipush 79, 2) := by decide +kernel
theorem dX6_add_85 : decode cX6_add 85 = .ok (.invokestatic 40, 3) := by decide +kernel
theorem dX6_add_88 : decode cX6_add 88 = .ok (.ifCond .ne 6, 3) := by decide +kernel
theorem dX6_add_91 : decode cX6_add 91 = .ok (.bipush (-2), 2) := by decide +kernel
theorem dX6_add_93 : decode cX6_add 93 = .ok (.ireturn, 1) := by decide +kernel
theorem dX6_add_94 : decode cX6_add 94 = .ok (.aload_n 0, 1) := by decide +kernel
theorem dX6_add_95 : decode cX6_add 95 = .ok (.getfield 44, 3) := by decide +kernel
theorem dX6_add_98 : decode cX6_add 98 = .ok (.bipush 40, 2) := by decide +kernel
theorem dX6_add_100 : decode cX6_add 100 = .ok (.if_icmp .ne 6, 3) := by decide +kernel
theorem dX6_add_103 : decode cX6_add 103 = .ok (.bipush (-3), 2) := by decide +kernel
theorem dX6_add_105 : decode cX6_add 105 = .ok (.ireturn, 1) := by decide +kernel
theorem dX6_add_106 : decode cX6_add 106 = .ok (.aload_n 0, 1) := by decide +kernel
theorem dX6_add_107 : decode cX6_add 107 = .ok (.getfield 7, 3) := by decide +kernel
theorem dX6_add_110 : decode cX6_add 110 = .ok (.iconst 2, 1) := by decide +kernel
theorem dX6_add_111 : decode cX6_add 111 = .ok (.aload_n 0, 1) := by decide +kernel
theorem dX6_add_112 : decode cX6_add 112 = .ok (.getfield 44, 3) := by decide +kernel
theorem dX6_add_115 : decode cX6_add 115 = .ok (.imul, 1) := by decide +kernel
theorem dX6_add_116 : decode cX6_add 116 = .ok (.iload_n 1, 1) := by decide +kernel
theorem dX6_add_117 : decode cX6_add 117 = .ok (.iastore, 1) := by decide +kernel
theorem dX6_add_118 : decode cX6_add 118 = .ok (.aload_n 0, 1) := by decide +kernel
theorem dX6_add_119 : decode cX6_add 119 = .ok (.getfield 7, 3) := by decide +kernel
theorem dX6_add_122 : decode cX6_add 122 = .ok (.iconst 2, 1) := by decide +kernel
theorem dX6_add_123 : decode cX6_add 123 = .ok (.aload_n 0, 1) := by decide +kernel
theorem dX6_add_124 : decode cX6_add 124 = .ok (.getfield 44, 3) := by decide +kernel
theorem dX6_add_127 : decode cX6_add 127 = .ok (.imul, 1) := by decide +kernel
theorem dX6_add_128 : decode cX6_add 128 = .ok (.iconst 1, 1) := by decide +kernel
theorem dX6_add_129 : decode cX6_add 129 = .ok (.iadd, 1) := by decide +kernel
theorem dX6_add_130 : decode cX6_add 130 = .ok (.iload_n 2, 1) := by decide +kernel
theorem dX6_add_131 : decode cX6_add 131 = .ok (.iastore, 1) := by decide +kernel
theorem dX6_add_132 : decode cX6_add 132 = .ok (.aload_n 0, 1) := by decide +kernel
theorem dX6_add_133 : decode cX6_add 133 = .ok (.dup, 1) := by decide +kernel
theorem dX6_add_134 : decode cX6_add 134 = .ok (.getfield 44, 3) := by decide +kernel
theorem dX6_add_137 : decode cX6_add 137 = .ok (.iconst 1, 1) := by decide +kernel
theorem dX6_add_138 : decode cX6_add 138 = .ok (.iadd, 1) := by decide +kernel
theorem dX6_add_139 : decode cX6_add 139 = .ok (.putfield 44, 3) := by decide +kernel
theorem dX6_add_142 : decode cX6_add 142 = .ok (.aload_n 0, 1) := by decide +kernel
theorem dX6_add_143 : decode cX6_add 143 = .ok (.getfield 44, 3) := by decide +kernel
theorem dX6_add_146 : decode cX6_add 146 = .ok (.iconst 1, 1) := by decide +kernel
theorem dX6_add_147 : decode cX6_add 147 = .ok (.isub, 1) := by decide +kernel
theorem dX6_add_148 : decode cX6_add 148 = .ok (.ireturn, 1) := by decide +kernel
theorem dX6_atEnd_0 : decode cX6_atEnd 0 = .ok (.aload_n 0, 1) := by decide +kernel
theorem dX6_atEnd_1 : decode cX6_atEnd 1 = .ok (.getfield 13, 3) := by decide +kernel
theorem dX6_atEnd_4 : decode cX6_atEnd 4 = .ok (.iload_n 1, 1) := by decide +kernel
theorem dX6_atEnd_5 : decode cX6_atEnd 5 = .ok (.iconst 1, 1) := by decide +kernel
theorem dX6_atEnd_6 : decode cX6_atEnd 6 = .ok (.iastore, 1) := by decide +kernel
theorem dX6_atEnd_7 : decode cX6_atEnd 7 = .ok (.aload_n 0, 1) := by decide +kernel
theorem dX6_atEnd_8 : decode cX6_atEnd 8 = .ok (.getfield 25, 3) := by decide +kernel
theorem dX6_atEnd_11 : decode cX6_atEnd 11 = .ok (.iload_n 1, 1) := by decide +kernel
theorem dX6_atEnd_12 : decode cX6_atEnd 12 = .ok (.aload_n 0, 1) := by decide +kernel
theorem dX6_atEnd_13 : decode cX6_atEnd 13 = .ok (.getfield 48, 3) := by decide +kernel
theorem dX6_atEnd_16 : decode cX6_atEnd 16 = .ok (.iastore, 1) := by decide +kernel
theorem dX6_atEnd_17 : decode cX6_atEnd 17 = .ok (.aload_n 0, 1) := by decide +kernel
theorem dX6_atEnd_18 : decode cX6_atEnd 18 = .ok (.dup, 1) := by decide +kernel
theorem dX6_atEnd_19 : decode cX6_atEnd 19 = .ok (.getfield 48, 3) := by decide +kernel
theorem dX6_atEnd_22 : decode cX6_atEnd 22 = .ok (.iconst 1, 1) := by decide +kernel
theorem dX6_atEnd_23 : decode cX6_atEnd 23 = .ok (.iadd, 1) := by decide +kernel
theorem dX6_atEnd_24 : decode cX6_atEnd 24 = .ok (.putfield 48, 3) := by decide +kernel
theorem dX6_atEnd_27 : decode cX6_atEnd 27 = .ok (.return_, 1) := by decide +kernel
theorem dX6_begin_0 : decode cX6_begin 0 = .ok (.iconst 0, 1) := by decide +kernel
theorem dX6_begin_1 : decode cX6_begin 1 = .ok (.istore 4, 2) := by decide +kernel
theorem dX6_begin_3 : decode cX6_begin 3 = .ok (.iload 4, 2) := by decide +kernel
theorem dX6_begin_5 : decode cX6_begin 5 = .ok (.bipush 8, 2) := by decide +kernel
theorem dX6_begin_7 : decode cX6_begin 7 = .ok (.if_icmp .ge 19, 3) := by decide +kernel
theorem dX6_begin_10 : decode cX6_begin 10 = .ok (.aload_n 0, 1) := by decide +kernel
theorem dX6_begin_11 : decode cX6_begin 11 = .ok (.getfield 13, 3) := by decide +kernel
theorem dX6_begin_14 : decode cX6_begin 14 = .ok (.iload 4, 2) := by decide +kernel
theorem dX6_begin_16 : decode cX6_begin 16 = .ok (.iaload, 1) := by decide +kernel
theorem dX6_begin_17 : decode cX6_begin 17 = .ok (.ifCond .eq 9, 3) := by decide +kernel
theorem dX6_begin_20 : decode cX6_begin 20 = .ok (.iinc 4 1, 3) := by decide +kernel
theorem dX6_begin_23 : decode cX6_begin 23 = .ok (.goto (-20), 3) := by decide +kernel
theorem dX6_begin_26 : decode cX6_begin 26 = .ok (.iload 4, 2) := by decide +kernel
theorem dX6_begin_28 : decode cX6_begin 28 = .ok (.bipush 8, 2) := by decide +kernel
theorem dX6_begin_30 : decode cX6_begin 30 = .ok (.if_icmp .ne 5, 3) := by decide +kernel
theorem dX6_begin_33 : decode cX6_begin 33 = .ok (.iconst (-1), 1) := by decide +kernel
theorem dX6_begin_34 : decode cX6_begin 34 = .ok (.ireturn, 1) := by decide +kernel
theorem dX6_begin_35 : decode cX6_begin 35 = .ok (.aload_n 0, 1) := by decide +kernel
theorem dX6_begin_36 : decode cX6_begin 36 = .ok (.getfield 16, 3) := by decide +kernel
theorem dX6_begin_39 : decode cX6_begin 39 = .ok (.iload 4, 2) := by decide +kernel
theorem dX6_begin_41 : decode cX6_begin 41 = .ok (.iload_n 1, 1) := by decide +kernel
theorem dX6_begin_42 : decode cX6_begin 42 = .ok (.iastore, 1) := by decide +kernel
theorem dX6_begin_43 : decode cX6_begin 43 = .ok (.aload_n 0, 1) := by decide +kernel
theorem dX6_begin_44 : decode cX6_begin 44 = .ok (.getfield 19, 3) := by decide +kernel
theorem dX6_begin_47 : decode cX6_begin 47 = .ok (.iload 4, 2) := by decide +kernel
theorem dX6_begin_49 : decode cX6_begin 49 = .ok (.iload_n 2, 1) := by decide +kernel
theorem dX6_begin_50 : decode cX6_begin 50 = .ok (.iastore, 1) := by decide +kernel
theorem dX6_begin_51 : decode cX6_begin 51 = .ok (.iconst 0, 1) := by decide +kernel
theorem dX6_begin_52 : decode cX6_begin 52 = .ok (.istore 5, 2) := by decide +kernel
theorem dX6_begin_54 : decode cX6_begin 54 = .ok (.iload 5, 2) := by decide +kernel
theorem dX6_begin_56 : decode cX6_begin 56 = .ok (.bipush 7, 2) := by decide +kernel
theorem dX6_begin_58 : decode cX6_begin 58 = .ok (.if_icmp .ge 23, 3) := by decide +kernel
theorem dX6_begin_61 : decode cX6_begin 61 = .ok (.aload_n 0, 1) := by decide +kernel
theorem dX6_begin_62 : decode cX6_begin 62 = .ok (.getfield 22, 3) := by decide +kernel
theorem dX6_begin_65 : decode cX6_begin 65 = .ok (.bipush 7, 2) := by decide +kernel
theorem dX6_begin_67 : decode cX6_begin 67 = .ok (.iload 4, 2) := by decide +kernel
theorem dX6_begin_69 : decode cX6_begin 69 = .ok (.imul, 1) := by decide +kernel
theorem dX6_begin_70 : decode cX6_begin 70 = .ok (.iload 5, 2) := by decide +kernel
theorem dX6_begin_72 : decode cX6_begin 72 = .ok (.iadd, 1) := by decide +kernel
theorem dX6_begin_73 : decode cX6_begin 73 = .ok (.iconst 0, 1) := by decide +kernel
theorem dX6_begin_74 : decode cX6_begin 74 = .ok (.iastore, 1) := by decide +kernel
theorem dX6_begin_75 : decode cX6_begin 75 = .ok (.iinc 5 1, 3) := by decide +kernel
theorem dX6_begin_78 : decode cX6_begin 78 = .ok (.goto (-24), 3) := by decide +kernel
theorem dX6_begin_81 : decode cX6_begin 81 = .ok (.aload_n 0, 1) := by decide +kernel
theorem dX6_begin_82 : decode cX6_begin 82 = .ok (.getfield 22, 3) := by decide +kernel
theorem dX6_begin_85 : decode cX6_begin 85 = .ok (.bipush 7, 2) := by decide +kernel
theorem dX6_begin_87 : decode cX6_begin 87 = .ok (.iload 4, 2) := by decide +kernel
theorem dX6_begin_89 : decode cX6_begin 89 = .ok (.imul, 1) := by decide +kernel
theorem dX6_begin_90 : decode cX6_begin 90 = .ok (.iload_n 3, 1) := by decide +kernel
theorem dX6_begin_91 : decode cX6_begin 91 = .ok (.iastore, 1) := by decide +kernel
theorem dX6_begin_92 : decode cX6_begin 92 = .ok (.aload_n 0, 1) := by decide +kernel
theorem dX6_begin_93 : decode cX6_begin 93 = .ok (.iload 4, 2) := by decide +kernel
theorem dX6_begin_95 : decode cX6_begin 95 = .ok (.invokevirtual 51, 3) := by decide +kernel
theorem dX6_begin_98 : decode cX6_begin 98 = .ok (.iload 4, 2) := by decide +kernel
theorem dX6_begin_100 : decode cX6_begin 100 = .ok (.ireturn, 1) := by decide +kernel
theorem dX6_start_0 : decode cX6_start 0 = .ok (.iload_n 1, 1) := by decide +kernel
theorem dX6_start_1 : decode cX6_start 1 = .ok (.iconst 0, 1) := by decide +kernel
theorem dX6_start_2 : decode cX6_start 2 = .ok (.iconst 1, 1) := by decide +kernel
theorem dX6_start_3 : decode cX6_start 3 = .ok (.invokestatic 40, 3) := by decide +kernel
theorem dX6_start_6 : decode cX6_start 6 = .ok (.ifCond .eq 13, 3) := by decide +kernel
theorem dX6_start_9 : decode cX6_start 9 = .ok (.iload_n 2, 1) := by decide +kernel
theorem dX6_start_10 : decode cX6_start 10 = .ok (.iconst 0, 1) := by decide +kernel
theorem dX6_start_11 : decode cX6_start 11 = .ok (.bipush 39, 2) := by decide +kernel
theorem dX6_start_13 : decode cX6_start 13 = .ok (.invokestatic 40, 3) := by decide +kernel
theorem dX6_start_16 : decode cX6_start 16 = .ok (.ifCond .ne 5, 3) := by decide +kernel
theorem dX6_start_19 : decode cX6_start 19 = .ok (.iconst (-1), 1) := by decide +kernel
theorem dX6_start_20 : decode cX6_start 20 = .ok (.ireturn, 1) := by decide +kernel
theorem dX6_start_21 : decode cX6_start 21 = .ok (.aload_n 0, 1) := by decide +kernel
theorem dX6_start_22 : decode cX6_start 22 = .ok (.iload_n 1, 1) := by decide +kernel
theorem dX6_start_23 : decode cX6_start 23 = .ok (.iload_n 2, 1) := by decide +kernel
theorem dX6_start_24 : decode cX6_start 24 = .ok (.iload_n 3, 1) := by decide +kernel
theorem dX6_start_25 : decode cX6_start 25 = .ok (.invokevirtual 55, 3) := by decide +kernel
theorem dX6_start_28 : decode cX6_start 28 = .ok (.istore 4, 2) := by decide +kernel
theorem dX6_start_30 : decode cX6_start 30 = .ok (.iload 4, 2) := by decide +kernel
theorem dX6_start_32 : decode cX6_start 32 = .ok (.ifCond .ge 8, 3) := by decide +kernel
theorem dX6_start_35 : decode cX6_start 35 = .ok (.bipush (-2), 2) := by decide +kernel
theorem dX6_start_37 : decode cX6_start 37 = .ok (.goto 5, 3) := by decide +kernel
theorem dX6_start_40 : decode cX6_start 40 = .ok (.iload 4, 2) := by decide +kernel
theorem dX6_start_42 : decode cX6_start 42 = .ok (.ireturn, 1) := by decide +kernel
theorem dX6_setClock_0 : decode cX6_setClock 0 = .ok (.aload_n 0, 1) := by decide +kernel
theorem dX6_setClock_1 : decode cX6_setClock 1 = .ok (.iload_n 1, 1) := by decide +kernel
theorem dX6_setClock_2 : decode cX6_setClock 2 = .ok (.putfield 59, 3) := by decide +kernel
theorem dX6_setClock_5 : decode cX6_setClock 5 = .ok (.return_, 1) := by decide +kernel
theorem dX6_reset_0 : decode cX6_reset 0 = .ok (.iconst 0, 1) := by decide +kernel
theorem dX6_reset_1 : decode cX6_reset 1 = .ok (.istore_n 1, 1) := by decide +kernel
theorem dX6_reset_2 : decode cX6_reset 2 = .ok (.iload_n 1, 1) := by decide +kernel
theorem dX6_reset_3 : decode cX6_reset 3 = .ok (.bipush 8, 2) := by decide +kernel
theorem dX6_reset_5 : decode cX6_reset 5 = .ok (.if_icmp .ge 16, 3) := by decide +kernel
theorem dX6_reset_8 : decode cX6_reset 8 = .ok (.aload_n 0, 1) := by decide +kernel
theorem dX6_reset_9 : decode cX6_reset 9 = .ok (.getfield 13, 3) := by decide +kernel
theorem dX6_reset_12 : decode cX6_reset 12 = .ok (.iload_n 1, 1) := by decide +kernel
theorem dX6_reset_13 : decode cX6_reset 13 = .ok (.iconst 0, 1) := by decide +kernel
theorem dX6_reset_14 : decode cX6_reset 14 = .ok (.iastore, 1) := by decide +kernel
theorem dX6_reset_15 : decode cX6_reset 15 = .ok (.iinc 1 1, 3) := by decide +kernel
theorem dX6_reset_18 : decode cX6_reset 18 = .ok (.goto (-16), 3) := by decide +kernel
theorem dX6_reset_21 : decode cX6_reset 21 = .ok (.iconst 0, 1) := by decide +kernel
theorem dX6_reset_22 : decode cX6_reset 22 = .ok (.istore_n 1, 1) := by decide +kernel
theorem dX6_reset_23 : decode cX6_reset 23 = .ok (.iload_n 1, 1) := by decide +kernel
theorem dX6_reset_24 : decode cX6_reset 24 = .ok (.iconst 4, 1) := by decide +kernel
theorem dX6_reset_25 : decode cX6_reset 25 = .ok (.if_icmp .ge 16, 3) := by decide +kernel
theorem dX6_reset_28 : decode cX6_reset 28 = .ok (.aload_n 0, 1) := by decide +kernel
theorem dX6_reset_29 : decode cX6_reset 29 = .ok (.getfield 34, 3) := by decide +kernel
theorem dX6_reset_32 : decode cX6_reset 32 = .ok (.iload_n 1, 1) := by decide +kernel
theorem dX6_reset_33 : decode cX6_reset 33 = .ok (.iconst 0, 1) := by decide +kernel
theorem dX6_reset_34 : decode cX6_reset 34 = .ok (.iastore, 1) := by decide +kernel
theorem dX6_reset_35 : decode cX6_reset 35 = .ok (.iinc 1 1, 3) := by decide +kernel
theorem dX6_reset_38 : decode cX6_reset 38 = .ok (.goto (-15), 3) := by decide +kernel
theorem dX6_reset_41 : decode cX6_reset 41 = .ok (.return_, 1) := by decide +kernel
theorem dX6_ready_0 : decode cX6_ready 0 = .ok (.iconst 0, 1) := by decide +kernel
theorem dX6_ready_1 : decode cX6_ready 1 = .ok (.istore_n 3, 1) := by decide +kernel
theorem dX6_ready_2 : decode cX6_ready 2 = .ok (.iload_n 3, 1) := by decide +kernel
theorem dX6_ready_3 : decode cX6_ready 3 = .ok (.bipush 8, 2) := by decide +kernel
theorem dX6_ready_5 : decode cX6_ready 5 = .ok (.if_icmp .ge 100, 3) := by decide +kernel
theorem dX6_ready_8 : decode cX6_ready 8 = .ok (.aload_n 0, 1) := by decide +kernel
theorem dX6_ready_9 : decode cX6_ready 9 = .ok (.getfield 13, 3) := by decide +kernel
theorem dX6_ready_12 : decode cX6_ready 12 = .ok (.iload_n 3, 1) := by decide +kernel
theorem dX6_ready_13 : decode cX6_ready 13 = .ok (.iaload, 1) := by decide +kernel
theorem dX6_ready_14 : decode cX6_ready 14 = .ok (.iconst 1, 1) := by decide +kernel
theorem dX6_ready_15 : decode cX6_ready 15 = .ok (.if_icmp .ne 84, 3) := by decide +kernel
theorem dX6_ready_18 : decode cX6_ready 18 = .ok (.aload_n 0, 1) := by decide +kernel
theorem dX6_ready_19 : decode cX6_ready 19 = .ok (.getfield 16, 3) := by decide +kernel
theorem dX6_ready_22 : decode cX6_ready 22 = .ok (.iload_n 3, 1) := by decide +kernel
theorem dX6_ready_23 : decode cX6_ready 23 = .ok (.iaload, 1) := by decide +kernel
theorem dX6_ready_24 : decode cX6_ready 24 = .ok (.iload_n 1, 1) := by decide +kernel
theorem dX6_ready_25 : decode cX6_ready 25 = .ok (.if_icmp .eq 6, 3) := by decide +kernel
theorem dX6_ready_28 : decode cX6_ready 28 = .ok (.goto 71, 3) := by decide +kernel
theorem dX6_ready_31 : decode cX6_ready 31 = .ok (.iconst 0, 1) := by decide +kernel
theorem dX6_ready_32 : decode cX6_ready 32 = .ok (.istore 4, 2) := by decide +kernel
theorem dX6_ready_34 : decode cX6_ready 34 = .ok (.iconst 0, 1) := by decide +kernel
theorem dX6_ready_35 : decode cX6_ready 35 = .ok (.istore 5, 2) := by decide +kernel
theorem dX6_ready_37 : decode cX6_ready 37 = .ok (.iload 5, 2) := by decide +kernel
theorem dX6_ready_39 : decode cX6_ready 39 = .ok (.bipush 8, 2) := by decide +kernel
theorem dX6_ready_41 : decode cX6_ready 41 = .ok (.if_icmp .ge 50, 3) := by decide +kernel
theorem dX6_ready_44 : decode cX6_ready 44 = .ok (.aload_n 0, 1) := by decide +kernel
theorem dX6_ready_45 : decode cX6_ready 45 = .ok (.getfield 13, 3) := by decide +kernel
theorem dX6_ready_48 : decode cX6_ready 48 = .ok (.iload 5, 2) := by decide +kernel
theorem dX6_ready_50 : decode cX6_ready 50 = .ok (.iaload, 1) := by decide +kernel
theorem dX6_ready_51 : decode cX6_ready 51 = .ok (.iconst 1, 1) := by decide +kernel
theorem dX6_ready_52 : decode cX6_ready 52 = .ok (.if_icmp .ne 33, 3) := by decide +kernel
theorem dX6_ready_55 : decode cX6_ready 55 = .ok (.aload_n 0, 1) := by decide +kernel
theorem dX6_ready_56 : decode cX6_ready 56 = .ok (.getfield 16, 3) := by decide +kernel
theorem dX6_ready_59 : decode cX6_ready 59 = .ok (.iload 5, 2) := by decide +kernel
theorem dX6_ready_61 : decode cX6_ready 61 = .ok (.iaload, 1) := by decide +kernel
theorem dX6_ready_62 : decode cX6_ready 62 = .ok (.iload_n 1, 1) := by decide +kernel
theorem dX6_ready_63 : decode cX6_ready 63 = .ok (.if_icmp .ne 22, 3) := by decide +kernel
theorem dX6_ready_66 : decode cX6_ready 66 = .ok (.aload_n 0, 1) := by decide +kernel
theorem dX6_ready_67 : decode cX6_ready 67 = .ok (.getfield 25, 3) := by decide +kernel
theorem dX6_ready_70 : decode cX6_ready 70 = .ok (.iload 5, 2) := by decide +kernel
theorem dX6_ready_72 : decode cX6_ready 72 = .ok (.iaload, 1) := by decide +kernel
theorem dX6_ready_73 : decode cX6_ready 73 = .ok (.aload_n 0, 1) := by decide +kernel
theorem dX6_ready_74 : decode cX6_ready 74 = .ok (.getfield 25, 3) := by decide +kernel
theorem dX6_ready_77 : decode cX6_ready 77 = .ok (.iload_n 3, 1) := by decide +kernel
theorem dX6_ready_78 : decode cX6_ready 78 = .ok (.iaload, 1) := by decide +kernel
theorem dX6_ready_79 : decode cX6_ready 79 = .ok (.if_icmp .ge 6, 3) := by decide +kernel
theorem dX6_ready_82 : decode cX6_ready 82 = .ok (.iinc 4 1, 3) := by decide +kernel
theorem dX6_ready_85 : decode cX6_ready 85 = .ok (.iinc 5 1, 3) := by decide +kernel
theorem dX6_ready_88 : decode cX6_ready 88 = .ok (.goto (-51), 3) := by decide +kernel
theorem dX6_ready_91 : decode cX6_ready 91 = .ok (.iload 4, 2) := by decide +kernel
theorem dX6_ready_93 : decode cX6_ready 93 = .ok (.iload_n 2, 1) := by decide +kernel
theorem dX6_ready_94 : decode cX6_ready 94 = .ok (.if_icmp .ne 5, 3) := by decide +kernel
theorem dX6_ready_97 : decode cX6_ready 97 = .ok (.iload_n 3, 1) := by decide +kernel
theorem dX6_ready_98 : decode cX6_ready 98 = .ok (.ireturn, 1) := by decide +kernel
theorem dX6_ready_99 : decode cX6_ready 99 = .ok (.iinc 3 1, 3) := by decide +kernel
theorem dX6_ready_102 : decode cX6_ready 102 = .ok (.goto (-100), 3) := by decide +kernel
theorem dX6_ready_105 : decode cX6_ready 105 = .ok (.iconst (-1), 1) := by decide +kernel
theorem dX6_ready_106 : decode cX6_ready 106 = .ok (.ireturn, 1) := by decide +kernel
theorem dX6_current_0 : decode cX6_current 0 = .ok (.iconst 0, 1) := by decide +kernel
theorem dX6_current_1 : decode cX6_current 1 = .ok (.istore_n 1, 1) := by decide +kernel
theorem dX6_current_2 : decode cX6_current 2 = .ok (.iload_n 1, 1) := by decide +kernel
theorem dX6_current_3 : decode cX6_current 3 = .ok (.bipush 8, 2) := by decide +kernel
theorem dX6_current_5 : decode cX6_current 5 = .ok (.if_icmp .ge 21, 3) := by decide +kernel
theorem dX6_current_8 : decode cX6_current 8 = .ok (.aload_n 0, 1) := by decide +kernel
theorem dX6_current_9 : decode cX6_current 9 = .ok (.getfield 13, 3) := by decide +kernel
theorem dX6_current_12 : decode cX6_current 12 = .ok (.iload_n 1, 1) := by decide +kernel
theorem dX6_current_13 : decode cX6_current 13 = .ok (.iaload, 1) := by decide +kernel
theorem dX6_current_14 : decode cX6_current 14 = .ok (.iconst 2, 1) := by decide +kernel
theorem dX6_current_15 : decode cX6_current 15 = .ok (.if_icmp .ne 5, 3) := by decide +kernel
theorem dX6_current_18 : decode cX6_current 18 = .ok (.iload_n 1, 1) := by decide +kernel
theorem dX6_current_19 : decode cX6_current 19 = .ok (.ireturn, 1) := by decide +kernel
theorem dX6_current_20 : decode cX6_current 20 = .ok (.iinc 1 1, 3) := by decide +kernel
theorem dX6_current_23 : decode cX6_current 23 = .ok (.goto (-21), 3) := by decide +kernel
theorem dX6_current_26 : decode cX6_current 26 = .ok (.iconst (-1), 1) := by decide +kernel
theorem dX6_current_27 : decode cX6_current 27 = .ok (.ireturn, 1) := by decide +kernel
theorem dX6_push_0 : decode cX6_push 0 = .ok (.aload_n 0, 1) := by decide +kernel
theorem dX6_push_1 : decode cX6_push 1 = .ok (.getfield 22, 3) := by decide +kernel
theorem dX6_push_4 : decode cX6_push 4 = .ok (.bipush 7, 2) := by decide +kernel
theorem dX6_push_6 : decode cX6_push 6 = .ok (.iload_n 1, 1) := by decide +kernel
theorem dX6_push_7 : decode cX6_push 7 = .ok (.imul, 1) := by decide +kernel
theorem dX6_push_8 : decode cX6_push 8 = .ok (.iconst 2, 1) := by decide +kernel
theorem dX6_push_9 : decode cX6_push 9 = .ok (.iadd, 1) := by decide +kernel
theorem dX6_push_10 : decode cX6_push 10 = .ok (.aload_n 0, 1) := by decide +kernel
theorem dX6_push_11 : decode cX6_push 11 = .ok (.getfield 22, 3) := by decide +kernel
theorem dX6_push_14 : decode cX6_push 14 = .ok (.bipush 7, 2) := by decide +kernel
theorem dX6_push_16 : decode cX6_push 16 = .ok (.iload_n 1, 1) := by decide +kernel
theorem dX6_push_17 : decode cX6_push 17 = .ok (.imul, 1) := by decide +kernel
theorem dX6_push_18 : decode cX6_push 18 = .ok (.iconst 1, 1) := by decide +kernel
theorem dX6_push_19 : decode cX6_push 19 = .ok (.iadd, 1) := by decide +kernel
theorem dX6_push_20 : decode cX6_push 20 = .ok (.iaload, 1) := by decide +kernel
theorem dX6_push_21 : decode cX6_push 21 = .ok (.iastore, 1) := by decide +kernel
theorem dX6_push_22 : decode cX6_push 22 = .ok (.aload_n 0, 1) := by decide +kernel
theorem dX6_push_23 : decode cX6_push 23 = .ok (.getfield 22, 3) := by decide +kernel
theorem dX6_push_26 : decode cX6_push 26 = .ok (.bipush 7, 2) := by decide +kernel
theorem dX6_push_28 : decode cX6_push 28 = .ok (.iload_n 1, 1) := by decide +kernel
theorem dX6_push_29 : decode cX6_push 29 = .ok (.imul, 1) := by decide +kernel
theorem dX6_push_30 : decode cX6_push 30 = .ok (.iconst 1, 1) := by decide +kernel
theorem dX6_push_31 : decode cX6_push 31 = .ok (.iadd, 1) := by decide +kernel
theorem dX6_push_32 : decode cX6_push 32 = .ok (.aload_n 0, 1) := by decide +kernel
theorem dX6_push_33 : decode cX6_push 33 = .ok (.getfield 22, 3) := by decide +kernel
theorem dX6_push_36 : decode cX6_push 36 = .ok (.bipush 7, 2) := by decide +kernel
theorem dX6_push_38 : decode cX6_push 38 = .ok (.iload_n 1, 1) := by decide +kernel
theorem dX6_push_39 : decode cX6_push 39 = .ok (.imul, 1) := by decide +kernel
theorem dX6_push_40 : decode cX6_push 40 = .ok (.iaload, 1) := by decide +kernel
theorem dX6_push_41 : decode cX6_push 41 = .ok (.iastore, 1) := by decide +kernel
theorem dX6_push_42 : decode cX6_push 42 = .ok (.aload_n 0, 1) := by decide +kernel
theorem dX6_push_43 : decode cX6_push 43 = .ok (.getfield 22, 3) := by decide +kernel
theorem dX6_push_46 : decode cX6_push 46 = .ok (.bipush 7, 2) := by decide +kernel
theorem dX6_push_48 : decode cX6_push 48 = .ok (.iload_n 1, 1) := by decide +kernel
theorem dX6_push_49 : decode cX6_push 49 = .ok (.imul, 1) := by decide +kernel
theorem dX6_push_50 : decode cX6_push 50 = .ok (.iload_n 2, 1) := by decide +kernel
theorem dX6_push_51 : decode cX6_push 51 = .ok (.iastore, 1) := by decide +kernel
theorem dX6_push_52 : decode cX6_push 52 = .ok (.return_, 1) := by decide +kernel
theorem dX6_pull_0 : decode cX6_pull 0 = .ok (.aload_n 0, 1) := by decide +kernel
theorem dX6_pull_1 : decode cX6_pull 1 = .ok (.getfield 22, 3) := by decide +kernel
theorem dX6_pull_4 : decode cX6_pull 4 = .ok (.bipush 7, 2) := by decide +kernel
theorem dX6_pull_6 : decode cX6_pull 6 = .ok (.iload_n 1, 1) := by decide +kernel
theorem dX6_pull_7 : decode cX6_pull 7 = .ok (.imul, 1) := by decide +kernel
theorem dX6_pull_8 : decode cX6_pull 8 = .ok (.aload_n 0, 1) := by decide +kernel
theorem dX6_pull_9 : decode cX6_pull 9 = .ok (.getfield 22, 3) := by decide +kernel
theorem dX6_pull_12 : decode cX6_pull 12 = .ok (.bipush 7, 2) := by decide +kernel
theorem dX6_pull_14 : decode cX6_pull 14 = .ok (.iload_n 1, 1) := by decide +kernel
theorem dX6_pull_15 : decode cX6_pull 15 = .ok (.imul, 1) := by decide +kernel
theorem dX6_pull_16 : decode cX6_pull 16 = .ok (.iconst 1, 1) := by decide +kernel
theorem dX6_pull_17 : decode cX6_pull 17 = .ok (.iadd, 1) := by decide +kernel
theorem dX6_pull_18 : decode cX6_pull 18 = .ok (.iaload, 1) := by decide +kernel
theorem dX6_pull_19 : decode cX6_pull 19 = .ok (.iastore, 1) := by decide +kernel
theorem dX6_pull_20 : decode cX6_pull 20 = .ok (.aload_n 0, 1) := by decide +kernel
theorem dX6_pull_21 : decode cX6_pull 21 = .ok (.getfield 22, 3) := by decide +kernel
theorem dX6_pull_24 : decode cX6_pull 24 = .ok (.bipush 7, 2) := by decide +kernel
theorem dX6_pull_26 : decode cX6_pull 26 = .ok (.iload_n 1, 1) := by decide +kernel
theorem dX6_pull_27 : decode cX6_pull 27 = .ok (.imul, 1) := by decide +kernel
theorem dX6_pull_28 : decode cX6_pull 28 = .ok (.iconst 1, 1) := by decide +kernel
theorem dX6_pull_29 : decode cX6_pull 29 = .ok (.iadd, 1) := by decide +kernel
theorem dX6_pull_30 : decode cX6_pull 30 = .ok (.aload_n 0, 1) := by decide +kernel
theorem dX6_pull_31 : decode cX6_pull 31 = .ok (.getfield 22, 3) := by decide +kernel
theorem dX6_pull_34 : decode cX6_pull 34 = .ok (.bipush 7, 2) := by decide +kernel
theorem dX6_pull_36 : decode cX6_pull 36 = .ok (.iload_n 1, 1) := by decide +kernel
theorem dX6_pull_37 : decode cX6_pull 37 = .ok (.imul, 1) := by decide +kernel
theorem dX6_pull_38 : decode cX6_pull 38 = .ok (.iconst 2, 1) := by decide +kernel
theorem dX6_pull_39 : decode cX6_pull 39 = .ok (.iadd, 1) := by decide +kernel
theorem dX6_pull_40 : decode cX6_pull 40 = .ok (.iaload, 1) := by decide +kernel
theorem dX6_pull_41 : decode cX6_pull 41 = .ok (.iastore, 1) := by decide +kernel
theorem dX6_pull_42 : decode cX6_pull 42 = .ok (.return_, 1) := by decide +kernel
theorem dX6_tell_0 : decode cX6_tell 0 = .ok (.iconst 5, 1) := by decide +kernel
theorem dX6_tell_1 : decode cX6_tell 1 = .ok (.aload_n 0, 1) := by decide +kernel
theorem dX6_tell_2 : decode cX6_tell 2 = .ok (.getfield 62, 3) := by decide +kernel
theorem dX6_tell_5 : decode cX6_tell 5 = .ok (.bipush 16, 2) := by decide +kernel
theorem dX6_tell_7 : decode cX6_tell 7 = .ok (.irem, 1) := by decide +kernel
theorem dX6_tell_8 : decode cX6_tell 8 = .ok (.imul, 1) := by decide +kernel
theorem dX6_tell_9 : decode cX6_tell 9 = .ok (.istore 5, 2) := by decide +kernel
theorem dX6_tell_11 : decode cX6_tell 11 = .ok (.aload_n 0, 1) := by decide +kernel
theorem dX6_tell_12 : decode cX6_tell 12 = .ok (.getfield 37, 3) := by decide +kernel
theorem dX6_tell_15 : decode cX6_tell 15 = .ok (.iload 5, 2) := by decide +kernel
theorem dX6_tell_17 : decode cX6_tell 17 = .ok (.iload_n 1, 1) := by decide +kernel
theorem dX6_tell_18 : decode cX6_tell 18 = .ok (.iastore, 1) := by decide +kernel
theorem dX6_tell_19 : decode cX6_tell 19 = .ok (.aload_n 0, 1) := by decide +kernel
theorem dX6_tell_20 : decode cX6_tell 20 = .ok (.getfield 37, 3) := by decide +kernel
theorem dX6_tell_23 : decode cX6_tell 23 = .ok (.iload 5, 2) := by decide +kernel
theorem dX6_tell_25 : decode cX6_tell 25 = .ok (.iconst 1, 1) := by decide +kernel
theorem dX6_tell_26 : decode cX6_tell 26 = .ok (.iadd, 1) := by decide +kernel
theorem dX6_tell_27 : decode cX6_tell 27 = .ok (.iload_n 2, 1) := by decide +kernel
theorem dX6_tell_28 : decode cX6_tell 28 = .ok (.iastore, 1) := by decide +kernel
theorem dX6_tell_29 : decode cX6_tell 29 = .ok (.aload_n 0, 1) := by decide +kernel
theorem dX6_tell_30 : decode cX6_tell 30 = .ok (.getfield 37, 3) := by decide +kernel
theorem dX6_tell_33 : decode cX6_tell 33 = .ok (.iload 5, 2) := by decide +kernel
theorem dX6_tell_35 : decode cX6_tell 35 = .ok (.iconst 2, 1) := by decide +kernel
theorem dX6_tell_36 : decode cX6_tell 36 = .ok (.iadd, 1) := by decide +kernel
theorem dX6_tell_37 : decode cX6_tell 37 = .ok (.iload_n 3, 1) := by decide +kernel
theorem dX6_tell_38 : decode cX6_tell 38 = .ok (.iastore, 1) := by decide +kernel
theorem dX6_tell_39 : decode cX6_tell 39 = .ok (.aload_n 0, 1) := by decide +kernel
theorem dX6_tell_40 : decode cX6_tell 40 = .ok (.getfield 37, 3) := by decide +kernel
theorem dX6_tell_43 : decode cX6_tell 43 = .ok (.iload 5, 2) := by decide +kernel
theorem dX6_tell_45 : decode cX6_tell 45 = .ok (.iconst 3, 1) := by decide +kernel
theorem dX6_tell_46 : decode cX6_tell 46 = .ok (.iadd, 1) := by decide +kernel
theorem dX6_tell_47 : decode cX6_tell 47 = .ok (.iload 4, 2) := by decide +kernel
theorem dX6_tell_49 : decode cX6_tell 49 = .ok (.iastore, 1) := by decide +kernel
theorem dX6_tell_50 : decode cX6_tell 50 = .ok (.aload_n 0, 1) := by decide +kernel
theorem dX6_tell_51 : decode cX6_tell 51 = .ok (.getfield 37, 3) := by decide +kernel
theorem dX6_tell_54 : decode cX6_tell 54 = .ok (.iload 5, 2) := by decide +kernel
theorem dX6_tell_56 : decode cX6_tell 56 = .ok (.iconst 4, 1) := by decide +kernel
theorem dX6_tell_57 : decode cX6_tell 57 = .ok (.iadd, 1) := by decide +kernel
theorem dX6_tell_58 : decode cX6_tell 58 = .ok (.aload_n 0, 1) := by decide +kernel
theorem dX6_tell_59 : decode cX6_tell 59 = .ok (.getfield 59, 3) := by decide +kernel
theorem dX6_tell_62 : decode cX6_tell 62 = .ok (.iastore, 1) := by decide +kernel
theorem dX6_tell_63 : decode cX6_tell 63 = .ok (.aload_n 0, 1) := by decide +kernel
theorem dX6_tell_64 : decode cX6_tell 64 = .ok (.dup, 1) := by decide +kernel
theorem dX6_tell_65 : decode cX6_tell 65 = .ok (.getfield 62, 3) := by decide +kernel
theorem dX6_tell_68 : decode cX6_tell 68 = .ok (.iconst 1, 1) := by decide +kernel
theorem dX6_tell_69 : decode cX6_tell 69 = .ok (.iadd, 1) := by decide +kernel
theorem dX6_tell_70 : decode cX6_tell 70 = .ok (.putfield 62, 3) := by decide +kernel
theorem dX6_tell_73 : decode cX6_tell 73 = .ok (.aload_n 0, 1) := by decide +kernel
theorem dX6_tell_74 : decode cX6_tell 74 = .ok (.iload_n 3, 1) := by decide +kernel
theorem dX6_tell_75 : decode cX6_tell 75 = .ok (.iload 4, 2) := by decide +kernel
theorem dX6_tell_77 : decode cX6_tell 77 = .ok (.invokevirtual 65, 3) := by decide +kernel
theorem dX6_tell_80 : decode cX6_tell 80 = .ok (.aload_n 0, 1) := by decide +kernel
theorem dX6_tell_81 : decode cX6_tell 81 = .ok (.getfield 34, 3) := by decide +kernel
theorem dX6_tell_84 : decode cX6_tell 84 = .ok (.iload_n 1, 1) := by decide +kernel
theorem dX6_tell_85 : decode cX6_tell 85 = .ok (.iconst 0, 1) := by decide +kernel
theorem dX6_tell_86 : decode cX6_tell 86 = .ok (.iastore, 1) := by decide +kernel
theorem dX6_tell_87 : decode cX6_tell 87 = .ok (.return_, 1) := by decide +kernel
theorem dX6_send_0 : decode cX6_send 0 = .ok (.aload_n 0, 1) := by decide +kernel
theorem dX6_send_1 : decode cX6_send 1 = .ok (.getfield 34, 3) := by decide +kernel
theorem dX6_send_4 : decode cX6_send 4 = .ok (.iload_n 2, 1) := by decide +kernel
theorem dX6_send_5 : decode cX6_send 5 = .ok (.iaload, 1) := by decide +kernel
theorem dX6_send_6 : decode cX6_send 6 = .ok (.bipush 8, 2) := by decide +kernel
theorem dX6_send_8 : decode cX6_send 8 = .ok (.irem, 1) := by decide +kernel
theorem dX6_send_9 : decode cX6_send 9 = .ok (.istore_n 3, 1) := by decide +kernel
theorem dX6_send_10 : decode cX6_send 10 = .ok (.aload_n 0, 1) := by decide +kernel
theorem dX6_send_11 : decode cX6_send 11 = .ok (.getfield 22, 3) := by decide +kernel
theorem dX6_send_14 : decode cX6_send 14 = .ok (.bipush 7, 2) := by decide +kernel
theorem dX6_send_16 : decode cX6_send 16 = .ok (.iload_n 1, 1) := by decide +kernel
theorem dX6_send_17 : decode cX6_send 17 = .ok (.imul, 1) := by decide +kernel
theorem dX6_send_18 : decode cX6_send 18 = .ok (.iaload, 1) := by decide +kernel
theorem dX6_send_19 : decode cX6_send 19 = .ok (.istore 4, 2) := by decide +kernel
theorem dX6_send_21 : decode cX6_send 21 = .ok (.aload_n 0, 1) := by decide +kernel
theorem dX6_send_22 : decode cX6_send 22 = .ok (.getfield 34, 3) := by decide +kernel
theorem dX6_send_25 : decode cX6_send 25 = .ok (.iload_n 2, 1) := by decide +kernel
theorem dX6_send_26 : decode cX6_send 26 = .ok (.iaload, 1) := by decide +kernel
theorem dX6_send_27 : decode cX6_send 27 = .ok (.bipush 8, 2) := by decide +kernel
theorem dX6_send_29 : decode cX6_send 29 = .ok (.if_icmp .lt 32, 3) := by decide +kernel
theorem dX6_send_32 : decode cX6_send 32 = .ok (.aload_n 0, 1) := by decide +kernel
theorem dX6_send_33 : decode cX6_send 33 = .ok (.getfield 34, 3) := by decide +kernel
theorem dX6_send_36 : decode cX6_send 36 = .ok (.iload_n 2, 1) := by decide +kernel
theorem dX6_send_37 : decode cX6_send 37 = .ok (.iaload, 1) := by decide +kernel
theorem dX6_send_38 : decode cX6_send 38 = .ok (.bipush 16, 2) := by decide +kernel
theorem dX6_send_40 : decode cX6_send 40 = .ok (.if_icmp .ge 21, 3) := by decide +kernel
theorem dX6_send_43 : decode cX6_send 43 = .ok (.aload_n 0, 1) := by decide +kernel
theorem dX6_send_44 : decode cX6_send 44 = .ok (.getfield 13, 3) := by decide +kernel
theorem dX6_send_47 : decode cX6_send 47 = .ok (.iload_n 1, 1) := by decide +kernel
theorem dX6_send_48 : decode cX6_send 48 = .ok (.iconst 5, 1) := by decide +kernel
theorem dX6_send_49 : decode cX6_send 49 = .ok (.iastore, 1) := by decide +kernel
theorem dX6_send_50 : decode cX6_send 50 = .ok (.aload_n 0, 1) := by decide +kernel
theorem dX6_send_51 : decode cX6_send 51 = .ok (.getfield 19, 3) := by decide +kernel
theorem dX6_send_54 : decode cX6_send 54 = .ok (.iload_n 1, 1) := by decide +kernel
theorem dX6_send_55 : decode cX6_send 55 = .ok (.dup2, 1) := by decide +kernel
theorem dX6_send_56 : decode cX6_send 56 = .ok (.iaload, 1) := by decide +kernel
theorem dX6_send_57 : decode cX6_send 57 = .ok (.iconst 1, 1) := by decide +kernel
theorem dX6_send_58 : decode cX6_send 58 = .ok (.isub, 1) := by decide +kernel
theorem dX6_send_59 : decode cX6_send 59 = .ok (.iastore, 1) := by decide +kernel
theorem dX6_send_60 : decode cX6_send 60 = .ok (.return_, 1) := by decide +kernel
theorem dX6_send_61 : decode cX6_send 61 = .ok (.aload_n 0, 1) := by decide +kernel
theorem dX6_send_62 : decode cX6_send 62 = .ok (.iload_n 1, 1) := by decide +kernel
theorem dX6_send_63 : decode cX6_send 63 = .ok (.invokevirtual 69, 3) := by decide +kernel
theorem dX6_send_66 : decode cX6_send 66 = .ok (.aload_n 0, 1) := by decide +kernel
theorem dX6_send_67 : decode cX6_send 67 = .ok (.getfield 34, 3) := by decide +kernel
theorem dX6_send_70 : decode cX6_send 70 = .ok (.iload_n 2, 1) := by decide +kernel
theorem dX6_send_71 : decode cX6_send 71 = .ok (.iaload, 1) := by decide +kernel
theorem dX6_send_72 : decode cX6_send 72 = .ok (.ifCond .ne 31, 3) := by decide +kernel
theorem dX6_send_75 : decode cX6_send 75 = .ok (.aload_n 0, 1) := by decide +kernel
theorem dX6_send_76 : decode cX6_send 76 = .ok (.getfield 13, 3) := by decide +kernel
theorem dX6_send_79 : decode cX6_send 79 = .ok (.iload_n 1, 1) := by decide +kernel
theorem dX6_send_80 : decode cX6_send 80 = .ok (.iconst 3, 1) := by decide +kernel
theorem dX6_send_81 : decode cX6_send 81 = .ok (.iastore, 1) := by decide +kernel
theorem dX6_send_82 : decode cX6_send 82 = .ok (.aload_n 0, 1) := by decide +kernel
theorem dX6_send_83 : decode cX6_send 83 = .ok (.getfield 31, 3) := by decide +kernel
theorem dX6_send_86 : decode cX6_send 86 = .ok (.iload_n 1, 1) := by decide +kernel
theorem dX6_send_87 : decode cX6_send 87 = .ok (.iload 4, 2) := by decide +kernel
theorem dX6_send_89 : decode cX6_send 89 = .ok (.iastore, 1) := by decide +kernel
theorem dX6_send_90 : decode cX6_send 90 = .ok (.aload_n 0, 1) := by decide +kernel
theorem dX6_send_91 : decode cX6_send 91 = .ok (.getfield 34, 3) := by decide +kernel
theorem dX6_send_94 : decode cX6_send 94 = .ok (.iload_n 2, 1) := by decide +kernel
theorem dX6_send_95 : decode cX6_send 95 = .ok (.bipush 8, 2) := by decide +kernel
theorem dX6_send_97 : decode cX6_send 97 = .ok (.iload_n 1, 1) := by decide +kernel
theorem dX6_send_98 : decode cX6_send 98 = .ok (.iadd, 1) := by decide +kernel
theorem dX6_send_99 : decode cX6_send 99 = .ok (.iastore, 1) := by decide +kernel
theorem dX6_send_100 : decode cX6_send 100 = .ok (.goto 17, 3) := by decide +kernel
theorem dX6_send_103 : decode cX6_send 103 = .ok (.aload_n 0, 1) := by decide +kernel
theorem dX6_send_104 : decode cX6_send 104 = .ok (.iload_n 2, 1) := by decide +kernel
theorem dX6_send_105 : decode cX6_send 105 = .ok (.iload_n 1, 1) := by decide +kernel
theorem dX6_send_106 : decode cX6_send 106 = .ok (.iload_n 3, 1) := by decide +kernel
theorem dX6_send_107 : decode cX6_send 107 = .ok (.iload 4, 2) := by decide +kernel
theorem dX6_send_109 : decode cX6_send 109 = .ok (.invokevirtual 72, 3) := by decide +kernel
theorem dX6_send_112 : decode cX6_send 112 = .ok (.aload_n 0, 1) := by decide +kernel
theorem dX6_send_113 : decode cX6_send 113 = .ok (.iload_n 3, 1) := by decide +kernel
theorem dX6_send_114 : decode cX6_send 114 = .ok (.invokevirtual 51, 3) := by decide +kernel
theorem dX6_send_117 : decode cX6_send 117 = .ok (.return_, 1) := by decide +kernel
theorem dX6_receive_0 : decode cX6_receive 0 = .ok (.aload_n 0, 1) := by decide +kernel
theorem dX6_receive_1 : decode cX6_receive 1 = .ok (.getfield 34, 3) := by decide +kernel
theorem dX6_receive_4 : decode cX6_receive 4 = .ok (.iload_n 2, 1) := by decide +kernel
theorem dX6_receive_5 : decode cX6_receive 5 = .ok (.iaload, 1) := by decide +kernel
theorem dX6_receive_6 : decode cX6_receive 6 = .ok (.bipush 8, 2) := by decide +kernel
theorem dX6_receive_8 : decode cX6_receive 8 = .ok (.irem, 1) := by decide +kernel
theorem dX6_receive_9 : decode cX6_receive 9 = .ok (.istore_n 3, 1) := by decide +kernel
theorem dX6_receive_10 : decode cX6_receive 10 = .ok (.aload_n 0, 1) := by decide +kernel
theorem dX6_receive_11 : decode cX6_receive 11 = .ok (.getfield 34, 3) := by decide +kernel
theorem dX6_receive_14 : decode cX6_receive 14 = .ok (.iload_n 2, 1) := by decide +kernel
theorem dX6_receive_15 : decode cX6_receive 15 = .ok (.iaload, 1) := by decide +kernel
theorem dX6_receive_16 : decode cX6_receive 16 = .ok (.bipush 16, 2) := by decide +kernel
theorem dX6_receive_18 : decode cX6_receive 18 = .ok (.if_icmp .lt 23, 3) := by decide +kernel
theorem dX6_receive_21 : decode cX6_receive 21 = .ok (.aload_n 0, 1) := by decide +kernel
theorem dX6_receive_22 : decode cX6_receive 22 = .ok (.getfield 13, 3) := by decide +kernel
theorem dX6_receive_25 : decode cX6_receive 25 = .ok (.iload_n 1, 1) := by decide +kernel
theorem dX6_receive_26 : decode cX6_receive 26 = .ok (.iconst 5, 1) := by decide +kernel
theorem dX6_receive_27 : decode cX6_receive 27 = .ok (.iastore, 1) := by decide +kernel
theorem dX6_receive_28 : decode cX6_receive 28 = .ok (.aload_n 0, 1) := by decide +kernel
theorem dX6_receive_29 : decode cX6_receive 29 = .ok (.getfield 19, 3) := by decide +kernel
theorem dX6_receive_32 : decode cX6_receive 32 = .ok (.iload_n 1, 1) := by decide +kernel
theorem dX6_receive_33 : decode cX6_receive 33 = .ok (.dup2, 1) := by decide +kernel
theorem dX6_receive_34 : decode cX6_receive 34 = .ok (.iaload, 1) := by decide +kernel
theorem dX6_receive_35 : decode cX6_receive 35 = .ok (.iconst 1, 1) := by decide +kernel
theorem dX6_receive_36 : decode cX6_receive 36 = .ok (.isub, 1) := by decide +kernel
theorem dX6_receive_37 : decode cX6_receive 37 = .ok (.iastore, 1) := by decide +kernel
theorem dX6_receive_38 : decode cX6_receive 38 = .ok (.goto 50, 3) := by decide +kernel
theorem dX6_receive_41 : decode cX6_receive 41 = .ok (.aload_n 0, 1) := by decide +kernel
theorem dX6_receive_42 : decode cX6_receive 42 = .ok (.getfield 34, 3) := by decide +kernel
theorem dX6_receive_45 : decode cX6_receive 45 = .ok (.iload_n 2, 1) := by decide +kernel
theorem dX6_receive_46 : decode cX6_receive 46 = .ok (.iaload, 1) := by decide +kernel
theorem dX6_receive_47 : decode cX6_receive 47 = .ok (.ifCond .ne 23, 3) := by decide +kernel
theorem dX6_receive_50 : decode cX6_receive 50 = .ok (.aload_n 0, 1) := by decide +kernel
theorem dX6_receive_51 : decode cX6_receive 51 = .ok (.getfield 13, 3) := by decide +kernel
theorem dX6_receive_54 : decode cX6_receive 54 = .ok (.iload_n 1, 1) := by decide +kernel
theorem dX6_receive_55 : decode cX6_receive 55 = .ok (.iconst 3, 1) := by decide +kernel
theorem dX6_receive_56 : decode cX6_receive 56 = .ok (.iastore, 1) := by decide +kernel
theorem dX6_receive_57 : decode cX6_receive 57 = .ok (.aload_n 0, 1) := by decide +kernel
theorem dX6_receive_58 : decode cX6_receive 58 = .ok (.getfield 34, 3) := by decide +kernel
theorem dX6_receive_61 : decode cX6_receive 61 = .ok (.iload_n 2, 1) := by decide +kernel
theorem dX6_receive_62 : decode cX6_receive 62 = .ok (.bipush 16, 2) := by decide +kernel
theorem dX6_receive_64 : decode cX6_receive 64 = .ok (.iload_n 1, 1) := by decide +kernel
theorem dX6_receive_65 : decode cX6_receive 65 = .ok (.iadd, 1) := by decide +kernel
theorem dX6_receive_66 : decode cX6_receive 66 = .ok (.iastore, 1) := by decide +kernel
theorem dX6_receive_67 : decode cX6_receive 67 = .ok (.goto 21, 3) := by decide +kernel
theorem dX6_receive_70 : decode cX6_receive 70 = .ok (.aload_n 0, 1) := by decide +kernel
theorem dX6_receive_71 : decode cX6_receive 71 = .ok (.iload_n 2, 1) := by decide +kernel
theorem dX6_receive_72 : decode cX6_receive 72 = .ok (.iload_n 3, 1) := by decide +kernel
theorem dX6_receive_73 : decode cX6_receive 73 = .ok (.iload_n 1, 1) := by decide +kernel
theorem dX6_receive_74 : decode cX6_receive 74 = .ok (.aload_n 0, 1) := by decide +kernel
theorem dX6_receive_75 : decode cX6_receive 75 = .ok (.getfield 31, 3) := by decide +kernel
theorem dX6_receive_78 : decode cX6_receive 78 = .ok (.iload_n 3, 1) := by decide +kernel
theorem dX6_receive_79 : decode cX6_receive 79 = .ok (.iaload, 1) := by decide +kernel
theorem dX6_receive_80 : decode cX6_receive 80 = .ok (.invokevirtual 72, 3) := by decide +kernel
theorem dX6_receive_83 : decode cX6_receive 83 = .ok (.aload_n 0, 1) := by decide +kernel
theorem dX6_receive_84 : decode cX6_receive 84 = .ok (.iload_n 3, 1) := by decide +kernel
theorem dX6_receive_85 : decode cX6_receive 85 = .ok (.invokevirtual 51, 3) := by decide +kernel
theorem dX6_receive_88 : decode cX6_receive 88 = .ok (.return_, 1) := by decide +kernel
theorem dX6_value_0 : decode cX6_value 0 = .ok (.iload_n 0, 1) := by decide +kernel
theorem dX6_value_1 : decode cX6_value 1 = .ok (.iconst 4, 1) := by decide +kernel
theorem dX6_value_2 : decode cX6_value 2 = .ok (.if_icmp .ne 9, 3) := by decide +kernel
theorem dX6_value_5 : decode cX6_value 5 = .ok (.iload_n 2, 1) := by decide +kernel
theorem dX6_value_6 : decode cX6_value 6 = .ok (.iload_n 1, 1) := by decide +kernel
theorem dX6_value_7 : decode cX6_value 7 = .ok (.iadd, 1) := by decide +kernel
theorem dX6_value_8 : decode cX6_value 8 = .ok (.goto 36, 3) := by decide +kernel
theorem dX6_value_11 : decode cX6_value 11 = .ok (.iload_n 0, 1) := by decide +kernel
theorem dX6_value_12 : decode cX6_value 12 = .ok (.iconst 5, 1) := by decide +kernel
theorem dX6_value_13 : decode cX6_value 13 = .ok (.if_icmp .ne 9, 3) := by decide +kernel
theorem dX6_value_16 : decode cX6_value 16 = .ok (.iload_n 2, 1) := by decide +kernel
theorem dX6_value_17 : decode cX6_value 17 = .ok (.iload_n 1, 1) := by decide +kernel
theorem dX6_value_18 : decode cX6_value 18 = .ok (.isub, 1) := by decide +kernel
theorem dX6_value_19 : decode cX6_value 19 = .ok (.goto 25, 3) := by decide +kernel
theorem dX6_value_22 : decode cX6_value 22 = .ok (.iload_n 0, 1) := by decide +kernel
theorem dX6_value_23 : decode cX6_value 23 = .ok (.bipush 6, 2) := by decide +kernel
theorem dX6_value_25 : decode cX6_value 25 = .ok (.if_icmp .ne 9, 3) := by decide +kernel
theorem dX6_value_28 : decode cX6_value 28 = .ok (.iload_n 2, 1) := by decide +kernel
theorem dX6_value_29 : decode cX6_value 29 = .ok (.iload_n 1, 1) := by decide +kernel
theorem dX6_value_30 : decode cX6_value 30 = .ok (.imul, 1) := by decide +kernel
theorem dX6_value_31 : decode cX6_value 31 = .ok (.goto 13, 3) := by decide +kernel
theorem dX6_value_34 : decode cX6_value 34 = .ok (.iload_n 2, 1) := by decide +kernel
theorem dX6_value_35 : decode cX6_value 35 = .ok (.iload_n 1, 1) := by decide +kernel
theorem dX6_value_36 : decode cX6_value 36 = .ok (.if_icmp .le 7, 3) := by decide +kernel
theorem dX6_value_39 : decode cX6_value 39 = .ok (.iconst 1, 1) := by decide +kernel
theorem dX6_value_40 : decode cX6_value 40 = .ok (.goto 4, 3) := by decide +kernel
theorem dX6_value_43 : decode cX6_value 43 = .ok (.iconst 0, 1) := by decide +kernel
theorem dX6_value_44 : decode cX6_value 44 = .ok (.ireturn, 1) := by decide +kernel
theorem dX6_instruction_0 : decode cX6_instruction 0 = .ok (.aload_n 0, 1) := by decide +kernel
theorem dX6_instruction_1 : decode cX6_instruction 1 = .ok (.getfield 19, 3) := by decide +kernel
theorem dX6_instruction_4 : decode cX6_instruction 4 = .ok (.iload_n 1, 1) := by decide +kernel
theorem dX6_instruction_5 : decode cX6_instruction 5 = .ok (.iaload, 1) := by decide +kernel
theorem dX6_instruction_6 : decode cX6_instruction 6 = .ok (.istore_n 2, 1) := by decide +kernel
theorem dX6_instruction_7 : decode cX6_instruction 7 = .ok (.iload_n 2, 1) := by decide +kernel
theorem dX6_instruction_8 : decode cX6_instruction 8 = .ok (.aload_n 0, 1) := by decide +kernel
theorem dX6_instruction_9 : decode cX6_instruction 9 = .ok (.getfield 44, 3) := by decide +kernel
theorem dX6_instruction_12 : decode cX6_instruction 12 = .ok (.if_icmp .ge 14, 3) := by decide +kernel
theorem dX6_instruction_15 : decode cX6_instruction 15 = .ok (.aload_n 0, 1) := by decide +kernel
theorem dX6_instruction_16 : decode cX6_instruction 16 = .ok (.getfield 7, 3) := by decide +kernel
theorem dX6_instruction_19 : decode cX6_instruction 19 = .ok (.iconst 2, 1) := by decide +kernel
theorem dX6_instruction_20 : decode cX6_instruction 20 = .ok (.iload_n 2, 1) := by decide +kernel
theorem dX6_instruction_21 : decode cX6_instruction 21 = .ok (.imul, 1) := by decide +kernel
theorem dX6_instruction_22 : decode cX6_instruction 22 = .ok (.iaload, 1) := by decide +kernel
theorem dX6_instruction_23 : decode cX6_instruction 23 = .ok (.goto 4, 3) := by decide +kernel
theorem dX6_instruction_26 : decode cX6_instruction 26 = .ok (.iconst 0, 1) := by decide +kernel
theorem dX6_instruction_27 : decode cX6_instruction 27 = .ok (.istore_n 3, 1) := by decide +kernel
theorem dX6_instruction_28 : decode cX6_instruction 28 = .ok (.iload_n 2, 1) := by decide +kernel
theorem dX6_instruction_29 : decode cX6_instruction 29 = .ok (.aload_n 0, 1) := by decide +kernel
theorem dX6_instruction_30 : decode cX6_instruction 30 = .ok (.getfield 44, 3) := by decide +kernel
theorem dX6_instruction_33 : decode cX6_instruction 33 = .ok (.if_icmp .ge 16, 3) := by decide +kernel
theorem dX6_instruction_36 : decode cX6_instruction 36 = .ok (.aload_n 0, 1) := by decide +kernel
theorem dX6_instruction_37 : decode cX6_instruction 37 = .ok (.getfield 7, 3) := by decide +kernel
theorem dX6_instruction_40 : decode cX6_instruction 40 = .ok (.iconst 2, 1) := by decide +kernel
theorem dX6_instruction_41 : decode cX6_instruction 41 = .ok (.iload_n 2, 1) := by decide +kernel
theorem dX6_instruction_42 : decode cX6_instruction 42 = .ok (.imul, 1) := by decide +kernel
theorem dX6_instruction_43 : decode cX6_instruction 43 = .ok (.iconst 1, 1) := by decide +kernel
theorem dX6_instruction_44 : decode cX6_instruction 44 = .ok (.iadd, 1) := by decide +kernel
theorem dX6_instruction_45 : decode cX6_instruction 45 = .ok (.iaload, 1) := by decide +kernel
theorem dX6_instruction_46 : decode cX6_instruction 46 = .ok (.goto 4, 3) := by decide +kernel
theorem dX6_instruction_49 : decode cX6_instruction 49 = .ok (.iconst 0, 1) := by decide +kernel
theorem dX6_instruction_50 : decode cX6_instruction 50 = .ok (.istore 4, 2) := by decide +kernel
theorem dX6_instruction_52 : decode cX6_instruction 52 = .ok (.aload_n 0, 1) := by decide +kernel
theorem dX6_instruction_53 : decode cX6_instruction 53 = .ok (.getfield 22, 3) := by decide +kernel
theorem dX6_instruction_56 : decode cX6_instruction 56 = .ok (.bipush 7, 2) := by decide +kernel
theorem dX6_instruction_58 : decode cX6_instruction 58 = .ok (.iload_n 1, 1) := by decide +kernel
theorem dX6_instruction_59 : decode cX6_instruction 59 = .ok (.imul, 1) := by decide +kernel
theorem dX6_instruction_60 : decode cX6_instruction 60 = .ok (.iaload, 1) := by decide +kernel
theorem dX6_instruction_61 : decode cX6_instruction 61 = .ok (.istore 5, 2) := by decide +kernel
theorem dX6_instruction_63 : decode cX6_instruction 63 = .ok (.aload_n 0, 1) := by decide +kernel
theorem dX6_instruction_64 : decode cX6_instruction 64 = .ok (.dup, 1) := by decide +kernel
theorem dX6_instruction_65 : decode cX6_instruction 65 = .ok (.getfield 76, 3) := by decide +kernel
theorem dX6_instruction_68 : decode cX6_instruction 68 = .ok (.iconst 1, 1) := by decide +kernel
theorem dX6_instruction_69 : decode cX6_instruction 69 = .ok (.iadd, 1) := by decide +kernel
theorem dX6_instruction_70 : decode cX6_instruction 70 = .ok (.putfield 76, 3) := by decide +kernel
theorem dX6_instruction_73 : decode cX6_instruction 73 = .ok (.iload_n 3, 1) := by decide +kernel
theorem dX6_instruction_74 : decode cX6_instruction 74 = .ok (.ifCond .ne 11, 3) := by decide +kernel
theorem dX6_instruction_77 : decode cX6_instruction 77 = .ok (.aload_n 0, 1) := by decide +kernel
theorem dX6_instruction_78 : decode cX6_instruction 78 = .ok (.getfield 13, 3) := by decide +kernel
theorem dX6_instruction_81 : decode cX6_instruction 81 = .ok (.iload_n 1, 1) := by decide +kernel
theorem dX6_instruction_82 : decode cX6_instruction 82 = .ok (.iconst 5, 1) := by decide +kernel
theorem dX6_instruction_83 : decode cX6_instruction 83 = .ok (.iastore, 1) := by decide +kernel
theorem dX6_instruction_84 : decode cX6_instruction 84 = .ok (.return_, 1) := by decide +kernel
theorem dX6_instruction_85 : decode cX6_instruction 85 = .ok (.aload_n 0, 1) := by decide +kernel
theorem dX6_instruction_86 : decode cX6_instruction 86 = .ok (.getfield 19, 3) := by decide +kernel
theorem dX6_instruction_89 : decode cX6_instruction 89 = .ok (.iload_n 1, 1) := by decide +kernel
theorem dX6_instruction_90 : decode cX6_instruction 90 = .ok (.iload_n 2, 1) := by decide +kernel
theorem dX6_instruction_91 : decode cX6_instruction 91 = .ok (.iconst 1, 1) := by decide +kernel
theorem dX6_instruction_92 : decode cX6_instruction 92 = .ok (.iadd, 1) := by decide +kernel
theorem dX6_instruction_93 : decode cX6_instruction 93 = .ok (.iastore, 1) := by decide +kernel
theorem dX6_instruction_94 : decode cX6_instruction 94 = .ok (.iload_n 3, 1) := by decide +kernel
theorem dX6_instruction_95 : decode cX6_instruction 95 = .ok (.tableswitch 326 1 14 #[69, 79, 101, 125, 125, 125, 125, 176, 211, 235, 245, 255, 267, 300], 69) := by decide +kernel
theorem dX6_instruction_164 : decode cX6_instruction 164 = .ok (.aload_n 0, 1) := by decide +kernel
theorem dX6_instruction_165 : decode cX6_instruction 165 = .ok (.iload_n 1, 1) := by decide +kernel
theorem dX6_instruction_166 : decode cX6_instruction 166 = .ok (.iload 4, 2) := by decide +kernel
theorem dX6_instruction_168 : decode cX6_instruction 168 = .ok (.invokevirtual 65, 3) := by decide +kernel
theorem dX6_instruction_171 : decode cX6_instruction 171 = .ok (.goto 257, 3) := by decide +kernel
theorem dX6_instruction_174 : decode cX6_instruction 174 = .ok (.aload_n 0, 1) := by decide +kernel
theorem dX6_instruction_175 : decode cX6_instruction 175 = .ok (.iload_n 1, 1) := by decide +kernel
theorem dX6_instruction_176 : decode cX6_instruction 176 = .ok (.aload_n 0, 1) := by decide +kernel
theorem dX6_instruction_177 : decode cX6_instruction 177 = .ok (.getfield 22, 3) := by decide +kernel
theorem dX6_instruction_180 : decode cX6_instruction 180 = .ok (.bipush 7, 2) := by decide +kernel
theorem dX6_instruction_182 : decode cX6_instruction 182 = .ok (.iload_n 1, 1) := by decide +kernel
theorem dX6_instruction_183 : decode cX6_instruction 183 = .ok (.imul, 1) := by decide +kernel
theorem dX6_instruction_184 : decode cX6_instruction 184 = .ok (.iconst 3, 1) := by decide +kernel
theorem dX6_instruction_185 : decode cX6_instruction 185 = .ok (.iadd, 1) := by decide +kernel
theorem dX6_instruction_186 : decode cX6_instruction 186 = .ok (.iload 4, 2) := by decide +kernel
theorem dX6_instruction_188 : decode cX6_instruction 188 = .ok (.iadd, 1) := by decide +kernel
theorem dX6_instruction_189 : decode cX6_instruction 189 = .ok (.iaload, 1) := by decide +kernel
theorem dX6_instruction_190 : decode cX6_instruction 190 = .ok (.invokevirtual 65, 3) := by decide +kernel
theorem dX6_instruction_193 : decode cX6_instruction 193 = .ok (.goto 235, 3) := by decide +kernel
theorem dX6_instruction_196 : decode cX6_instruction 196 = .ok (.aload_n 0, 1) := by decide +kernel
theorem dX6_instruction_197 : decode cX6_instruction 197 = .ok (.getfield 22, 3) := by decide +kernel
theorem dX6_instruction_200 : decode cX6_instruction 200 = .ok (.bipush 7, 2) := by decide +kernel
theorem dX6_instruction_202 : decode cX6_instruction 202 = .ok (.iload_n 1, 1) := by decide +kernel
theorem dX6_instruction_203 : decode cX6_instruction 203 = .ok (.imul, 1) := by decide +kernel
theorem dX6_instruction_204 : decode cX6_instruction 204 = .ok (.iconst 3, 1) := by decide +kernel
theorem dX6_instruction_205 : decode cX6_instruction 205 = .ok (.iadd, 1) := by decide +kernel
theorem dX6_instruction_206 : decode cX6_instruction 206 = .ok (.iload 4, 2) := by decide +kernel
theorem dX6_instruction_208 : decode cX6_instruction 208 = .ok (.iadd, 1) := by decide +kernel
theorem dX6_instruction_209 : decode cX6_instruction 209 = .ok (.iload 5, 2) := by decide +kernel
theorem dX6_instruction_211 : decode cX6_instruction 211 = .ok (.iastore, 1) := by decide +kernel
theorem dX6_instruction_212 : decode cX6_instruction 212 = .ok (.aload_n 0, 1) := by decide +kernel
theorem dX6_instruction_213 : decode cX6_instruction 213 = .ok (.iload_n 1, 1) := by decide +kernel
theorem dX6_instruction_214 : decode cX6_instruction 214 = .ok (.invokevirtual 69, 3) := by decide +kernel
theorem dX6_instruction_217 : decode cX6_instruction 217 = .ok (.goto 211, 3) := by decide +kernel
theorem dX6_instruction_220 : decode cX6_instruction 220 = .ok (.aload_n 0, 1) := by decide +kernel
theorem dX6_instruction_221 : decode cX6_instruction 221 = .ok (.getfield 22, 3) := by decide +kernel
theorem dX6_instruction_224 : decode cX6_instruction 224 = .ok (.bipush 7, 2) := by decide +kernel
theorem dX6_instruction_226 : decode cX6_instruction 226 = .ok (.iload_n 1, 1) := by decide +kernel
theorem dX6_instruction_227 : decode cX6_instruction 227 = .ok (.imul, 1) := by decide +kernel
theorem dX6_instruction_228 : decode cX6_instruction 228 = .ok (.iload_n 3, 1) := by decide +kernel
theorem dX6_instruction_229 : decode cX6_instruction 229 = .ok (.iload 5, 2) := by decide +kernel
theorem dX6_instruction_231 : decode cX6_instruction 231 = .ok (.aload_n 0, 1) := by decide +kernel
theorem dX6_instruction_232 : decode cX6_instruction 232 = .ok (.getfield 22, 3) := by decide +kernel
theorem dX6_instruction_235 : decode cX6_instruction 235 = .ok (.bipush 7, 2) := by decide +kernel
theorem dX6_instruction_237 : decode cX6_instruction 237 = .ok (.iload_n 1, 1) := by decide +kernel
theorem dX6_instruction_238 : decode cX6_instruction 238 = .ok (.imul, 1) := by decide +kernel
theorem dX6_instruction_239 : decode cX6_instruction 239 = .ok (.iconst 1, 1) := by decide +kernel
theorem dX6_instruction_240 : decode cX6_instruction 240 = .ok (.iadd, 1) := by decide +kernel
theorem dX6_instruction_241 : decode cX6_instruction 241 = .ok (.iaload, 1) := by decide +kernel
theorem dX6_instruction_242 : decode cX6_instruction 242 = .ok (.invokestatic 79, 3) := by decide +kernel
theorem dX6_instruction_245 : decode cX6_instruction 245 = .ok (.iastore, 1) := by decide +kernel
theorem dX6_instruction_246 : decode cX6_instruction 246 = .ok (.aload_n 0, 1) := by decide +kernel
theorem dX6_instruction_247 : decode cX6_instruction 247 = .ok (.getfield 22, 3) := by decide +kernel
theorem dX6_instruction_250 : decode cX6_instruction 250 = .ok (.bipush 7, 2) := by decide +kernel
theorem dX6_instruction_252 : decode cX6_instruction 252 = .ok (.iload_n 1, 1) := by decide +kernel
theorem dX6_instruction_253 : decode cX6_instruction 253 = .ok (.imul, 1) := by decide +kernel
theorem dX6_instruction_254 : decode cX6_instruction 254 = .ok (.iconst 1, 1) := by decide +kernel
theorem dX6_instruction_255 : decode cX6_instruction 255 = .ok (.iadd, 1) := by decide +kernel
theorem dX6_instruction_256 : decode cX6_instruction 256 = .ok (.aload_n 0, 1) := by decide +kernel
theorem dX6_instruction_257 : decode cX6_instruction 257 = .ok (.getfield 22, 3) := by decide +kernel
theorem dX6_instruction_260 : decode cX6_instruction 260 = .ok (.bipush 7, 2) := by decide +kernel
theorem dX6_instruction_262 : decode cX6_instruction 262 = .ok (.iload_n 1, 1) := by decide +kernel
theorem dX6_instruction_263 : decode cX6_instruction 263 = .ok (.imul, 1) := by decide +kernel
theorem dX6_instruction_264 : decode cX6_instruction 264 = .ok (.iconst 2, 1) := by decide +kernel
theorem dX6_instruction_265 : decode cX6_instruction 265 = .ok (.iadd, 1) := by decide +kernel
theorem dX6_instruction_266 : decode cX6_instruction 266 = .ok (.iaload, 1) := by decide +kernel
theorem dX6_instruction_267 : decode cX6_instruction 267 = .ok (.iastore, 1) := by decide +kernel
theorem dX6_instruction_268 : decode cX6_instruction 268 = .ok (.goto 160, 3) := by decide +kernel
theorem dX6_instruction_271 : decode cX6_instruction 271 = .ok (.aload_n 0, 1) := by decide +kernel
theorem dX6_instruction_272 : decode cX6_instruction 272 = .ok (.getfield 19, 3) := by decide +kernel
theorem dX6_instruction_275 : decode cX6_instruction 275 = .ok (.iload_n 1, 1) := by decide +kernel
theorem dX6_instruction_276 : decode cX6_instruction 276 = .ok (.iload 4, 2) := by decide +kernel
theorem dX6_instruction_278 : decode cX6_instruction 278 = .ok (.iastore, 1) := by decide +kernel
theorem dX6_instruction_279 : decode cX6_instruction 279 = .ok (.aload_n 0, 1) := by decide +kernel
theorem dX6_instruction_280 : decode cX6_instruction 280 = .ok (.getfield 16, 3) := by decide +kernel
theorem dX6_instruction_283 : decode cX6_instruction 283 = .ok (.iload_n 1, 1) := by decide +kernel
theorem dX6_instruction_284 : decode cX6_instruction 284 = .ok (.iaload, 1) := by decide +kernel
theorem dX6_instruction_285 : decode cX6_instruction 285 = .ok (.iconst 1, 1) := by decide +kernel
theorem dX6_instruction_286 : decode cX6_instruction 286 = .ok (.if_icmp .ne 142, 3) := by decide +kernel
theorem dX6_instruction_289 : decode cX6_instruction 289 = .ok (.aload_n 0, 1) := by decide +kernel
theorem dX6_instruction_290 : decode cX6_instruction 290 = .ok (.getfield 76, 3) := by decide +kernel
theorem dX6_instruction_293 : decode cX6_instruction 293 = .ok (.bipush 8, 2) := by decide +kernel
theorem dX6_instruction_295 : decode cX6_instruction 295 = .ok (.if_icmp .lt 133, 3) := by decide +kernel
theorem dX6_instruction_298 : decode cX6_instruction 298 = .ok (.aload_n 0, 1) := by decide +kernel
theorem dX6_instruction_299 : decode cX6_instruction 299 = .ok (.iload_n 1, 1) := by decide +kernel
theorem dX6_instruction_300 : decode cX6_instruction 300 = .ok (.invokevirtual 51, 3) := by decide +kernel
theorem dX6_instruction_303 : decode cX6_instruction 303 = .ok (.goto 125, 3) := by decide +kernel
theorem dX6_instruction_306 : decode cX6_instruction 306 = .ok (.iload 5, 2) := by decide +kernel
theorem dX6_instruction_308 : decode cX6_instruction 308 = .ok (.ifCond .ne 14, 3) := by decide +kernel
theorem dX6_instruction_311 : decode cX6_instruction 311 = .ok (.aload_n 0, 1) := by decide +kernel
theorem dX6_instruction_312 : decode cX6_instruction 312 = .ok (.getfield 19, 3) := by decide +kernel
theorem dX6_instruction_315 : decode cX6_instruction 315 = .ok (.iload_n 1, 1) := by decide +kernel
theorem dX6_instruction_316 : decode cX6_instruction 316 = .ok (.iload 4, 2) := by decide +kernel
theorem dX6_instruction_318 : decode cX6_instruction 318 = .ok (.iastore, 1) := by decide +kernel
theorem dX6_instruction_319 : decode cX6_instruction 319 = .ok (.goto 109, 3) := by decide +kernel
theorem dX6_instruction_322 : decode cX6_instruction 322 = .ok (.aload_n 0, 1) := by decide +kernel
theorem dX6_instruction_323 : decode cX6_instruction 323 = .ok (.iload_n 1, 1) := by decide +kernel
theorem dX6_instruction_324 : decode cX6_instruction 324 = .ok (.invokevirtual 69, 3) := by decide +kernel
theorem dX6_instruction_327 : decode cX6_instruction 327 = .ok (.goto 101, 3) := by decide +kernel
theorem dX6_instruction_330 : decode cX6_instruction 330 = .ok (.aload_n 0, 1) := by decide +kernel
theorem dX6_instruction_331 : decode cX6_instruction 331 = .ok (.iload_n 1, 1) := by decide +kernel
theorem dX6_instruction_332 : decode cX6_instruction 332 = .ok (.iload 4, 2) := by decide +kernel
theorem dX6_instruction_334 : decode cX6_instruction 334 = .ok (.invokevirtual 82, 3) := by decide +kernel
theorem dX6_instruction_337 : decode cX6_instruction 337 = .ok (.goto 91, 3) := by decide +kernel
theorem dX6_instruction_340 : decode cX6_instruction 340 = .ok (.aload_n 0, 1) := by decide +kernel
theorem dX6_instruction_341 : decode cX6_instruction 341 = .ok (.iload_n 1, 1) := by decide +kernel
theorem dX6_instruction_342 : decode cX6_instruction 342 = .ok (.iload 4, 2) := by decide +kernel
theorem dX6_instruction_344 : decode cX6_instruction 344 = .ok (.invokevirtual 85, 3) := by decide +kernel
theorem dX6_instruction_347 : decode cX6_instruction 347 = .ok (.goto 81, 3) := by decide +kernel
theorem dX6_instruction_350 : decode cX6_instruction 350 = .ok (.aload_n 0, 1) := by decide +kernel
theorem dX6_instruction_351 : decode cX6_instruction 351 = .ok (.iload_n 1, 1) := by decide +kernel
theorem dX6_instruction_352 : decode cX6_instruction 352 = .ok (.aload_n 0, 1) := by decide +kernel
theorem dX6_instruction_353 : decode cX6_instruction 353 = .ok (.getfield 59, 3) := by decide +kernel
theorem dX6_instruction_356 : decode cX6_instruction 356 = .ok (.invokevirtual 65, 3) := by decide +kernel
theorem dX6_instruction_359 : decode cX6_instruction 359 = .ok (.goto 69, 3) := by decide +kernel
theorem dX6_instruction_362 : decode cX6_instruction 362 = .ok (.aload_n 0, 1) := by decide +kernel
theorem dX6_instruction_363 : decode cX6_instruction 363 = .ok (.iload_n 1, 1) := by decide +kernel
theorem dX6_instruction_364 : decode cX6_instruction 364 = .ok (.invokevirtual 69, 3) := by decide +kernel
theorem dX6_instruction_367 : decode cX6_instruction 367 = .ok (.aload_n 0, 1) := by decide +kernel
theorem dX6_instruction_368 : decode cX6_instruction 368 = .ok (.getfield 28, 3) := by decide +kernel
theorem dX6_instruction_371 : decode cX6_instruction 371 = .ok (.iload_n 1, 1) := by decide +kernel
theorem dX6_instruction_372 : decode cX6_instruction 372 = .ok (.iload 5, 2) := by decide +kernel
theorem dX6_instruction_374 : decode cX6_instruction 374 = .ok (.iastore, 1) := by decide +kernel
theorem dX6_instruction_375 : decode cX6_instruction 375 = .ok (.iload 5, 2) := by decide +kernel
theorem dX6_instruction_377 : decode cX6_instruction 377 = .ok (.aload_n 0, 1) := by decide +kernel
theorem dX6_instruction_378 : decode cX6_instruction 378 = .ok (.getfield 59, 3) := by decide +kernel
theorem dX6_instruction_381 : decode cX6_instruction 381 = .ok (.isub, 1) := by decide +kernel
theorem dX6_instruction_382 : decode cX6_instruction 382 = .ok (.ifCond .le 46, 3) := by decide +kernel
theorem dX6_instruction_385 : decode cX6_instruction 385 = .ok (.aload_n 0, 1) := by decide +kernel
theorem dX6_instruction_386 : decode cX6_instruction 386 = .ok (.getfield 13, 3) := by decide +kernel
theorem dX6_instruction_389 : decode cX6_instruction 389 = .ok (.iload_n 1, 1) := by decide +kernel
theorem dX6_instruction_390 : decode cX6_instruction 390 = .ok (.iconst 4, 1) := by decide +kernel
theorem dX6_instruction_391 : decode cX6_instruction 391 = .ok (.iastore, 1) := by decide +kernel
theorem dX6_instruction_392 : decode cX6_instruction 392 = .ok (.goto 36, 3) := by decide +kernel
theorem dX6_instruction_395 : decode cX6_instruction 395 = .ok (.aload_n 0, 1) := by decide +kernel
theorem dX6_instruction_396 : decode cX6_instruction 396 = .ok (.iload 4, 2) := by decide +kernel
theorem dX6_instruction_398 : decode cX6_instruction 398 = .ok (.iconst 2, 1) := by decide +kernel
theorem dX6_instruction_399 : decode cX6_instruction 399 = .ok (.irem, 1) := by decide +kernel
theorem dX6_instruction_400 : decode cX6_instruction 400 = .ok (.iload 4, 2) := by decide +kernel
theorem dX6_instruction_402 : decode cX6_instruction 402 = .ok (.iconst 2, 1) := by decide +kernel
theorem dX6_instruction_403 : decode cX6_instruction 403 = .ok (.idiv, 1) := by decide +kernel
theorem dX6_instruction_404 : decode cX6_instruction 404 = .ok (.iload 5, 2) := by decide +kernel
theorem dX6_instruction_406 : decode cX6_instruction 406 = .ok (.invokevirtual 55, 3) := by decide +kernel
theorem dX6_instruction_409 : decode cX6_instruction 409 = .ok (.istore 6, 2) := by decide +kernel
theorem dX6_instruction_411 : decode cX6_instruction 411 = .ok (.aload_n 0, 1) := by decide +kernel
theorem dX6_instruction_412 : decode cX6_instruction 412 = .ok (.iload_n 1, 1) := by decide +kernel
theorem dX6_instruction_413 : decode cX6_instruction 413 = .ok (.iload 6, 2) := by decide +kernel
theorem dX6_instruction_415 : decode cX6_instruction 415 = .ok (.invokevirtual 65, 3) := by decide +kernel
theorem dX6_instruction_418 : decode cX6_instruction 418 = .ok (.goto 10, 3) := by decide +kernel
theorem dX6_instruction_421 : decode cX6_instruction 421 = .ok (.aload_n 0, 1) := by decide +kernel
theorem dX6_instruction_422 : decode cX6_instruction 422 = .ok (.getfield 13, 3) := by decide +kernel
theorem dX6_instruction_425 : decode cX6_instruction 425 = .ok (.iload_n 1, 1) := by decide +kernel
theorem dX6_instruction_426 : decode cX6_instruction 426 = .ok (.iconst 0, 1) := by decide +kernel
theorem dX6_instruction_427 : decode cX6_instruction 427 = .ok (.iastore, 1) := by decide +kernel
theorem dX6_instruction_428 : decode cX6_instruction 428 = .ok (.return_, 1) := by decide +kernel
theorem dX6_step_0 : decode cX6_step 0 = .ok (.iconst 0, 1) := by decide +kernel
theorem dX6_step_1 : decode cX6_step 1 = .ok (.istore_n 1, 1) := by decide +kernel
theorem dX6_step_2 : decode cX6_step 2 = .ok (.iload_n 1, 1) := by decide +kernel
theorem dX6_step_3 : decode cX6_step 3 = .ok (.bipush 8, 2) := by decide +kernel
theorem dX6_step_5 : decode cX6_step 5 = .ok (.if_icmp .ge 38, 3) := by decide +kernel
theorem dX6_step_8 : decode cX6_step 8 = .ok (.aload_n 0, 1) := by decide +kernel
theorem dX6_step_9 : decode cX6_step 9 = .ok (.getfield 13, 3) := by decide +kernel
theorem dX6_step_12 : decode cX6_step 12 = .ok (.iload_n 1, 1) := by decide +kernel
theorem dX6_step_13 : decode cX6_step 13 = .ok (.iaload, 1) := by decide +kernel
theorem dX6_step_14 : decode cX6_step 14 = .ok (.iconst 4, 1) := by decide +kernel
theorem dX6_step_15 : decode cX6_step 15 = .ok (.if_icmp .ne 22, 3) := by decide +kernel
theorem dX6_step_18 : decode cX6_step 18 = .ok (.aload_n 0, 1) := by decide +kernel
theorem dX6_step_19 : decode cX6_step 19 = .ok (.getfield 28, 3) := by decide +kernel
theorem dX6_step_22 : decode cX6_step 22 = .ok (.iload_n 1, 1) := by decide +kernel
theorem dX6_step_23 : decode cX6_step 23 = .ok (.iaload, 1) := by decide +kernel
theorem dX6_step_24 : decode cX6_step 24 = .ok (.aload_n 0, 1) := by decide +kernel
theorem dX6_step_25 : decode cX6_step 25 = .ok (.getfield 59, 3) := by decide +kernel
theorem dX6_step_28 : decode cX6_step 28 = .ok (.isub, 1) := by decide +kernel
theorem dX6_step_29 : decode cX6_step 29 = .ok (.ifCond .gt 8, 3) := by decide +kernel
theorem dX6_step_32 : decode cX6_step 32 = .ok (.aload_n 0, 1) := by decide +kernel
theorem dX6_step_33 : decode cX6_step 33 = .ok (.iload_n 1, 1) := by decide +kernel
theorem dX6_step_34 : decode cX6_step 34 = .ok (.invokevirtual 51, 3) := by decide +kernel
theorem dX6_step_37 : decode cX6_step 37 = .ok (.iinc 1 1, 3) := by decide +kernel
theorem dX6_step_40 : decode cX6_step 40 = .ok (.goto (-38), 3) := by decide +kernel
theorem dX6_step_43 : decode cX6_step 43 = .ok (.aload_n 0, 1) := by decide +kernel
theorem dX6_step_44 : decode cX6_step 44 = .ok (.invokevirtual 88, 3) := by decide +kernel
theorem dX6_step_47 : decode cX6_step 47 = .ok (.istore_n 1, 1) := by decide +kernel
theorem dX6_step_48 : decode cX6_step 48 = .ok (.iload_n 1, 1) := by decide +kernel
theorem dX6_step_49 : decode cX6_step 49 = .ok (.ifCond .lt 51, 3) := by decide +kernel
theorem dX6_step_52 : decode cX6_step 52 = .ok (.aload_n 0, 1) := by decide +kernel
theorem dX6_step_53 : decode cX6_step 53 = .ok (.getfield 16, 3) := by decide +kernel
theorem dX6_step_56 : decode cX6_step 56 = .ok (.iload_n 1, 1) := by decide +kernel
theorem dX6_step_57 : decode cX6_step 57 = .ok (.iaload, 1) := by decide +kernel
theorem dX6_step_58 : decode cX6_step 58 = .ok (.iconst 1, 1) := by decide +kernel
theorem dX6_step_59 : decode cX6_step 59 = .ok (.if_icmp .ne 41, 3) := by decide +kernel
theorem dX6_step_62 : decode cX6_step 62 = .ok (.aload_n 0, 1) := by decide +kernel
theorem dX6_step_63 : decode cX6_step 63 = .ok (.iconst 0, 1) := by decide +kernel
theorem dX6_step_64 : decode cX6_step 64 = .ok (.iconst 0, 1) := by decide +kernel
theorem dX6_step_65 : decode cX6_step 65 = .ok (.invokevirtual 92, 3) := by decide +kernel
theorem dX6_step_68 : decode cX6_step 68 = .ok (.ifCond .lt 32, 3) := by decide +kernel
theorem dX6_step_71 : decode cX6_step 71 = .ok (.aload_n 0, 1) := by decide +kernel
theorem dX6_step_72 : decode cX6_step 72 = .ok (.getfield 13, 3) := by decide +kernel
theorem dX6_step_75 : decode cX6_step 75 = .ok (.iload_n 1, 1) := by decide +kernel
theorem dX6_step_76 : decode cX6_step 76 = .ok (.iconst 1, 1) := by decide +kernel
theorem dX6_step_77 : decode cX6_step 77 = .ok (.iastore, 1) := by decide +kernel
theorem dX6_step_78 : decode cX6_step 78 = .ok (.aload_n 0, 1) := by decide +kernel
theorem dX6_step_79 : decode cX6_step 79 = .ok (.dup, 1) := by decide +kernel
theorem dX6_step_80 : decode cX6_step 80 = .ok (.getfield 96, 3) := by decide +kernel
theorem dX6_step_83 : decode cX6_step 83 = .ok (.iconst 1, 1) := by decide +kernel
theorem dX6_step_84 : decode cX6_step 84 = .ok (.isub, 1) := by decide +kernel
theorem dX6_step_85 : decode cX6_step 85 = .ok (.putfield 96, 3) := by decide +kernel
theorem dX6_step_88 : decode cX6_step 88 = .ok (.aload_n 0, 1) := by decide +kernel
theorem dX6_step_89 : decode cX6_step 89 = .ok (.getfield 25, 3) := by decide +kernel
theorem dX6_step_92 : decode cX6_step 92 = .ok (.iload_n 1, 1) := by decide +kernel
theorem dX6_step_93 : decode cX6_step 93 = .ok (.aload_n 0, 1) := by decide +kernel
theorem dX6_step_94 : decode cX6_step 94 = .ok (.getfield 96, 3) := by decide +kernel
theorem dX6_step_97 : decode cX6_step 97 = .ok (.iastore, 1) := by decide +kernel
theorem dX6_step_98 : decode cX6_step 98 = .ok (.iconst (-1), 1) := by decide +kernel
theorem dX6_step_99 : decode cX6_step 99 = .ok (.istore_n 1, 1) := by decide +kernel
theorem dX6_step_100 : decode cX6_step 100 = .ok (.iload_n 1, 1) := by decide +kernel
theorem dX6_step_101 : decode cX6_step 101 = .ok (.ifCond .ge 44, 3) := by decide +kernel
theorem dX6_step_104 : decode cX6_step 104 = .ok (.aload_n 0, 1) := by decide +kernel
theorem dX6_step_105 : decode cX6_step 105 = .ok (.iconst 0, 1) := by decide +kernel
theorem dX6_step_106 : decode cX6_step 106 = .ok (.iconst 0, 1) := by decide +kernel
theorem dX6_step_107 : decode cX6_step 107 = .ok (.invokevirtual 92, 3) := by decide +kernel
theorem dX6_step_110 : decode cX6_step 110 = .ok (.ifCond .lt 12, 3) := by decide +kernel
theorem dX6_step_113 : decode cX6_step 113 = .ok (.aload_n 0, 1) := by decide +kernel
theorem dX6_step_114 : decode cX6_step 114 = .ok (.iconst 0, 1) := by decide +kernel
theorem dX6_step_115 : decode cX6_step 115 = .ok (.iconst 0, 1) := by decide +kernel
theorem dX6_step_116 : decode cX6_step 116 = .ok (.invokevirtual 92, 3) := by decide +kernel
theorem dX6_step_119 : decode cX6_step 119 = .ok (.goto 9, 3) := by decide +kernel
theorem dX6_step_122 : decode cX6_step 122 = .ok (.aload_n 0, 1) := by decide +kernel
theorem dX6_step_123 : decode cX6_step 123 = .ok (.iconst 1, 1) := by decide +kernel
theorem dX6_step_124 : decode cX6_step 124 = .ok (.iconst 0, 1) := by decide +kernel
theorem dX6_step_125 : decode cX6_step 125 = .ok (.invokevirtual 92, 3) := by decide +kernel
theorem dX6_step_128 : decode cX6_step 128 = .ok (.istore_n 1, 1) := by decide +kernel
theorem dX6_step_129 : decode cX6_step 129 = .ok (.aload_n 0, 1) := by decide +kernel
theorem dX6_step_130 : decode cX6_step 130 = .ok (.iconst 0, 1) := by decide +kernel
theorem dX6_step_131 : decode cX6_step 131 = .ok (.putfield 76, 3) := by decide +kernel
theorem dX6_step_134 : decode cX6_step 134 = .ok (.iload_n 1, 1) := by decide +kernel
theorem dX6_step_135 : decode cX6_step 135 = .ok (.ifCond .lt 10, 3) := by decide +kernel
theorem dX6_step_138 : decode cX6_step 138 = .ok (.aload_n 0, 1) := by decide +kernel
theorem dX6_step_139 : decode cX6_step 139 = .ok (.getfield 13, 3) := by decide +kernel
theorem dX6_step_142 : decode cX6_step 142 = .ok (.iload_n 1, 1) := by decide +kernel
theorem dX6_step_143 : decode cX6_step 143 = .ok (.iconst 2, 1) := by decide +kernel
theorem dX6_step_144 : decode cX6_step 144 = .ok (.iastore, 1) := by decide +kernel
theorem dX6_step_145 : decode cX6_step 145 = .ok (.iload_n 1, 1) := by decide +kernel
theorem dX6_step_146 : decode cX6_step 146 = .ok (.ifCond .lt 8, 3) := by decide +kernel
theorem dX6_step_149 : decode cX6_step 149 = .ok (.aload_n 0, 1) := by decide +kernel
theorem dX6_step_150 : decode cX6_step 150 = .ok (.iload_n 1, 1) := by decide +kernel
theorem dX6_step_151 : decode cX6_step 151 = .ok (.invokevirtual 99, 3) := by decide +kernel
theorem dX6_step_154 : decode cX6_step 154 = .ok (.aload_n 0, 1) := by decide +kernel
theorem dX6_step_155 : decode cX6_step 155 = .ok (.dup, 1) := by decide +kernel
theorem dX6_step_156 : decode cX6_step 156 = .ok (.getfield 59, 3) := by decide +kernel
theorem dX6_step_159 : decode cX6_step 159 = .ok (.iconst 1, 1) := by decide +kernel
theorem dX6_step_160 : decode cX6_step 160 = .ok (.iadd, 1) := by decide +kernel
theorem dX6_step_161 : decode cX6_step 161 = .ok (.putfield 59, 3) := by decide +kernel
theorem dX6_step_164 : decode cX6_step 164 = .ok (.iload_n 1, 1) := by decide +kernel
theorem dX6_step_165 : decode cX6_step 165 = .ok (.ifCond .ge 7, 3) := by decide +kernel
theorem dX6_step_168 : decode cX6_step 168 = .ok (.iconst 1, 1) := by decide +kernel
theorem dX6_step_169 : decode cX6_step 169 = .ok (.goto 4, 3) := by decide +kernel
theorem dX6_step_172 : decode cX6_step 172 = .ok (.iconst 0, 1) := by decide +kernel
theorem dX6_step_173 : decode cX6_step 173 = .ok (.ireturn, 1) := by decide +kernel
theorem dX6_run_0 : decode cX6_run 0 = .ok (.iload_n 1, 1) := by decide +kernel
theorem dX6_run_1 : decode cX6_run 1 = .ok (.iconst 0, 1) := by decide +kernel
theorem dX6_run_2 : decode cX6_run 2 = .ok (.sipush 400, 3) := by decide +kernel
theorem dX6_run_5 : decode cX6_run 5 = .ok (.invokestatic 40, 3) := by decide +kernel
theorem dX6_run_8 : decode cX6_run 8 = .ok (.ifCond .ne 5, 3) := by decide +kernel
theorem dX6_run_11 : decode cX6_run 11 = .ok (.iconst (-1), 1) := by decide +kernel
theorem dX6_run_12 : decode cX6_run 12 = .ok (.ireturn, 1) := by decide +kernel
theorem dX6_run_13 : decode cX6_run 13 = .ok (.iconst 0, 1) := by decide +kernel
theorem dX6_run_14 : decode cX6_run 14 = .ok (.istore_n 2, 1) := by decide +kernel
theorem dX6_run_15 : decode cX6_run 15 = .ok (.iconst 0, 1) := by decide +kernel
theorem dX6_run_16 : decode cX6_run 16 = .ok (.istore_n 3, 1) := by decide +kernel
theorem dX6_run_17 : decode cX6_run 17 = .ok (.iload_n 3, 1) := by decide +kernel
theorem dX6_run_18 : decode cX6_run 18 = .ok (.iload_n 1, 1) := by decide +kernel
theorem dX6_run_19 : decode cX6_run 19 = .ok (.if_icmp .ge 19, 3) := by decide +kernel
theorem dX6_run_22 : decode cX6_run 22 = .ok (.aload_n 0, 1) := by decide +kernel
theorem dX6_run_23 : decode cX6_run 23 = .ok (.invokevirtual 102, 3) := by decide +kernel
theorem dX6_run_26 : decode cX6_run 26 = .ok (.ifCond .eq 6, 3) := by decide +kernel
theorem dX6_run_29 : decode cX6_run 29 = .ok (.iinc 2 1, 3) := by decide +kernel
theorem dX6_run_32 : decode cX6_run 32 = .ok (.iinc 3 1, 3) := by decide +kernel
theorem dX6_run_35 : decode cX6_run 35 = .ok (.goto (-18), 3) := by decide +kernel
theorem dX6_run_38 : decode cX6_run 38 = .ok (.iload_n 2, 1) := by decide +kernel
theorem dX6_run_39 : decode cX6_run 39 = .ok (.ireturn, 1) := by decide +kernel
theorem dX6_clock_0 : decode cX6_clock 0 = .ok (.aload_n 0, 1) := by decide +kernel
theorem dX6_clock_1 : decode cX6_clock 1 = .ok (.getfield 59, 3) := by decide +kernel
theorem dX6_clock_4 : decode cX6_clock 4 = .ok (.ireturn, 1) := by decide +kernel
theorem dX6_running_0 : decode cX6_running 0 = .ok (.aload_n 0, 1) := by decide +kernel
theorem dX6_running_1 : decode cX6_running 1 = .ok (.invokevirtual 88, 3) := by decide +kernel
theorem dX6_running_4 : decode cX6_running 4 = .ok (.ireturn, 1) := by decide +kernel
theorem dX6_state_0 : decode cX6_state 0 = .ok (.iload_n 1, 1) := by decide +kernel
theorem dX6_state_1 : decode cX6_state 1 = .ok (.iconst 0, 1) := by decide +kernel
theorem dX6_state_2 : decode cX6_state 2 = .ok (.bipush 7, 2) := by decide +kernel
theorem dX6_state_4 : decode cX6_state 4 = .ok (.invokestatic 40, 3) := by decide +kernel
theorem dX6_state_7 : decode cX6_state 7 = .ok (.ifCond .eq 12, 3) := by decide +kernel
theorem dX6_state_10 : decode cX6_state 10 = .ok (.aload_n 0, 1) := by decide +kernel
theorem dX6_state_11 : decode cX6_state 11 = .ok (.getfield 13, 3) := by decide +kernel
theorem dX6_state_14 : decode cX6_state 14 = .ok (.iload_n 1, 1) := by decide +kernel
theorem dX6_state_15 : decode cX6_state 15 = .ok (.iaload, 1) := by decide +kernel
theorem dX6_state_16 : decode cX6_state 16 = .ok (.goto 4, 3) := by decide +kernel
theorem dX6_state_19 : decode cX6_state 19 = .ok (.iconst (-1), 1) := by decide +kernel
theorem dX6_state_20 : decode cX6_state 20 = .ok (.ireturn, 1) := by decide +kernel
theorem dX6_look_0 : decode cX6_look 0 = .ok (.iload_n 1, 1) := by decide +kernel
theorem dX6_look_1 : decode cX6_look 1 = .ok (.iconst 0, 1) := by decide +kernel
theorem dX6_look_2 : decode cX6_look 2 = .ok (.bipush 7, 2) := by decide +kernel
theorem dX6_look_4 : decode cX6_look 4 = .ok (.invokestatic 40, 3) := by decide +kernel
theorem dX6_look_7 : decode cX6_look 7 = .ok (.ifCond .eq 22, 3) := by decide +kernel
theorem dX6_look_10 : decode cX6_look 10 = .ok (.aload_n 0, 1) := by decide +kernel
theorem dX6_look_11 : decode cX6_look 11 = .ok (.getfield 13, 3) := by decide +kernel
theorem dX6_look_14 : decode cX6_look 14 = .ok (.iload_n 1, 1) := by decide +kernel
theorem dX6_look_15 : decode cX6_look 15 = .ok (.iaload, 1) := by decide +kernel
theorem dX6_look_16 : decode cX6_look 16 = .ok (.ifCond .eq 13, 3) := by decide +kernel
theorem dX6_look_19 : decode cX6_look 19 = .ok (.iload_n 2, 1) := by decide +kernel
theorem dX6_look_20 : decode cX6_look 20 = .ok (.iconst 0, 1) := by decide +kernel
theorem dX6_look_21 : decode cX6_look 21 = .ok (.bipush 8, 2) := by decide +kernel
theorem dX6_look_23 : decode cX6_look 23 = .ok (.invokestatic 40, 3) := by decide +kernel
theorem dX6_look_26 : decode cX6_look 26 = .ok (.ifCond .ne 7, 3) := by decide +kernel
theorem dX6_look_29 : decode cX6_look 29 = .ok (.ldc2_w 106, 3) := by decide +kernel
theorem dX6_look_32 : decode cX6_look 32 = .ok (.lreturn, 1) := by decide +kernel
theorem dX6_look_33 : decode cX6_look 33 = .ok (.iload_n 2, 1) := by decide +kernel
theorem dX6_look_34 : decode cX6_look 34 = .ok (.ifCond .ne 13, 3) := by decide +kernel
theorem dX6_look_37 : decode cX6_look 37 = .ok (.aload_n 0, 1) := by decide +kernel
theorem dX6_look_38 : decode cX6_look 38 = .ok (.getfield 16, 3) := by decide +kernel
theorem dX6_look_41 : decode cX6_look 41 = .ok (.iload_n 1, 1) := by decide +kernel
theorem dX6_look_42 : decode cX6_look 42 = .ok (.iaload, 1) := by decide +kernel
theorem dX6_look_43 : decode cX6_look 43 = .ok (.i2l, 1) := by decide +kernel
theorem dX6_look_44 : decode cX6_look 44 = .ok (.goto 32, 3) := by decide +kernel
theorem dX6_look_47 : decode cX6_look 47 = .ok (.iload_n 2, 1) := by decide +kernel
theorem dX6_look_48 : decode cX6_look 48 = .ok (.iconst 1, 1) := by decide +kernel
theorem dX6_look_49 : decode cX6_look 49 = .ok (.if_icmp .ne 13, 3) := by decide +kernel
theorem dX6_look_52 : decode cX6_look 52 = .ok (.aload_n 0, 1) := by decide +kernel
theorem dX6_look_53 : decode cX6_look 53 = .ok (.getfield 19, 3) := by decide +kernel
theorem dX6_look_56 : decode cX6_look 56 = .ok (.iload_n 1, 1) := by decide +kernel
theorem dX6_look_57 : decode cX6_look 57 = .ok (.iaload, 1) := by decide +kernel
theorem dX6_look_58 : decode cX6_look 58 = .ok (.i2l, 1) := by decide +kernel
theorem dX6_look_59 : decode cX6_look 59 = .ok (.goto 17, 3) := by decide +kernel
theorem dX6_look_62 : decode cX6_look 62 = .ok (.aload_n 0, 1) := by decide +kernel
theorem dX6_look_63 : decode cX6_look 63 = .ok (.getfield 22, 3) := by decide +kernel
theorem dX6_look_66 : decode cX6_look 66 = .ok (.bipush 7, 2) := by decide +kernel
theorem dX6_look_68 : decode cX6_look 68 = .ok (.iload_n 1, 1) := by decide +kernel
theorem dX6_look_69 : decode cX6_look 69 = .ok (.imul, 1) := by decide +kernel
theorem dX6_look_70 : decode cX6_look 70 = .ok (.iload_n 2, 1) := by decide +kernel
theorem dX6_look_71 : decode cX6_look 71 = .ok (.iadd, 1) := by decide +kernel
theorem dX6_look_72 : decode cX6_look 72 = .ok (.iconst 2, 1) := by decide +kernel
theorem dX6_look_73 : decode cX6_look 73 = .ok (.isub, 1) := by decide +kernel
theorem dX6_look_74 : decode cX6_look 74 = .ok (.iaload, 1) := by decide +kernel
theorem dX6_look_75 : decode cX6_look 75 = .ok (.i2l, 1) := by decide +kernel
theorem dX6_look_76 : decode cX6_look 76 = .ok (.lreturn, 1) := by decide +kernel
theorem dX6_waiting_0 : decode cX6_waiting 0 = .ok (.iload_n 1, 1) := by decide +kernel
theorem dX6_waiting_1 : decode cX6_waiting 1 = .ok (.iconst 0, 1) := by decide +kernel
theorem dX6_waiting_2 : decode cX6_waiting 2 = .ok (.iconst 1, 1) := by decide +kernel
theorem dX6_waiting_3 : decode cX6_waiting 3 = .ok (.invokestatic 40, 3) := by decide +kernel
theorem dX6_waiting_6 : decode cX6_waiting 6 = .ok (.ifCond .eq 16, 3) := by decide +kernel
theorem dX6_waiting_9 : decode cX6_waiting 9 = .ok (.iload_n 2, 1) := by decide +kernel
theorem dX6_waiting_10 : decode cX6_waiting 10 = .ok (.ifCond .lt 12, 3) := by decide +kernel
theorem dX6_waiting_13 : decode cX6_waiting 13 = .ok (.aload_n 0, 1) := by decide +kernel
theorem dX6_waiting_14 : decode cX6_waiting 14 = .ok (.iload_n 1, 1) := by decide +kernel
theorem dX6_waiting_15 : decode cX6_waiting 15 = .ok (.iload_n 2, 1) := by decide +kernel
theorem dX6_waiting_16 : decode cX6_waiting 16 = .ok (.invokevirtual 92, 3) := by decide +kernel
theorem dX6_waiting_19 : decode cX6_waiting 19 = .ok (.goto 4, 3) := by decide +kernel
theorem dX6_waiting_22 : decode cX6_waiting 22 = .ok (.iconst (-1), 1) := by decide +kernel
theorem dX6_waiting_23 : decode cX6_waiting 23 = .ok (.ireturn, 1) := by decide +kernel
theorem dX6_channel_0 : decode cX6_channel 0 = .ok (.iload_n 1, 1) := by decide +kernel
theorem dX6_channel_1 : decode cX6_channel 1 = .ok (.iconst 0, 1) := by decide +kernel
theorem dX6_channel_2 : decode cX6_channel 2 = .ok (.iconst 3, 1) := by decide +kernel
theorem dX6_channel_3 : decode cX6_channel 3 = .ok (.invokestatic 40, 3) := by decide +kernel
theorem dX6_channel_6 : decode cX6_channel 6 = .ok (.ifCond .eq 12, 3) := by decide +kernel
theorem dX6_channel_9 : decode cX6_channel 9 = .ok (.aload_n 0, 1) := by decide +kernel
theorem dX6_channel_10 : decode cX6_channel 10 = .ok (.getfield 34, 3) := by decide +kernel
theorem dX6_channel_13 : decode cX6_channel 13 = .ok (.iload_n 1, 1) := by decide +kernel
theorem dX6_channel_14 : decode cX6_channel 14 = .ok (.iaload, 1) := by decide +kernel
theorem dX6_channel_15 : decode cX6_channel 15 = .ok (.goto 4, 3) := by decide +kernel
theorem dX6_channel_18 : decode cX6_channel 18 = .ok (.iconst (-1), 1) := by decide +kernel
theorem dX6_channel_19 : decode cX6_channel 19 = .ok (.ireturn, 1) := by decide +kernel
theorem dX6_messages_0 : decode cX6_messages 0 = .ok (.aload_n 0, 1) := by decide +kernel
theorem dX6_messages_1 : decode cX6_messages 1 = .ok (.getfield 62, 3) := by decide +kernel
theorem dX6_messages_4 : decode cX6_messages 4 = .ok (.ireturn, 1) := by decide +kernel
theorem dX6_message_0 : decode cX6_message 0 = .ok (.iload_n 1, 1) := by decide +kernel
theorem dX6_message_1 : decode cX6_message 1 = .ok (.ifCond .lt 26, 3) := by decide +kernel
theorem dX6_message_4 : decode cX6_message 4 = .ok (.iload_n 1, 1) := by decide +kernel
theorem dX6_message_5 : decode cX6_message 5 = .ok (.bipush 15, 2) := by decide +kernel
theorem dX6_message_7 : decode cX6_message 7 = .ok (.if_icmp .gt 20, 3) := by decide +kernel
theorem dX6_message_10 : decode cX6_message 10 = .ok (.iload_n 1, 1) := by decide +kernel
theorem dX6_message_11 : decode cX6_message 11 = .ok (.aload_n 0, 1) := by decide +kernel
theorem dX6_message_12 : decode cX6_message 12 = .ok (.getfield 62, 3) := by decide +kernel
theorem dX6_message_15 : decode cX6_message 15 = .ok (.if_icmp .ge 12, 3) := by decide +kernel
theorem dX6_message_18 : decode cX6_message 18 = .ok (.iload_n 2, 1) := by decide +kernel
theorem dX6_message_19 : decode cX6_message 19 = .ok (.iconst 0, 1) := by decide +kernel
theorem dX6_message_20 : decode cX6_message 20 = .ok (.iconst 4, 1) := by decide +kernel
theorem dX6_message_21 : decode cX6_message 21 = .ok (.invokestatic 40, 3) := by decide +kernel
theorem dX6_message_24 : decode cX6_message 24 = .ok (.ifCond .ne 7, 3) := by decide +kernel
theorem dX6_message_27 : decode cX6_message 27 = .ok (.ldc2_w 106, 3) := by decide +kernel
theorem dX6_message_30 : decode cX6_message 30 = .ok (.lreturn, 1) := by decide +kernel
theorem dX6_message_31 : decode cX6_message 31 = .ok (.aload_n 0, 1) := by decide +kernel
theorem dX6_message_32 : decode cX6_message 32 = .ok (.getfield 37, 3) := by decide +kernel
theorem dX6_message_35 : decode cX6_message 35 = .ok (.iconst 5, 1) := by decide +kernel
theorem dX6_message_36 : decode cX6_message 36 = .ok (.aload_n 0, 1) := by decide +kernel
theorem dX6_message_37 : decode cX6_message 37 = .ok (.getfield 62, 3) := by decide +kernel
theorem dX6_message_40 : decode cX6_message 40 = .ok (.iconst 1, 1) := by decide +kernel
theorem dX6_message_41 : decode cX6_message 41 = .ok (.isub, 1) := by decide +kernel
theorem dX6_message_42 : decode cX6_message 42 = .ok (.iload_n 1, 1) := by decide +kernel
theorem dX6_message_43 : decode cX6_message 43 = .ok (.isub, 1) := by decide +kernel
theorem dX6_message_44 : decode cX6_message 44 = .ok (.bipush 16, 2) := by decide +kernel
theorem dX6_message_46 : decode cX6_message 46 = .ok (.irem, 1) := by decide +kernel
theorem dX6_message_47 : decode cX6_message 47 = .ok (.imul, 1) := by decide +kernel
theorem dX6_message_48 : decode cX6_message 48 = .ok (.iload_n 2, 1) := by decide +kernel
theorem dX6_message_49 : decode cX6_message 49 = .ok (.iadd, 1) := by decide +kernel
theorem dX6_message_50 : decode cX6_message 50 = .ok (.iaload, 1) := by decide +kernel
theorem dX6_message_51 : decode cX6_message 51 = .ok (.i2l, 1) := by decide +kernel
theorem dX6_message_52 : decode cX6_message 52 = .ok (.lreturn, 1) := by decide +kernel
end
section
theorem dL_law_0 : decode cL_law 0 = .ok (.new 7, 3) := by decide +kernel
theorem dL_law_3 : decode cL_law 3 = .ok (.dup, 1) := by decide +kernel
theorem dL_law_4 : decode cL_law 4 = .ok (.invokespecial 9, 3) := by decide +kernel
theorem dL_law_7 : decode cL_law 7 = .ok (.astore_n 1, 1) := by decide +kernel
theorem dL_law_8 : decode cL_law 8 = .ok (.new 10, 3) := by decide +kernel
theorem dL_law_11 : decode cL_law 11 = .ok (.dup, 1) := by decide +kernel
theorem dL_law_12 : decode cL_law 12 = .ok (.invokespecial 12, 3) := by decide +kernel
theorem dL_law_15 : decode cL_law 15 = .ok (.astore_n 2, 1) := by decide +kernel
theorem dL_law_16 : decode cL_law 16 = .ok (.iconst 0, 1) := by decide +kernel
theorem dL_law_17 : decode cL_law 17 = .ok (.istore_n 3, 1) := by decide +kernel
theorem dL_law_18 : decode cL_law 18 = .ok (.iload_n 3, 1) := by decide +kernel
theorem dL_law_19 : decode cL_law 19 = .ok (.aload_n 0, 1) := by decide +kernel
theorem dL_law_20 : decode cL_law 20 = .ok (.arraylength, 1) := by decide +kernel
theorem dL_law_21 : decode cL_law 21 = .ok (.iconst 4, 1) := by decide +kernel
theorem dL_law_22 : decode cL_law 22 = .ok (.isub, 1) := by decide +kernel
theorem dL_law_23 : decode cL_law 23 = .ok (.if_icmp .gt 400, 3) := by decide +kernel
theorem dL_law_26 : decode cL_law 26 = .ok (.aload_n 0, 1) := by decide +kernel
theorem dL_law_27 : decode cL_law 27 = .ok (.iload_n 3, 1) := by decide +kernel
theorem dL_law_28 : decode cL_law 28 = .ok (.iaload, 1) := by decide +kernel
theorem dL_law_29 : decode cL_law 29 = .ok (.bipush 15, 2) := by decide +kernel
theorem dL_law_31 : decode cL_law 31 = .ok (.iand, 1) := by decide +kernel
theorem dL_law_32 : decode cL_law 32 = .ok (.tableswitch 385 0 12 #[68, 101, 144, 167, 188, 199, 212, 225, 248, 282, 315, 338, 351], 68) := by decide +kernel
theorem dL_law_100 : decode cL_law 100 = .ok (.aload_n 1, 1) := by decide +kernel
theorem dL_law_101 : decode cL_law 101 = .ok (.aload_n 0, 1) := by decide +kernel
theorem dL_law_102 : decode cL_law 102 = .ok (.iload_n 3, 1) := by decide +kernel
theorem dL_law_103 : decode cL_law 103 = .ok (.iconst 1, 1) := by decide +kernel
theorem dL_law_104 : decode cL_law 104 = .ok (.iadd, 1) := by decide +kernel
theorem dL_law_105 : decode cL_law 105 = .ok (.iaload, 1) := by decide +kernel
theorem dL_law_106 : decode cL_law 106 = .ok (.aload_n 0, 1) := by decide +kernel
theorem dL_law_107 : decode cL_law 107 = .ok (.iload_n 3, 1) := by decide +kernel
theorem dL_law_108 : decode cL_law 108 = .ok (.iconst 2, 1) := by decide +kernel
theorem dL_law_109 : decode cL_law 109 = .ok (.iadd, 1) := by decide +kernel
theorem dL_law_110 : decode cL_law 110 = .ok (.iaload, 1) := by decide +kernel
theorem dL_law_111 : decode cL_law 111 = .ok (.invokevirtual 13, 3) := by decide +kernel
theorem dL_law_114 : decode cL_law 114 = .ok (.aload_n 2, 1) := by decide +kernel
theorem dL_law_115 : decode cL_law 115 = .ok (.aload_n 0, 1) := by decide +kernel
theorem dL_law_116 : decode cL_law 116 = .ok (.iload_n 3, 1) := by decide +kernel
theorem dL_law_117 : decode cL_law 117 = .ok (.iconst 1, 1) := by decide +kernel
theorem dL_law_118 : decode cL_law 118 = .ok (.iadd, 1) := by decide +kernel
theorem dL_law_119 : decode cL_law 119 = .ok (.iaload, 1) := by decide +kernel
theorem dL_law_120 : decode cL_law 120 = .ok (.aload_n 0, 1) := by decide +kernel
theorem dL_law_121 : decode cL_law 121 = .ok (.iload_n 3, 1) := by decide +kernel
theorem dL_law_122 : decode cL_law 122 = .ok (.iconst 2, 1) := by decide +kernel
theorem dL_law_123 : decode cL_law 123 = .ok (.iadd, 1) := by decide +kernel
theorem dL_law_124 : decode cL_law 124 = .ok (.iaload, 1) := by decide +kernel
theorem dL_law_125 : decode cL_law 125 = .ok (.invokevirtual 17, 3) := by decide +kernel
theorem dL_law_128 : decode cL_law 128 = .ok (.if_icmp .eq 289, 3) := by decide +kernel
theorem dL_law_131 : decode cL_law 131 = .ok (.iconst 0, 1) := by decide +kernel
theorem dL_law_132 : decode cL_law 132 = .ok (.ireturn, 1) := by decide +kernel
theorem dL_law_133 : decode cL_law 133 = .ok (.aload_n 1, 1) := by decide +kernel
theorem dL_law_134 : decode cL_law 134 = .ok (.aload_n 0, 1) := by decide +kernel
theorem dL_law_135 : decode cL_law 135 = .ok (.iload_n 3, 1) := by decide +kernel
theorem dL_law_136 : decode cL_law 136 = .ok (.iconst 1, 1) := by decide +kernel
theorem dL_law_137 : decode cL_law 137 = .ok (.iadd, 1) := by decide +kernel
theorem dL_law_138 : decode cL_law 138 = .ok (.iaload, 1) := by decide +kernel
theorem dL_law_139 : decode cL_law 139 = .ok (.aload_n 0, 1) := by decide +kernel
theorem dL_law_140 : decode cL_law 140 = .ok (.iload_n 3, 1) := by decide +kernel
theorem dL_law_141 : decode cL_law 141 = .ok (.iconst 2, 1) := by decide +kernel
theorem dL_law_142 : decode cL_law 142 = .ok (.iadd, 1) := by decide +kernel
theorem dL_law_143 : decode cL_law 143 = .ok (.iaload, 1) := by decide +kernel
theorem dL_law_144 : decode cL_law 144 = .ok (.aload_n 0, 1) := by decide +kernel
theorem dL_law_145 : decode cL_law 145 = .ok (.iload_n 3, 1) := by decide +kernel
theorem dL_law_146 : decode cL_law 146 = .ok (.iconst 3, 1) := by decide +kernel
theorem dL_law_147 : decode cL_law 147 = .ok (.iadd, 1) := by decide +kernel
theorem dL_law_148 : decode cL_law 148 = .ok (.iaload, 1) := by decide +kernel
theorem dL_law_149 : decode cL_law 149 = .ok (.invokevirtual 18, 3) := by decide +kernel
theorem dL_law_152 : decode cL_law 152 = .ok (.aload_n 2, 1) := by decide +kernel
theorem dL_law_153 : decode cL_law 153 = .ok (.aload_n 0, 1) := by decide +kernel
theorem dL_law_154 : decode cL_law 154 = .ok (.iload_n 3, 1) := by decide +kernel
theorem dL_law_155 : decode cL_law 155 = .ok (.iconst 1, 1) := by decide +kernel
theorem dL_law_156 : decode cL_law 156 = .ok (.iadd, 1) := by decide +kernel
theorem dL_law_157 : decode cL_law 157 = .ok (.iaload, 1) := by decide +kernel
theorem dL_law_158 : decode cL_law 158 = .ok (.aload_n 0, 1) := by decide +kernel
theorem dL_law_159 : decode cL_law 159 = .ok (.iload_n 3, 1) := by decide +kernel
theorem dL_law_160 : decode cL_law 160 = .ok (.iconst 2, 1) := by decide +kernel
theorem dL_law_161 : decode cL_law 161 = .ok (.iadd, 1) := by decide +kernel
theorem dL_law_162 : decode cL_law 162 = .ok (.iaload, 1) := by decide +kernel
theorem dL_law_163 : decode cL_law 163 = .ok (.aload_n 0, 1) := by decide +kernel
theorem dL_law_164 : decode cL_law 164 = .ok (.iload_n 3, 1) := by decide +kernel
theorem dL_law_165 : decode cL_law 165 = .ok (.iconst 3, 1) := by decide +kernel
theorem dL_law_166 : decode cL_law 166 = .ok (.iadd, 1) := by decide +kernel
theorem dL_law_167 : decode cL_law 167 = .ok (.iaload, 1) := by decide +kernel
theorem dL_law_168 : decode cL_law 168 = .ok (.invokevirtual 22, 3) := by decide +kernel
theorem dL_law_171 : decode cL_law 171 = .ok (.if_icmp .eq 246, 3) := by decide +kernel
theorem dL_law_174 : decode cL_law 174 = .ok (.iconst 0, 1) := by decide +kernel
theorem dL_law_175 : decode cL_law 175 = .ok (.ireturn, 1) := by decide +kernel
theorem dL_law_176 : decode cL_law 176 = .ok (.aload_n 1, 1) := by decide +kernel
theorem dL_law_177 : decode cL_law 177 = .ok (.aload_n 0, 1) := by decide +kernel
theorem dL_law_178 : decode cL_law 178 = .ok (.iload_n 3, 1) := by decide +kernel
theorem dL_law_179 : decode cL_law 179 = .ok (.iconst 1, 1) := by decide +kernel
theorem dL_law_180 : decode cL_law 180 = .ok (.iadd, 1) := by decide +kernel
theorem dL_law_181 : decode cL_law 181 = .ok (.iaload, 1) := by decide +kernel
theorem dL_law_182 : decode cL_law 182 = .ok (.invokevirtual 23, 3) := by decide +kernel
theorem dL_law_185 : decode cL_law 185 = .ok (.aload_n 2, 1) := by decide +kernel
theorem dL_law_186 : decode cL_law 186 = .ok (.aload_n 0, 1) := by decide +kernel
theorem dL_law_187 : decode cL_law 187 = .ok (.iload_n 3, 1) := by decide +kernel
theorem dL_law_188 : decode cL_law 188 = .ok (.iconst 1, 1) := by decide +kernel
theorem dL_law_189 : decode cL_law 189 = .ok (.iadd, 1) := by decide +kernel
theorem dL_law_190 : decode cL_law 190 = .ok (.iaload, 1) := by decide +kernel
theorem dL_law_191 : decode cL_law 191 = .ok (.invokevirtual 27, 3) := by decide +kernel
theorem dL_law_194 : decode cL_law 194 = .ok (.if_icmp .eq 223, 3) := by decide +kernel
theorem dL_law_197 : decode cL_law 197 = .ok (.iconst 0, 1) := by decide +kernel
theorem dL_law_198 : decode cL_law 198 = .ok (.ireturn, 1) := by decide +kernel
theorem dL_law_199 : decode cL_law 199 = .ok (.aload_n 1, 1) := by decide +kernel
theorem dL_law_200 : decode cL_law 200 = .ok (.aload_n 0, 1) := by decide +kernel
theorem dL_law_201 : decode cL_law 201 = .ok (.iload_n 3, 1) := by decide +kernel
theorem dL_law_202 : decode cL_law 202 = .ok (.iconst 1, 1) := by decide +kernel
theorem dL_law_203 : decode cL_law 203 = .ok (.iadd, 1) := by decide +kernel
theorem dL_law_204 : decode cL_law 204 = .ok (.iaload, 1) := by decide +kernel
theorem dL_law_205 : decode cL_law 205 = .ok (.invokevirtual 28, 3) := by decide +kernel
theorem dL_law_208 : decode cL_law 208 = .ok (.aload_n 2, 1) := by decide +kernel
theorem dL_law_209 : decode cL_law 209 = .ok (.aload_n 0, 1) := by decide +kernel
theorem dL_law_210 : decode cL_law 210 = .ok (.iload_n 3, 1) := by decide +kernel
theorem dL_law_211 : decode cL_law 211 = .ok (.iconst 1, 1) := by decide +kernel
theorem dL_law_212 : decode cL_law 212 = .ok (.iadd, 1) := by decide +kernel
theorem dL_law_213 : decode cL_law 213 = .ok (.iaload, 1) := by decide +kernel
theorem dL_law_214 : decode cL_law 214 = .ok (.invokevirtual 32, 3) := by decide +kernel
theorem dL_law_217 : decode cL_law 217 = .ok (.goto 200, 3) := by decide +kernel
theorem dL_law_220 : decode cL_law 220 = .ok (.aload_n 1, 1) := by decide +kernel
theorem dL_law_221 : decode cL_law 221 = .ok (.invokevirtual 33, 3) := by decide +kernel
theorem dL_law_224 : decode cL_law 224 = .ok (.aload_n 2, 1) := by decide +kernel
theorem dL_law_225 : decode cL_law 225 = .ok (.invokevirtual 36, 3) := by decide +kernel
theorem dL_law_228 : decode cL_law 228 = .ok (.goto 189, 3) := by decide +kernel
theorem dL_law_231 : decode cL_law 231 = .ok (.aload_n 1, 1) := by decide +kernel
theorem dL_law_232 : decode cL_law 232 = .ok (.invokevirtual 37, 3) := by decide +kernel
theorem dL_law_235 : decode cL_law 235 = .ok (.aload_n 2, 1) := by decide +kernel
theorem dL_law_236 : decode cL_law 236 = .ok (.invokevirtual 41, 3) := by decide +kernel
theorem dL_law_239 : decode cL_law 239 = .ok (.if_icmp .eq 178, 3) := by decide +kernel
theorem dL_law_242 : decode cL_law 242 = .ok (.iconst 0, 1) := by decide +kernel
theorem dL_law_243 : decode cL_law 243 = .ok (.ireturn, 1) := by decide +kernel
theorem dL_law_244 : decode cL_law 244 = .ok (.aload_n 1, 1) := by decide +kernel
theorem dL_law_245 : decode cL_law 245 = .ok (.invokevirtual 42, 3) := by decide +kernel
theorem dL_law_248 : decode cL_law 248 = .ok (.aload_n 2, 1) := by decide +kernel
theorem dL_law_249 : decode cL_law 249 = .ok (.invokevirtual 45, 3) := by decide +kernel
theorem dL_law_252 : decode cL_law 252 = .ok (.if_icmp .eq 165, 3) := by decide +kernel
theorem dL_law_255 : decode cL_law 255 = .ok (.iconst 0, 1) := by decide +kernel
theorem dL_law_256 : decode cL_law 256 = .ok (.ireturn, 1) := by decide +kernel
theorem dL_law_257 : decode cL_law 257 = .ok (.aload_n 1, 1) := by decide +kernel
theorem dL_law_258 : decode cL_law 258 = .ok (.aload_n 0, 1) := by decide +kernel
theorem dL_law_259 : decode cL_law 259 = .ok (.iload_n 3, 1) := by decide +kernel
theorem dL_law_260 : decode cL_law 260 = .ok (.iconst 1, 1) := by decide +kernel
theorem dL_law_261 : decode cL_law 261 = .ok (.iadd, 1) := by decide +kernel
theorem dL_law_262 : decode cL_law 262 = .ok (.iaload, 1) := by decide +kernel
theorem dL_law_263 : decode cL_law 263 = .ok (.invokevirtual 46, 3) := by decide +kernel
theorem dL_law_266 : decode cL_law 266 = .ok (.aload_n 2, 1) := by decide +kernel
theorem dL_law_267 : decode cL_law 267 = .ok (.aload_n 0, 1) := by decide +kernel
theorem dL_law_268 : decode cL_law 268 = .ok (.iload_n 3, 1) := by decide +kernel
theorem dL_law_269 : decode cL_law 269 = .ok (.iconst 1, 1) := by decide +kernel
theorem dL_law_270 : decode cL_law 270 = .ok (.iadd, 1) := by decide +kernel
theorem dL_law_271 : decode cL_law 271 = .ok (.iaload, 1) := by decide +kernel
theorem dL_law_272 : decode cL_law 272 = .ok (.invokevirtual 49, 3) := by decide +kernel
theorem dL_law_275 : decode cL_law 275 = .ok (.if_icmp .eq 142, 3) := by decide +kernel
theorem dL_law_278 : decode cL_law 278 = .ok (.iconst 0, 1) := by decide +kernel
theorem dL_law_279 : decode cL_law 279 = .ok (.ireturn, 1) := by decide +kernel
theorem dL_law_280 : decode cL_law 280 = .ok (.aload_n 1, 1) := by decide +kernel
theorem dL_law_281 : decode cL_law 281 = .ok (.aload_n 0, 1) := by decide +kernel
theorem dL_law_282 : decode cL_law 282 = .ok (.iload_n 3, 1) := by decide +kernel
theorem dL_law_283 : decode cL_law 283 = .ok (.iconst 1, 1) := by decide +kernel
theorem dL_law_284 : decode cL_law 284 = .ok (.iadd, 1) := by decide +kernel
theorem dL_law_285 : decode cL_law 285 = .ok (.iaload, 1) := by decide +kernel
theorem dL_law_286 : decode cL_law 286 = .ok (.aload_n 0, 1) := by decide +kernel
theorem dL_law_287 : decode cL_law 287 = .ok (.iload_n 3, 1) := by decide +kernel
theorem dL_law_288 : decode cL_law 288 = .ok (.iconst 2, 1) := by decide +kernel
theorem dL_law_289 : decode cL_law 289 = .ok (.iadd, 1) := by decide +kernel
theorem dL_law_290 : decode cL_law 290 = .ok (.iaload, 1) := by decide +kernel
theorem dL_law_291 : decode cL_law 291 = .ok (.invokevirtual 50, 3) := by decide +kernel
theorem dL_law_294 : decode cL_law 294 = .ok (.aload_n 2, 1) := by decide +kernel
theorem dL_law_295 : decode cL_law 295 = .ok (.aload_n 0, 1) := by decide +kernel
theorem dL_law_296 : decode cL_law 296 = .ok (.iload_n 3, 1) := by decide +kernel
theorem dL_law_297 : decode cL_law 297 = .ok (.iconst 1, 1) := by decide +kernel
theorem dL_law_298 : decode cL_law 298 = .ok (.iadd, 1) := by decide +kernel
theorem dL_law_299 : decode cL_law 299 = .ok (.iaload, 1) := by decide +kernel
theorem dL_law_300 : decode cL_law 300 = .ok (.aload_n 0, 1) := by decide +kernel
theorem dL_law_301 : decode cL_law 301 = .ok (.iload_n 3, 1) := by decide +kernel
theorem dL_law_302 : decode cL_law 302 = .ok (.iconst 2, 1) := by decide +kernel
theorem dL_law_303 : decode cL_law 303 = .ok (.iadd, 1) := by decide +kernel
theorem dL_law_304 : decode cL_law 304 = .ok (.iaload, 1) := by decide +kernel
theorem dL_law_305 : decode cL_law 305 = .ok (.invokevirtual 54, 3) := by decide +kernel
theorem dL_law_308 : decode cL_law 308 = .ok (.lcmp, 1) := by decide +kernel
theorem dL_law_309 : decode cL_law 309 = .ok (.ifCond .eq 108, 3) := by decide +kernel
theorem dL_law_312 : decode cL_law 312 = .ok (.iconst 0, 1) := by decide +kernel
theorem dL_law_313 : decode cL_law 313 = .ok (.ireturn, 1) := by decide +kernel
theorem dL_law_314 : decode cL_law 314 = .ok (.aload_n 1, 1) := by decide +kernel
theorem dL_law_315 : decode cL_law 315 = .ok (.aload_n 0, 1) := by decide +kernel
theorem dL_law_316 : decode cL_law 316 = .ok (.iload_n 3, 1) := by decide +kernel
theorem dL_law_317 : decode cL_law 317 = .ok (.iconst 1, 1) := by decide +kernel
theorem dL_law_318 : decode cL_law 318 = .ok (.iadd, 1) := by decide +kernel
theorem dL_law_319 : decode cL_law 319 = .ok (.iaload, 1) := by decide +kernel
theorem dL_law_320 : decode cL_law 320 = .ok (.aload_n 0, 1) := by decide +kernel
theorem dL_law_321 : decode cL_law 321 = .ok (.iload_n 3, 1) := by decide +kernel
theorem dL_law_322 : decode cL_law 322 = .ok (.iconst 2, 1) := by decide +kernel
theorem dL_law_323 : decode cL_law 323 = .ok (.iadd, 1) := by decide +kernel
theorem dL_law_324 : decode cL_law 324 = .ok (.iaload, 1) := by decide +kernel
theorem dL_law_325 : decode cL_law 325 = .ok (.invokevirtual 55, 3) := by decide +kernel
theorem dL_law_328 : decode cL_law 328 = .ok (.aload_n 2, 1) := by decide +kernel
theorem dL_law_329 : decode cL_law 329 = .ok (.aload_n 0, 1) := by decide +kernel
theorem dL_law_330 : decode cL_law 330 = .ok (.iload_n 3, 1) := by decide +kernel
theorem dL_law_331 : decode cL_law 331 = .ok (.iconst 1, 1) := by decide +kernel
theorem dL_law_332 : decode cL_law 332 = .ok (.iadd, 1) := by decide +kernel
theorem dL_law_333 : decode cL_law 333 = .ok (.iaload, 1) := by decide +kernel
theorem dL_law_334 : decode cL_law 334 = .ok (.aload_n 0, 1) := by decide +kernel
theorem dL_law_335 : decode cL_law 335 = .ok (.iload_n 3, 1) := by decide +kernel
theorem dL_law_336 : decode cL_law 336 = .ok (.iconst 2, 1) := by decide +kernel
theorem dL_law_337 : decode cL_law 337 = .ok (.iadd, 1) := by decide +kernel
theorem dL_law_338 : decode cL_law 338 = .ok (.iaload, 1) := by decide +kernel
theorem dL_law_339 : decode cL_law 339 = .ok (.invokevirtual 58, 3) := by decide +kernel
theorem dL_law_342 : decode cL_law 342 = .ok (.if_icmp .eq 75, 3) := by decide +kernel
theorem dL_law_345 : decode cL_law 345 = .ok (.iconst 0, 1) := by decide +kernel
theorem dL_law_346 : decode cL_law 346 = .ok (.ireturn, 1) := by decide +kernel
theorem dL_law_347 : decode cL_law 347 = .ok (.aload_n 1, 1) := by decide +kernel
theorem dL_law_348 : decode cL_law 348 = .ok (.aload_n 0, 1) := by decide +kernel
theorem dL_law_349 : decode cL_law 349 = .ok (.iload_n 3, 1) := by decide +kernel
theorem dL_law_350 : decode cL_law 350 = .ok (.iconst 1, 1) := by decide +kernel
theorem dL_law_351 : decode cL_law 351 = .ok (.iadd, 1) := by decide +kernel
theorem dL_law_352 : decode cL_law 352 = .ok (.iaload, 1) := by decide +kernel
theorem dL_law_353 : decode cL_law 353 = .ok (.invokevirtual 59, 3) := by decide +kernel
theorem dL_law_356 : decode cL_law 356 = .ok (.aload_n 2, 1) := by decide +kernel
theorem dL_law_357 : decode cL_law 357 = .ok (.aload_n 0, 1) := by decide +kernel
theorem dL_law_358 : decode cL_law 358 = .ok (.iload_n 3, 1) := by decide +kernel
theorem dL_law_359 : decode cL_law 359 = .ok (.iconst 1, 1) := by decide +kernel
theorem dL_law_360 : decode cL_law 360 = .ok (.iadd, 1) := by decide +kernel
theorem dL_law_361 : decode cL_law 361 = .ok (.iaload, 1) := by decide +kernel
theorem dL_law_362 : decode cL_law 362 = .ok (.invokevirtual 62, 3) := by decide +kernel
theorem dL_law_365 : decode cL_law 365 = .ok (.if_icmp .eq 52, 3) := by decide +kernel
theorem dL_law_368 : decode cL_law 368 = .ok (.iconst 0, 1) := by decide +kernel
theorem dL_law_369 : decode cL_law 369 = .ok (.ireturn, 1) := by decide +kernel
theorem dL_law_370 : decode cL_law 370 = .ok (.aload_n 1, 1) := by decide +kernel
theorem dL_law_371 : decode cL_law 371 = .ok (.invokevirtual 63, 3) := by decide +kernel
theorem dL_law_374 : decode cL_law 374 = .ok (.aload_n 2, 1) := by decide +kernel
theorem dL_law_375 : decode cL_law 375 = .ok (.invokevirtual 66, 3) := by decide +kernel
theorem dL_law_378 : decode cL_law 378 = .ok (.if_icmp .eq 39, 3) := by decide +kernel
theorem dL_law_381 : decode cL_law 381 = .ok (.iconst 0, 1) := by decide +kernel
theorem dL_law_382 : decode cL_law 382 = .ok (.ireturn, 1) := by decide +kernel
theorem dL_law_383 : decode cL_law 383 = .ok (.aload_n 1, 1) := by decide +kernel
theorem dL_law_384 : decode cL_law 384 = .ok (.aload_n 0, 1) := by decide +kernel
theorem dL_law_385 : decode cL_law 385 = .ok (.iload_n 3, 1) := by decide +kernel
theorem dL_law_386 : decode cL_law 386 = .ok (.iconst 1, 1) := by decide +kernel
theorem dL_law_387 : decode cL_law 387 = .ok (.iadd, 1) := by decide +kernel
theorem dL_law_388 : decode cL_law 388 = .ok (.iaload, 1) := by decide +kernel
theorem dL_law_389 : decode cL_law 389 = .ok (.aload_n 0, 1) := by decide +kernel
theorem dL_law_390 : decode cL_law 390 = .ok (.iload_n 3, 1) := by decide +kernel
theorem dL_law_391 : decode cL_law 391 = .ok (.iconst 2, 1) := by decide +kernel
theorem dL_law_392 : decode cL_law 392 = .ok (.iadd, 1) := by decide +kernel
theorem dL_law_393 : decode cL_law 393 = .ok (.iaload, 1) := by decide +kernel
theorem dL_law_394 : decode cL_law 394 = .ok (.invokevirtual 67, 3) := by decide +kernel
theorem dL_law_397 : decode cL_law 397 = .ok (.aload_n 2, 1) := by decide +kernel
theorem dL_law_398 : decode cL_law 398 = .ok (.aload_n 0, 1) := by decide +kernel
theorem dL_law_399 : decode cL_law 399 = .ok (.iload_n 3, 1) := by decide +kernel
theorem dL_law_400 : decode cL_law 400 = .ok (.iconst 1, 1) := by decide +kernel
theorem dL_law_401 : decode cL_law 401 = .ok (.iadd, 1) := by decide +kernel
theorem dL_law_402 : decode cL_law 402 = .ok (.iaload, 1) := by decide +kernel
theorem dL_law_403 : decode cL_law 403 = .ok (.aload_n 0, 1) := by decide +kernel
theorem dL_law_404 : decode cL_law 404 = .ok (.iload_n 3, 1) := by decide +kernel
theorem dL_law_405 : decode cL_law 405 = .ok (.iconst 2, 1) := by decide +kernel
theorem dL_law_406 : decode cL_law 406 = .ok (.iadd, 1) := by decide +kernel
theorem dL_law_407 : decode cL_law 407 = .ok (.iaload, 1) := by decide +kernel
theorem dL_law_408 : decode cL_law 408 = .ok (.invokevirtual 70, 3) := by decide +kernel
theorem dL_law_411 : decode cL_law 411 = .ok (.lcmp, 1) := by decide +kernel
theorem dL_law_412 : decode cL_law 412 = .ok (.ifCond .eq 5, 3) := by decide +kernel
theorem dL_law_415 : decode cL_law 415 = .ok (.iconst 0, 1) := by decide +kernel
theorem dL_law_416 : decode cL_law 416 = .ok (.ireturn, 1) := by decide +kernel
theorem dL_law_417 : decode cL_law 417 = .ok (.iinc 3 4, 3) := by decide +kernel
theorem dL_law_420 : decode cL_law 420 = .ok (.goto (-402), 3) := by decide +kernel
theorem dL_law_423 : decode cL_law 423 = .ok (.iconst 1, 1) := by decide +kernel
theorem dL_law_424 : decode cL_law 424 = .ok (.ireturn, 1) := by decide +kernel
end
section
/-! HELP for the walks -/
def oC {α : Type} (o : Option Nat) (a : α) (f : Nat → α) : α := match o with
  | none => a
  | some q => f q
theorem oC_none {α : Type} (a : α) (f : Nat → α) : oC none a f = a := rfl
theorem oC_some {α : Type} (q : Nat) (a : α) (f : Nat → α) : oC (some q) a f = f q := rfl
theorem tagA {x y : Int32} {a b : Nat} (hx : x = nI a) (hy : y = nI b) : x + y = nI (a + b) := by rw [hx, hy, nI_add]
theorem tagM {x y : Int32} {a b : Nat} (hx : x = nI a) (hy : y = nI b) : x * y = nI (a * b) := by rw [hx, hy, pk_mul]
theorem tagS {x : Int32} {a : Nat} (hx : x = nI (a + 1)) : x - 1 = nI a := by rw [hx, nI_pred]
theorem tagP {x : Int32} {a : Nat} (hx : x = nI a) (h : 0 < a) : x - 1 = nI (a - 1) := by
  obtain ⟨k, rfl⟩ : ∃ k, a = k + 1 := ⟨a - 1, by omega⟩
  rw [hx, nI_pred]; rfl
theorem tagD {a : Nat} (h : 0 < a) : nI a + Int32.ofInt (-1) = nI (a - 1) := by
  obtain ⟨k, rfl⟩ : ∃ k, a = k + 1 := ⟨a - 1, by omega⟩
  exact pk_m1 k
theorem npos {j : Nat} (h : ¬ nI j ≤ 0) : 0 < j := by
  rcases Nat.eq_zero_or_pos j with q | q
  · subst q; exact absurd (by decide) h
  · exact q
theorem ne_i {x : Int32} (k : Nat) (h : ¬ x = nI k) (hk : k < 2 ^ 31) : x.toInt ≠ (k : Int) := fun q => h (Int32.toInt_inj.mp (q.trans (nI_toInt hk).symm))
theorem gC {w : Cond} (h : w ∈ T0) : GoodIn T0 (w :: T0) := fun v hv => by
  rcases List.mem_cons.mp hv with q | q
  · rw [q]; exact T0_good _ h
  · exact T0_good _ q
theorem cl_lt {x : Int32} {n : Nat} (h : vp_in x n) : x.toNatClampNeg < n := Nat.not_le.mp fun q => h (Or.inr q)
theorem cl_of {x : Int32} {n : Nat} (h : vp_in x n) : x = nI x.toNatClampNeg := by
  obtain ⟨j, hj, e⟩ := nI_of (fun q => h (Or.inl q) : ¬ x < 0)
  rw [e, nI_clamp hj]
theorem vin_lt {x : Int32} (n : Nat) (h0 : ¬ x < 0) (h : x < nI n) (hn : n < 1000) : vp_in x n := by
  rw [vp_in_iff]
  obtain ⟨j, hj, e⟩ := nI_of h0
  subst e
  rw [nI_toInt hj]
  have := (nI_ltI hj (show n < 2 ^ 31 by omega)).mp h
  omega
theorem vin_nle {x : Int32} (n : Nat) (h0 : ¬ x < 0) (h : ¬ nI n ≤ x) (hn : n < 1000) : vp_in x n := by
  rw [vp_in_iff]
  obtain ⟨j, hj, e⟩ := nI_of h0
  subst e
  rw [nI_toInt hj]
  have : ¬ n ≤ j := fun q => h ((nI_leI (show n < 2 ^ 31 by omega) hj).mpr q)
  omega
theorem ngt_8 {j : Nat} (hj : j ≤ 400) (k : Nat) (hk : k ≤ 400) (h : ¬ nI k ≤ nI j) : j < k := by
  rcases Nat.lt_or_ge j k with q | q
  · exact q
  · exact absurd (nI_le q (by omega)) h
section MU
variable {p : Program} {l : Launch} {e : Env} {R : Room} {s : State} {m : MethodId} {args : Array Value} {below : List Frame} {meth : Method} {c : Code} {H : Heap} {locs : List Loc} {cells slots : Nat} {Q : State → Prop}
variable {cc : ByteArray} {pc : Nat} {ls : Array Slot} {rest : List Value} {D : va_G} {cs : Nat → ClassId} {H0 : Heap} {b : Nat} {σ : St}
theorem x_ialdU (hexec : p.tables.exec = Jvm.exec) (hb : c.code = cc) (hK : va_K D vwCl (tyx cs) s) (hH : He D b 43 (Ex cs b σ) H) (g i N : Nat) (hi : i < xn g) (he : xeF cs b (gI σ g i) (gR σ g i) g i = .inl (cs 0, N, .inl (gI σ g i))) {x : Int32} (hin : vp_in x N) (hdg : decode cc pc = .ok (.iaload, 1))
    (kk : W p l e R s m args below meth c H locs cells slots Q (F0 m (pc + 1) ls (.int (gI σ g i x.toNatClampNeg) :: rest))) : W p l e R s m args below meth c H locs cells slots Q (F0 m pc ls (.int x :: .ref (b + xo g i) :: rest)) :=
  e_iald hexec hb hK hH (xo_ok hi).2.2 0 ((Ex_at cs b σ hi).trans he) rfl hin hdg kk
theorem x_iastU (hexec : p.tables.exec = Jvm.exec) (hb : c.code = cc) (hK : va_K D vwCl (tyx cs) s) (hH : He D b 43 (Ex cs b σ) H) (hS0 : va_S (fun q => b ≤ q) H0 H locs) (g i N : Nat) (hi : i < xn g) (he : ∀ (f : Nat → Int32) (r : Nat → Option Nat), xeF cs b f r g i = .inl (cs 0, N, .inl f)) {x v : Int32} (hin : vp_in x N) (hdg : decode cc pc = .ok (.iastore, 1))
    (kk : ∀ (H1 : Heap) (locs1 : List Loc), He D b 43 (Ex cs b (sI σ g i x.toNatClampNeg v)) H1 → va_S (fun q => b ≤ q) H0 H1 locs1 → W p l e R s m args below meth c H1 locs1 cells slots Q (F0 m (pc + 1) ls rest)) : W p l e R s m args below meth c H locs cells slots Q (F0 m pc ls (.int v :: .int x :: .ref (b + xo g i) :: rest)) := by
  refine e_iast hexec hb hK hH hS0 (xo_ok hi).2.2 0 ((Ex_at cs b σ hi).trans (he _ _)) rfl hin hdg (fun H1 locs1 hH1 hS1 => kk H1 locs1 (Ex_put hi sI_off ?_ hH1) hS1)
  rw [gI_sI_f]
  exact he _ _
end MU
end
section
section FR
variable {p : Program} {l : Launch} {e : Env} {R : Room} {s : State} {m : MethodId} {args : Array Value} {below : List Frame} {meth : Method} {c : Code} {H : Heap} {locs : List Loc} {cells slots : Nat} {Q : State → Prop}
variable {cc : ByteArray} {pc : Nat} {ls : Array Slot} {rest : List Value} {D : va_G} {cs : Nat → ClassId} {H0 : Heap} {b : Nat} {σ : St}
theorem fgX0_15 (hx : p.tables.exec = Jvm.exec) (hb : c.code = cc) (hts : ∀ w ∈ T0, w.before args s = true) (hown : s.vm.findClass RX0 = some m.cls) (hK : va_K D vwCl (tyx cs) s) (hH : He D b 43 (Ex cs b σ) H) (i : Nat) (hi : i < xn 8) (o : Option Nat) (ho : gR σ 8 i 1 = o) (hdg : decode cc pc = .ok (.getfield 15, 3)) (kk : W p l e R s m args below meth c H locs cells slots Q (F0 m (pc + 3) ls (va_rf (o.map (fun p => b + xo 5 p)) :: rest))) : W p l e R s m args below meth c H locs cells slots Q (F0 m pc ls (.ref (b + xo 8 i) :: rest)) := by
  subst ho
  exact x_get hx hb hts inX0 hown hK hH 8 i 1 hi rfl rfl (by decide) wF_X0_15 rfl rfl hdg kk
theorem fpX0_15 (hx : p.tables.exec = Jvm.exec) (hb : c.code = cc) (hts : ∀ w ∈ T0, w.before args s = true) (hown : s.vm.findClass RX0 = some m.cls) (hK : va_K D vwCl (tyx cs) s) (hH : He D b 43 (Ex cs b σ) H) (hS0 : va_S (fun q => b ≤ q) H0 H locs) (i : Nat) (hi : i < xn 8) (r : Option Nat) {v : Value} (hrv : va_rf (r.map (fun p => b + xo 5 p)) = v) (hdg : decode cc pc = .ok (.putfield 15, 3)) (kk : ∀ (H1 : Heap) (locs1 : List Loc), He D b 43 (Ex cs b (sR σ 8 i 1 r)) H1 → va_S (fun q => b ≤ q) H0 H1 locs1 → W p l e R s m args below meth c H1 locs1 cells slots Q (F0 m (pc + 3) ls rest)) : W p l e R s m args below meth c H locs cells slots Q (F0 m pc ls (v :: .ref (b + xo 8 i) :: rest)) := x_putR hx hb hts inX0 tyX0 tyX0_ok nmX0 hown hK hH hS0 8 i 1 hi rfl r hrv rfl rfl (by decide) wF_X0_15 rfl rfl rfl (Nat.le_of_ble_eq_true rfl) hdg kk
theorem fgX0_19 (hx : p.tables.exec = Jvm.exec) (hb : c.code = cc) (hts : ∀ w ∈ T0, w.before args s = true) (hown : s.vm.findClass RX0 = some m.cls) (hK : va_K D vwCl (tyx cs) s) (hH : He D b 43 (Ex cs b σ) H) (i : Nat) (hi : i < xn 8) (hdg : decode cc pc = .ok (.getfield 19, 3)) (kk : W p l e R s m args below meth c H locs cells slots Q (F0 m (pc + 3) ls (.int (gI σ 8 i 2) :: rest))) : W p l e R s m args below meth c H locs cells slots Q (F0 m pc ls (.ref (b + xo 8 i) :: rest)) := x_get hx hb hts inX0 hown hK hH 8 i 2 hi rfl rfl (by decide) wF_X0_19 rfl rfl hdg kk
theorem fpX0_19 (hx : p.tables.exec = Jvm.exec) (hb : c.code = cc) (hts : ∀ w ∈ T0, w.before args s = true) (hown : s.vm.findClass RX0 = some m.cls) (hK : va_K D vwCl (tyx cs) s) (hH : He D b 43 (Ex cs b σ) H) (hS0 : va_S (fun q => b ≤ q) H0 H locs) (i : Nat) (hi : i < xn 8) {v : Int32} (hv : v = 0 ∨ v = 1) (hdg : decode cc pc = .ok (.putfield 19, 3)) (kk : ∀ (H1 : Heap) (locs1 : List Loc), He D b 43 (Ex cs b (sI σ 8 i 2 v)) H1 → va_S (fun q => b ≤ q) H0 H1 locs1 → W p l e R s m args below meth c H1 locs1 cells slots Q (F0 m (pc + 3) ls rest)) : W p l e R s m args below meth c H locs cells slots Q (F0 m pc ls (.int v :: .ref (b + xo 8 i) :: rest)) := x_putI hx hb hts inX0 tyX0 tyX0_ok nmX0 hown hK hH hS0 8 i 2 hi rfl rfl rfl (by decide) wF_X0_19 rfl rfl (by rcases hv with rfl | rfl <;> rfl) (by rcases hv with rfl | rfl <;> rfl) (Nat.le_of_ble_eq_true rfl) hdg kk
theorem fpX0_23 (hx : p.tables.exec = Jvm.exec) (hb : c.code = cc) (hts : ∀ w ∈ T0, w.before args s = true) (hown : s.vm.findClass RX0 = some m.cls) (hK : va_K D vwCl (tyx cs) s) (hH : He D b 43 (Ex cs b σ) H) (hS0 : va_S (fun q => b ≤ q) H0 H locs) (i : Nat) (hi : i < xn 8) {v : Int32} (hdg : decode cc pc = .ok (.putfield 23, 3)) (kk : ∀ (H1 : Heap) (locs1 : List Loc), He D b 43 (Ex cs b (sI σ 8 i 3 v)) H1 → va_S (fun q => b ≤ q) H0 H1 locs1 → W p l e R s m args below meth c H1 locs1 cells slots Q (F0 m (pc + 3) ls rest)) : W p l e R s m args below meth c H locs cells slots Q (F0 m pc ls (.int v :: .ref (b + xo 8 i) :: rest)) := x_putI hx hb hts inX0 tyX0 tyX0_ok nmX0 hown hK hH hS0 8 i 3 hi rfl rfl rfl (by decide) wF_X0_23 rfl rfl rfl rfl (Nat.le_of_ble_eq_true rfl) hdg kk
theorem fpX0_26 (hx : p.tables.exec = Jvm.exec) (hb : c.code = cc) (hts : ∀ w ∈ T0, w.before args s = true) (hown : s.vm.findClass RX0 = some m.cls) (hK : va_K D vwCl (tyx cs) s) (hH : He D b 43 (Ex cs b σ) H) (hS0 : va_S (fun q => b ≤ q) H0 H locs) (i : Nat) (hi : i < xn 5) {v : Int32} (hdg : decode cc pc = .ok (.putfield 26, 3)) (kk : ∀ (H1 : Heap) (locs1 : List Loc), He D b 43 (Ex cs b (sI σ 5 i 2 v)) H1 → va_S (fun q => b ≤ q) H0 H1 locs1 → W p l e R s m args below meth c H1 locs1 cells slots Q (F0 m (pc + 3) ls rest)) : W p l e R s m args below meth c H locs cells slots Q (F0 m pc ls (.int v :: .ref (b + xo 5 i) :: rest)) := x_putI hx hb hts inX2 tyX2 tyX2_ok nmX2 hown hK hH hS0 5 i 2 hi rfl rfl rfl (by decide) wF_X0_26 rfl rfl rfl rfl (Nat.le_of_ble_eq_true rfl) hdg kk
theorem fgX0_31 (hx : p.tables.exec = Jvm.exec) (hb : c.code = cc) (hts : ∀ w ∈ T0, w.before args s = true) (hown : s.vm.findClass RX0 = some m.cls) (hK : va_K D vwCl (tyx cs) s) (hH : He D b 43 (Ex cs b σ) H) (i : Nat) (hi : i < xn 5) (hdg : decode cc pc = .ok (.getfield 31, 3)) (kk : W p l e R s m args below meth c H locs cells slots Q (F0 m (pc + 3) ls (.int (nI i) :: rest))) : W p l e R s m args below meth c H locs cells slots Q (F0 m pc ls (.ref (b + xo 5 i) :: rest)) := x_get hx hb hts inX2 hown hK hH 5 i 0 hi rfl rfl (by decide) wF_X0_31 rfl rfl hdg kk
theorem fgX1_9 (hx : p.tables.exec = Jvm.exec) (hb : c.code = cc) (hts : ∀ w ∈ T0, w.before args s = true) (hown : s.vm.findClass RX1 = some m.cls) (hK : va_K D vwCl (tyx cs) s) (hH : He D b 43 (Ex cs b σ) H) (i : Nat) (hi : i < xn 11) (hdg : decode cc pc = .ok (.getfield 9, 3)) (kk : W p l e R s m args below meth c H locs cells slots Q (F0 m (pc + 3) ls (.ref (b + xo 12 0) :: rest))) : W p l e R s m args below meth c H locs cells slots Q (F0 m pc ls (.ref (b + xo 11 i) :: rest)) := x_get hx hb hts inX1 hown hK hH 11 i 0 hi rfl rfl (by decide) wF_X1_9 rfl rfl hdg kk
theorem fgX1_15 (hx : p.tables.exec = Jvm.exec) (hb : c.code = cc) (hts : ∀ w ∈ T0, w.before args s = true) (hown : s.vm.findClass RX1 = some m.cls) (hK : va_K D vwCl (tyx cs) s) (hH : He D b 43 (Ex cs b σ) H) (i : Nat) (hi : i < xn 11) (hdg : decode cc pc = .ok (.getfield 15, 3)) (kk : W p l e R s m args below meth c H locs cells slots Q (F0 m (pc + 3) ls (.int (gI σ 11 i 1) :: rest))) : W p l e R s m args below meth c H locs cells slots Q (F0 m pc ls (.ref (b + xo 11 i) :: rest)) := x_get hx hb hts inX1 hown hK hH 11 i 1 hi rfl rfl (by decide) wF_X1_15 rfl rfl hdg kk
theorem fpX1_15 (hx : p.tables.exec = Jvm.exec) (hb : c.code = cc) (hts : ∀ w ∈ T0, w.before args s = true) (hown : s.vm.findClass RX1 = some m.cls) (hK : va_K D vwCl (tyx cs) s) (hH : He D b 43 (Ex cs b σ) H) (hS0 : va_S (fun q => b ≤ q) H0 H locs) (i : Nat) (hi : i < xn 11) {v : Int32} (hdg : decode cc pc = .ok (.putfield 15, 3)) (kk : ∀ (H1 : Heap) (locs1 : List Loc), He D b 43 (Ex cs b (sI σ 11 i 1 v)) H1 → va_S (fun q => b ≤ q) H0 H1 locs1 → W p l e R s m args below meth c H1 locs1 cells slots Q (F0 m (pc + 3) ls rest)) : W p l e R s m args below meth c H locs cells slots Q (F0 m pc ls (.int v :: .ref (b + xo 11 i) :: rest)) := x_putI hx hb hts inX1 tyX1 tyX1_ok nmX1 hown hK hH hS0 11 i 1 hi rfl rfl rfl (by decide) wF_X1_15 rfl rfl rfl rfl (Nat.le_of_ble_eq_true rfl) hdg kk
theorem fgX2_15 (hx : p.tables.exec = Jvm.exec) (hb : c.code = cc) (hts : ∀ w ∈ T0, w.before args s = true) (hown : s.vm.findClass RX2 = some m.cls) (hK : va_K D vwCl (tyx cs) s) (hH : He D b 43 (Ex cs b σ) H) (i : Nat) (hi : i < xn 5) (hdg : decode cc pc = .ok (.getfield 15, 3)) (kk : W p l e R s m args below meth c H locs cells slots Q (F0 m (pc + 3) ls (.ref (b + xo 6 i) :: rest))) : W p l e R s m args below meth c H locs cells slots Q (F0 m pc ls (.ref (b + xo 5 i) :: rest)) := x_get hx hb hts inX2 hown hK hH 5 i 1 hi rfl rfl (by decide) wF_X2_15 rfl rfl hdg kk
theorem fgX2_22 (hx : p.tables.exec = Jvm.exec) (hb : c.code = cc) (hts : ∀ w ∈ T0, w.before args s = true) (hown : s.vm.findClass RX2 = some m.cls) (hK : va_K D vwCl (tyx cs) s) (hH : He D b 43 (Ex cs b σ) H) (i : Nat) (hi : i < xn 5) (hdg : decode cc pc = .ok (.getfield 22, 3)) (kk : W p l e R s m args below meth c H locs cells slots Q (F0 m (pc + 3) ls (.int (gI σ 5 i 3) :: rest))) : W p l e R s m args below meth c H locs cells slots Q (F0 m pc ls (.ref (b + xo 5 i) :: rest)) := x_get hx hb hts inX2 hown hK hH 5 i 3 hi rfl rfl (by decide) wF_X2_22 rfl rfl hdg kk
theorem fpX2_22 (hx : p.tables.exec = Jvm.exec) (hb : c.code = cc) (hts : ∀ w ∈ T0, w.before args s = true) (hown : s.vm.findClass RX2 = some m.cls) (hK : va_K D vwCl (tyx cs) s) (hH : He D b 43 (Ex cs b σ) H) (hS0 : va_S (fun q => b ≤ q) H0 H locs) (i : Nat) (hi : i < xn 5) {v : Int32} (hdg : decode cc pc = .ok (.putfield 22, 3)) (kk : ∀ (H1 : Heap) (locs1 : List Loc), He D b 43 (Ex cs b (sI σ 5 i 3 v)) H1 → va_S (fun q => b ≤ q) H0 H1 locs1 → W p l e R s m args below meth c H1 locs1 cells slots Q (F0 m (pc + 3) ls rest)) : W p l e R s m args below meth c H locs cells slots Q (F0 m pc ls (.int v :: .ref (b + xo 5 i) :: rest)) := x_putI hx hb hts inX2 tyX2 tyX2_ok nmX2 hown hK hH hS0 5 i 3 hi rfl rfl rfl (by decide) wF_X2_22 rfl rfl rfl rfl (Nat.le_of_ble_eq_true rfl) hdg kk
theorem fgX2_25 (hx : p.tables.exec = Jvm.exec) (hb : c.code = cc) (hts : ∀ w ∈ T0, w.before args s = true) (hown : s.vm.findClass RX2 = some m.cls) (hK : va_K D vwCl (tyx cs) s) (hH : He D b 43 (Ex cs b σ) H) (i : Nat) (hi : i < xn 5) (hdg : decode cc pc = .ok (.getfield 25, 3)) (kk : W p l e R s m args below meth c H locs cells slots Q (F0 m (pc + 3) ls (.int (gI σ 5 i 4) :: rest))) : W p l e R s m args below meth c H locs cells slots Q (F0 m pc ls (.ref (b + xo 5 i) :: rest)) := x_get hx hb hts inX2 hown hK hH 5 i 4 hi rfl rfl (by decide) wF_X2_25 rfl rfl hdg kk
theorem fpX2_25 (hx : p.tables.exec = Jvm.exec) (hb : c.code = cc) (hts : ∀ w ∈ T0, w.before args s = true) (hown : s.vm.findClass RX2 = some m.cls) (hK : va_K D vwCl (tyx cs) s) (hH : He D b 43 (Ex cs b σ) H) (hS0 : va_S (fun q => b ≤ q) H0 H locs) (i : Nat) (hi : i < xn 5) {v : Int32} (hdg : decode cc pc = .ok (.putfield 25, 3)) (kk : ∀ (H1 : Heap) (locs1 : List Loc), He D b 43 (Ex cs b (sI σ 5 i 4 v)) H1 → va_S (fun q => b ≤ q) H0 H1 locs1 → W p l e R s m args below meth c H1 locs1 cells slots Q (F0 m (pc + 3) ls rest)) : W p l e R s m args below meth c H locs cells slots Q (F0 m pc ls (.int v :: .ref (b + xo 5 i) :: rest)) := x_putI hx hb hts inX2 tyX2 tyX2_ok nmX2 hown hK hH hS0 5 i 4 hi rfl rfl rfl (by decide) wF_X2_25 rfl rfl rfl rfl (Nat.le_of_ble_eq_true rfl) hdg kk
theorem fgX2_28 (hx : p.tables.exec = Jvm.exec) (hb : c.code = cc) (hts : ∀ w ∈ T0, w.before args s = true) (hown : s.vm.findClass RX2 = some m.cls) (hK : va_K D vwCl (tyx cs) s) (hH : He D b 43 (Ex cs b σ) H) (i : Nat) (hi : i < xn 5) (hdg : decode cc pc = .ok (.getfield 28, 3)) (kk : W p l e R s m args below meth c H locs cells slots Q (F0 m (pc + 3) ls (.int (gI σ 5 i 5) :: rest))) : W p l e R s m args below meth c H locs cells slots Q (F0 m pc ls (.ref (b + xo 5 i) :: rest)) := x_get hx hb hts inX2 hown hK hH 5 i 5 hi rfl rfl (by decide) wF_X2_28 rfl rfl hdg kk
theorem fpX2_28 (hx : p.tables.exec = Jvm.exec) (hb : c.code = cc) (hts : ∀ w ∈ T0, w.before args s = true) (hown : s.vm.findClass RX2 = some m.cls) (hK : va_K D vwCl (tyx cs) s) (hH : He D b 43 (Ex cs b σ) H) (hS0 : va_S (fun q => b ≤ q) H0 H locs) (i : Nat) (hi : i < xn 5) {v : Int32} (hdg : decode cc pc = .ok (.putfield 28, 3)) (kk : ∀ (H1 : Heap) (locs1 : List Loc), He D b 43 (Ex cs b (sI σ 5 i 5 v)) H1 → va_S (fun q => b ≤ q) H0 H1 locs1 → W p l e R s m args below meth c H1 locs1 cells slots Q (F0 m (pc + 3) ls rest)) : W p l e R s m args below meth c H locs cells slots Q (F0 m pc ls (.int v :: .ref (b + xo 5 i) :: rest)) := x_putI hx hb hts inX2 tyX2 tyX2_ok nmX2 hown hK hH hS0 5 i 5 hi rfl rfl rfl (by decide) wF_X2_28 rfl rfl rfl rfl (Nat.le_of_ble_eq_true rfl) hdg kk
theorem fgX2_31 (hx : p.tables.exec = Jvm.exec) (hb : c.code = cc) (hts : ∀ w ∈ T0, w.before args s = true) (hown : s.vm.findClass RX2 = some m.cls) (hK : va_K D vwCl (tyx cs) s) (hH : He D b 43 (Ex cs b σ) H) (i : Nat) (hi : i < xn 5) (hdg : decode cc pc = .ok (.getfield 31, 3)) (kk : W p l e R s m args below meth c H locs cells slots Q (F0 m (pc + 3) ls (.int (gI σ 5 i 6) :: rest))) : W p l e R s m args below meth c H locs cells slots Q (F0 m pc ls (.ref (b + xo 5 i) :: rest)) := x_get hx hb hts inX2 hown hK hH 5 i 6 hi rfl rfl (by decide) wF_X2_31 rfl rfl hdg kk
theorem fpX2_31 (hx : p.tables.exec = Jvm.exec) (hb : c.code = cc) (hts : ∀ w ∈ T0, w.before args s = true) (hown : s.vm.findClass RX2 = some m.cls) (hK : va_K D vwCl (tyx cs) s) (hH : He D b 43 (Ex cs b σ) H) (hS0 : va_S (fun q => b ≤ q) H0 H locs) (i : Nat) (hi : i < xn 5) {v : Int32} (hdg : decode cc pc = .ok (.putfield 31, 3)) (kk : ∀ (H1 : Heap) (locs1 : List Loc), He D b 43 (Ex cs b (sI σ 5 i 6 v)) H1 → va_S (fun q => b ≤ q) H0 H1 locs1 → W p l e R s m args below meth c H1 locs1 cells slots Q (F0 m (pc + 3) ls rest)) : W p l e R s m args below meth c H locs cells slots Q (F0 m pc ls (.int v :: .ref (b + xo 5 i) :: rest)) := x_putI hx hb hts inX2 tyX2 tyX2_ok nmX2 hown hK hH hS0 5 i 6 hi rfl rfl rfl (by decide) wF_X2_31 rfl rfl rfl rfl (Nat.le_of_ble_eq_true rfl) hdg kk
theorem fgX2_34 (hx : p.tables.exec = Jvm.exec) (hb : c.code = cc) (hts : ∀ w ∈ T0, w.before args s = true) (hown : s.vm.findClass RX2 = some m.cls) (hK : va_K D vwCl (tyx cs) s) (hH : He D b 43 (Ex cs b σ) H) (i : Nat) (hi : i < xn 5) (hdg : decode cc pc = .ok (.getfield 34, 3)) (kk : W p l e R s m args below meth c H locs cells slots Q (F0 m (pc + 3) ls (.int (gI σ 5 i 7) :: rest))) : W p l e R s m args below meth c H locs cells slots Q (F0 m pc ls (.ref (b + xo 5 i) :: rest)) := x_get hx hb hts inX2 hown hK hH 5 i 7 hi rfl rfl (by decide) wF_X2_34 rfl rfl hdg kk
theorem fpX2_34 (hx : p.tables.exec = Jvm.exec) (hb : c.code = cc) (hts : ∀ w ∈ T0, w.before args s = true) (hown : s.vm.findClass RX2 = some m.cls) (hK : va_K D vwCl (tyx cs) s) (hH : He D b 43 (Ex cs b σ) H) (hS0 : va_S (fun q => b ≤ q) H0 H locs) (i : Nat) (hi : i < xn 5) {v : Int32} (hdg : decode cc pc = .ok (.putfield 34, 3)) (kk : ∀ (H1 : Heap) (locs1 : List Loc), He D b 43 (Ex cs b (sI σ 5 i 7 v)) H1 → va_S (fun q => b ≤ q) H0 H1 locs1 → W p l e R s m args below meth c H1 locs1 cells slots Q (F0 m (pc + 3) ls rest)) : W p l e R s m args below meth c H locs cells slots Q (F0 m pc ls (.int v :: .ref (b + xo 5 i) :: rest)) := x_putI hx hb hts inX2 tyX2 tyX2_ok nmX2 hown hK hH hS0 5 i 7 hi rfl rfl rfl (by decide) wF_X2_34 rfl rfl rfl rfl (Nat.le_of_ble_eq_true rfl) hdg kk
theorem fgX3_9 (hx : p.tables.exec = Jvm.exec) (hb : c.code = cc) (hts : ∀ w ∈ T0, w.before args s = true) (hown : s.vm.findClass RX3 = some m.cls) (hK : va_K D vwCl (tyx cs) s) (hH : He D b 43 (Ex cs b σ) H) (i : Nat) (hi : i < xn 1) (hdg : decode cc pc = .ok (.getfield 9, 3)) (kk : W p l e R s m args below meth c H locs cells slots Q (F0 m (pc + 3) ls (.ref (b + xo 2 0) :: rest))) : W p l e R s m args below meth c H locs cells slots Q (F0 m pc ls (.ref (b + xo 1 i) :: rest)) := x_get hx hb hts inX3 hown hK hH 1 i 0 hi rfl rfl (by decide) wF_X3_9 rfl rfl hdg kk
theorem fgX3_15 (hx : p.tables.exec = Jvm.exec) (hb : c.code = cc) (hts : ∀ w ∈ T0, w.before args s = true) (hown : s.vm.findClass RX3 = some m.cls) (hK : va_K D vwCl (tyx cs) s) (hH : He D b 43 (Ex cs b σ) H) (i : Nat) (hi : i < xn 1) (hdg : decode cc pc = .ok (.getfield 15, 3)) (kk : W p l e R s m args below meth c H locs cells slots Q (F0 m (pc + 3) ls (.ref (b + xo 3 0) :: rest))) : W p l e R s m args below meth c H locs cells slots Q (F0 m pc ls (.ref (b + xo 1 i) :: rest)) := x_get hx hb hts inX3 hown hK hH 1 i 1 hi rfl rfl (by decide) wF_X3_15 rfl rfl hdg kk
theorem fgX3_18 (hx : p.tables.exec = Jvm.exec) (hb : c.code = cc) (hts : ∀ w ∈ T0, w.before args s = true) (hown : s.vm.findClass RX3 = some m.cls) (hK : va_K D vwCl (tyx cs) s) (hH : He D b 43 (Ex cs b σ) H) (i : Nat) (hi : i < xn 1) (hdg : decode cc pc = .ok (.getfield 18, 3)) (kk : W p l e R s m args below meth c H locs cells slots Q (F0 m (pc + 3) ls (.int (gI σ 1 i 2) :: rest))) : W p l e R s m args below meth c H locs cells slots Q (F0 m pc ls (.ref (b + xo 1 i) :: rest)) := x_get hx hb hts inX3 hown hK hH 1 i 2 hi rfl rfl (by decide) wF_X3_18 rfl rfl hdg kk
theorem fpX3_18 (hx : p.tables.exec = Jvm.exec) (hb : c.code = cc) (hts : ∀ w ∈ T0, w.before args s = true) (hown : s.vm.findClass RX3 = some m.cls) (hK : va_K D vwCl (tyx cs) s) (hH : He D b 43 (Ex cs b σ) H) (hS0 : va_S (fun q => b ≤ q) H0 H locs) (i : Nat) (hi : i < xn 1) {v : Int32} (hdg : decode cc pc = .ok (.putfield 18, 3)) (kk : ∀ (H1 : Heap) (locs1 : List Loc), He D b 43 (Ex cs b (sI σ 1 i 2 v)) H1 → va_S (fun q => b ≤ q) H0 H1 locs1 → W p l e R s m args below meth c H1 locs1 cells slots Q (F0 m (pc + 3) ls rest)) : W p l e R s m args below meth c H locs cells slots Q (F0 m pc ls (.int v :: .ref (b + xo 1 i) :: rest)) := x_putI hx hb hts inX3 tyX3 tyX3_ok nmX3 hown hK hH hS0 1 i 2 hi rfl rfl rfl (by decide) wF_X3_18 rfl rfl rfl rfl (Nat.le_of_ble_eq_true rfl) hdg kk
theorem fgX4_11 (hx : p.tables.exec = Jvm.exec) (hb : c.code = cc) (hts : ∀ w ∈ T0, w.before args s = true) (hown : s.vm.findClass RX4 = some m.cls) (hK : va_K D vwCl (tyx cs) s) (hH : He D b 43 (Ex cs b σ) H) (i : Nat) (hi : i < xn 9) (hdg : decode cc pc = .ok (.getfield 11, 3)) (kk : W p l e R s m args below meth c H locs cells slots Q (F0 m (pc + 3) ls (.ref (b + xo 10 i) :: rest))) : W p l e R s m args below meth c H locs cells slots Q (F0 m pc ls (.ref (b + xo 9 i) :: rest)) := x_get hx hb hts inX4 hown hK hH 9 i 0 hi rfl rfl (by decide) wF_X4_11 rfl rfl hdg kk
theorem fgX4_17 (hx : p.tables.exec = Jvm.exec) (hb : c.code = cc) (hts : ∀ w ∈ T0, w.before args s = true) (hown : s.vm.findClass RX4 = some m.cls) (hK : va_K D vwCl (tyx cs) s) (hH : He D b 43 (Ex cs b σ) H) (i : Nat) (hi : i < xn 9) (hdg : decode cc pc = .ok (.getfield 17, 3)) (kk : W p l e R s m args below meth c H locs cells slots Q (F0 m (pc + 3) ls (.int (gI σ 9 i 1) :: rest))) : W p l e R s m args below meth c H locs cells slots Q (F0 m pc ls (.ref (b + xo 9 i) :: rest)) := x_get hx hb hts inX4 hown hK hH 9 i 1 hi rfl rfl (by decide) wF_X4_17 rfl rfl hdg kk
theorem fpX4_17 (hx : p.tables.exec = Jvm.exec) (hb : c.code = cc) (hts : ∀ w ∈ T0, w.before args s = true) (hown : s.vm.findClass RX4 = some m.cls) (hK : va_K D vwCl (tyx cs) s) (hH : He D b 43 (Ex cs b σ) H) (hS0 : va_S (fun q => b ≤ q) H0 H locs) (i : Nat) (hi : i < xn 9) {v : Int32} (hdg : decode cc pc = .ok (.putfield 17, 3)) (kk : ∀ (H1 : Heap) (locs1 : List Loc), He D b 43 (Ex cs b (sI σ 9 i 1 v)) H1 → va_S (fun q => b ≤ q) H0 H1 locs1 → W p l e R s m args below meth c H1 locs1 cells slots Q (F0 m (pc + 3) ls rest)) : W p l e R s m args below meth c H locs cells slots Q (F0 m pc ls (.int v :: .ref (b + xo 9 i) :: rest)) := x_putI hx hb hts inX4 tyX4 tyX4_ok nmX4 hown hK hH hS0 9 i 1 hi rfl rfl rfl (by decide) wF_X4_17 rfl rfl rfl rfl (Nat.le_of_ble_eq_true rfl) hdg kk
theorem fgX4_21 (hx : p.tables.exec = Jvm.exec) (hb : c.code = cc) (hts : ∀ w ∈ T0, w.before args s = true) (hown : s.vm.findClass RX4 = some m.cls) (hK : va_K D vwCl (tyx cs) s) (hH : He D b 43 (Ex cs b σ) H) (i : Nat) (hi : i < xn 5) (hdg : decode cc pc = .ok (.getfield 21, 3)) (kk : W p l e R s m args below meth c H locs cells slots Q (F0 m (pc + 3) ls (.int (nI i) :: rest))) : W p l e R s m args below meth c H locs cells slots Q (F0 m pc ls (.ref (b + xo 5 i) :: rest)) := x_get hx hb hts inX2 hown hK hH 5 i 0 hi rfl rfl (by decide) wF_X4_21 rfl rfl hdg kk
theorem fgX5_10 (hx : p.tables.exec = Jvm.exec) (hb : c.code = cc) (hts : ∀ w ∈ T0, w.before args s = true) (hown : s.vm.findClass RX5 = some m.cls) (hK : va_K D vwCl (tyx cs) s) (hH : He D b 43 (Ex cs b σ) H) (i : Nat) (hi : i < xn 0) (hdg : decode cc pc = .ok (.getfield 10, 3)) (kk : W p l e R s m args below meth c H locs cells slots Q (F0 m (pc + 3) ls (.ref (b + xo 1 0) :: rest))) : W p l e R s m args below meth c H locs cells slots Q (F0 m pc ls (.ref (b + xo 0 i) :: rest)) := x_get hx hb hts inX5 hown hK hH 0 i 0 hi rfl rfl (by decide) wF_X5_10 rfl rfl hdg kk
theorem fgX5_18 (hx : p.tables.exec = Jvm.exec) (hb : c.code = cc) (hts : ∀ w ∈ T0, w.before args s = true) (hown : s.vm.findClass RX5 = some m.cls) (hK : va_K D vwCl (tyx cs) s) (hH : He D b 43 (Ex cs b σ) H) (i : Nat) (hi : i < xn 0) (hdg : decode cc pc = .ok (.getfield 18, 3)) (kk : W p l e R s m args below meth c H locs cells slots Q (F0 m (pc + 3) ls (.ref (b + xo 4 0) :: rest))) : W p l e R s m args below meth c H locs cells slots Q (F0 m pc ls (.ref (b + xo 0 i) :: rest)) := x_get hx hb hts inX5 hown hK hH 0 i 1 hi rfl rfl (by decide) wF_X5_18 rfl rfl hdg kk
theorem fgX5_27 (hx : p.tables.exec = Jvm.exec) (hb : c.code = cc) (hts : ∀ w ∈ T0, w.before args s = true) (hown : s.vm.findClass RX5 = some m.cls) (hK : va_K D vwCl (tyx cs) s) (hH : He D b 43 (Ex cs b σ) H) (i : Nat) (hi : i < xn 0) (hdg : decode cc pc = .ok (.getfield 27, 3)) (kk : W p l e R s m args below meth c H locs cells slots Q (F0 m (pc + 3) ls (.ref (b + xo 7 0) :: rest))) : W p l e R s m args below meth c H locs cells slots Q (F0 m pc ls (.ref (b + xo 0 i) :: rest)) := x_get hx hb hts inX5 hown hK hH 0 i 2 hi rfl rfl (by decide) wF_X5_27 rfl rfl hdg kk
theorem fgX5_35 (hx : p.tables.exec = Jvm.exec) (hb : c.code = cc) (hts : ∀ w ∈ T0, w.before args s = true) (hown : s.vm.findClass RX5 = some m.cls) (hK : va_K D vwCl (tyx cs) s) (hH : He D b 43 (Ex cs b σ) H) (i : Nat) (hi : i < xn 0) (hdg : decode cc pc = .ok (.getfield 35, 3)) (kk : W p l e R s m args below meth c H locs cells slots Q (F0 m (pc + 3) ls (.ref (b + xo 9 0) :: rest))) : W p l e R s m args below meth c H locs cells slots Q (F0 m pc ls (.ref (b + xo 0 i) :: rest)) := x_get hx hb hts inX5 hown hK hH 0 i 3 hi rfl rfl (by decide) wF_X5_35 rfl rfl hdg kk
theorem fgX5_39 (hx : p.tables.exec = Jvm.exec) (hb : c.code = cc) (hts : ∀ w ∈ T0, w.before args s = true) (hown : s.vm.findClass RX5 = some m.cls) (hK : va_K D vwCl (tyx cs) s) (hH : He D b 43 (Ex cs b σ) H) (i : Nat) (hi : i < xn 0) (hdg : decode cc pc = .ok (.getfield 39, 3)) (kk : W p l e R s m args below meth c H locs cells slots Q (F0 m (pc + 3) ls (.ref (b + xo 9 1) :: rest))) : W p l e R s m args below meth c H locs cells slots Q (F0 m pc ls (.ref (b + xo 0 i) :: rest)) := x_get hx hb hts inX5 hown hK hH 0 i 4 hi rfl rfl (by decide) wF_X5_39 rfl rfl hdg kk
theorem fgX5_45 (hx : p.tables.exec = Jvm.exec) (hb : c.code = cc) (hts : ∀ w ∈ T0, w.before args s = true) (hown : s.vm.findClass RX5 = some m.cls) (hK : va_K D vwCl (tyx cs) s) (hH : He D b 43 (Ex cs b σ) H) (i : Nat) (hi : i < xn 0) (hdg : decode cc pc = .ok (.getfield 45, 3)) (kk : W p l e R s m args below meth c H locs cells slots Q (F0 m (pc + 3) ls (.ref (b + xo 11 0) :: rest))) : W p l e R s m args below meth c H locs cells slots Q (F0 m pc ls (.ref (b + xo 0 i) :: rest)) := x_get hx hb hts inX5 hown hK hH 0 i 5 hi rfl rfl (by decide) wF_X5_45 rfl rfl hdg kk
theorem fgX5_49 (hx : p.tables.exec = Jvm.exec) (hb : c.code = cc) (hts : ∀ w ∈ T0, w.before args s = true) (hown : s.vm.findClass RX5 = some m.cls) (hK : va_K D vwCl (tyx cs) s) (hH : He D b 43 (Ex cs b σ) H) (i : Nat) (hi : i < xn 0) (o : Option Nat) (ho : gR σ 0 i 6 = o) (hdg : decode cc pc = .ok (.getfield 49, 3)) (kk : W p l e R s m args below meth c H locs cells slots Q (F0 m (pc + 3) ls (va_rf (o.map (fun p => b + xo 5 p)) :: rest))) : W p l e R s m args below meth c H locs cells slots Q (F0 m pc ls (.ref (b + xo 0 i) :: rest)) := by
  subst ho
  exact x_get hx hb hts inX5 hown hK hH 0 i 6 hi rfl rfl (by decide) wF_X5_49 rfl rfl hdg kk
theorem fpX5_49 (hx : p.tables.exec = Jvm.exec) (hb : c.code = cc) (hts : ∀ w ∈ T0, w.before args s = true) (hown : s.vm.findClass RX5 = some m.cls) (hK : va_K D vwCl (tyx cs) s) (hH : He D b 43 (Ex cs b σ) H) (hS0 : va_S (fun q => b ≤ q) H0 H locs) (i : Nat) (hi : i < xn 0) (r : Option Nat) {v : Value} (hrv : va_rf (r.map (fun p => b + xo 5 p)) = v) (hdg : decode cc pc = .ok (.putfield 49, 3)) (kk : ∀ (H1 : Heap) (locs1 : List Loc), He D b 43 (Ex cs b (sR σ 0 i 6 r)) H1 → va_S (fun q => b ≤ q) H0 H1 locs1 → W p l e R s m args below meth c H1 locs1 cells slots Q (F0 m (pc + 3) ls rest)) : W p l e R s m args below meth c H locs cells slots Q (F0 m pc ls (v :: .ref (b + xo 0 i) :: rest)) := x_putR hx hb hts inX5 tyX5 tyX5_ok nmX5 hown hK hH hS0 0 i 6 hi rfl r hrv rfl rfl (by decide) wF_X5_49 rfl rfl rfl (Nat.le_of_ble_eq_true rfl) hdg kk
theorem fgX5_53 (hx : p.tables.exec = Jvm.exec) (hb : c.code = cc) (hts : ∀ w ∈ T0, w.before args s = true) (hown : s.vm.findClass RX5 = some m.cls) (hK : va_K D vwCl (tyx cs) s) (hH : He D b 43 (Ex cs b σ) H) (i : Nat) (hi : i < xn 0) (hdg : decode cc pc = .ok (.getfield 53, 3)) (kk : W p l e R s m args below meth c H locs cells slots Q (F0 m (pc + 3) ls (.int (gI σ 0 i 7) :: rest))) : W p l e R s m args below meth c H locs cells slots Q (F0 m pc ls (.ref (b + xo 0 i) :: rest)) := x_get hx hb hts inX5 hown hK hH 0 i 7 hi rfl rfl (by decide) wF_X5_53 rfl rfl hdg kk
theorem fpX5_53 (hx : p.tables.exec = Jvm.exec) (hb : c.code = cc) (hts : ∀ w ∈ T0, w.before args s = true) (hown : s.vm.findClass RX5 = some m.cls) (hK : va_K D vwCl (tyx cs) s) (hH : He D b 43 (Ex cs b σ) H) (hS0 : va_S (fun q => b ≤ q) H0 H locs) (i : Nat) (hi : i < xn 0) {v : Int32} (hdg : decode cc pc = .ok (.putfield 53, 3)) (kk : ∀ (H1 : Heap) (locs1 : List Loc), He D b 43 (Ex cs b (sI σ 0 i 7 v)) H1 → va_S (fun q => b ≤ q) H0 H1 locs1 → W p l e R s m args below meth c H1 locs1 cells slots Q (F0 m (pc + 3) ls rest)) : W p l e R s m args below meth c H locs cells slots Q (F0 m pc ls (.int v :: .ref (b + xo 0 i) :: rest)) := x_putI hx hb hts inX5 tyX5 tyX5_ok nmX5 hown hK hH hS0 0 i 7 hi rfl rfl rfl (by decide) wF_X5_53 rfl rfl rfl rfl (Nat.le_of_ble_eq_true rfl) hdg kk
theorem fgX5_61 (hx : p.tables.exec = Jvm.exec) (hb : c.code = cc) (hts : ∀ w ∈ T0, w.before args s = true) (hown : s.vm.findClass RX5 = some m.cls) (hK : va_K D vwCl (tyx cs) s) (hH : He D b 43 (Ex cs b σ) H) (i : Nat) (hi : i < xn 1) (hdg : decode cc pc = .ok (.getfield 61, 3)) (kk : W p l e R s m args below meth c H locs cells slots Q (F0 m (pc + 3) ls (.int (gI σ 1 i 2) :: rest))) : W p l e R s m args below meth c H locs cells slots Q (F0 m pc ls (.ref (b + xo 1 i) :: rest)) := x_get hx hb hts inX3 hown hK hH 1 i 2 hi rfl rfl (by decide) wF_X5_61 rfl rfl hdg kk
theorem fgX5_80 (hx : p.tables.exec = Jvm.exec) (hb : c.code = cc) (hts : ∀ w ∈ T0, w.before args s = true) (hown : s.vm.findClass RX5 = some m.cls) (hK : va_K D vwCl (tyx cs) s) (hH : He D b 43 (Ex cs b σ) H) (i : Nat) (hi : i < xn 5) (hdg : decode cc pc = .ok (.getfield 80, 3)) (kk : W p l e R s m args below meth c H locs cells slots Q (F0 m (pc + 3) ls (.int (gI σ 5 i 2) :: rest))) : W p l e R s m args below meth c H locs cells slots Q (F0 m pc ls (.ref (b + xo 5 i) :: rest)) := x_get hx hb hts inX2 hown hK hH 5 i 2 hi rfl rfl (by decide) wF_X5_80 rfl rfl hdg kk
theorem fpX5_80 (hx : p.tables.exec = Jvm.exec) (hb : c.code = cc) (hts : ∀ w ∈ T0, w.before args s = true) (hown : s.vm.findClass RX5 = some m.cls) (hK : va_K D vwCl (tyx cs) s) (hH : He D b 43 (Ex cs b σ) H) (hS0 : va_S (fun q => b ≤ q) H0 H locs) (i : Nat) (hi : i < xn 5) {v : Int32} (hdg : decode cc pc = .ok (.putfield 80, 3)) (kk : ∀ (H1 : Heap) (locs1 : List Loc), He D b 43 (Ex cs b (sI σ 5 i 2 v)) H1 → va_S (fun q => b ≤ q) H0 H1 locs1 → W p l e R s m args below meth c H1 locs1 cells slots Q (F0 m (pc + 3) ls rest)) : W p l e R s m args below meth c H locs cells slots Q (F0 m pc ls (.int v :: .ref (b + xo 5 i) :: rest)) := x_putI hx hb hts inX2 tyX2 tyX2_ok nmX2 hown hK hH hS0 5 i 2 hi rfl rfl rfl (by decide) wF_X5_80 rfl rfl rfl rfl (Nat.le_of_ble_eq_true rfl) hdg kk
theorem fgX5_87 (hx : p.tables.exec = Jvm.exec) (hb : c.code = cc) (hts : ∀ w ∈ T0, w.before args s = true) (hown : s.vm.findClass RX5 = some m.cls) (hK : va_K D vwCl (tyx cs) s) (hH : He D b 43 (Ex cs b σ) H) (i : Nat) (hi : i < xn 5) (hdg : decode cc pc = .ok (.getfield 87, 3)) (kk : W p l e R s m args below meth c H locs cells slots Q (F0 m (pc + 3) ls (.int (nI i) :: rest))) : W p l e R s m args below meth c H locs cells slots Q (F0 m pc ls (.ref (b + xo 5 i) :: rest)) := x_get hx hb hts inX2 hown hK hH 5 i 0 hi rfl rfl (by decide) wF_X5_87 rfl rfl hdg kk
theorem fgX5_115 (hx : p.tables.exec = Jvm.exec) (hb : c.code = cc) (hts : ∀ w ∈ T0, w.before args s = true) (hown : s.vm.findClass RX5 = some m.cls) (hK : va_K D vwCl (tyx cs) s) (hH : He D b 43 (Ex cs b σ) H) (i : Nat) (hi : i < xn 11) (hdg : decode cc pc = .ok (.getfield 115, 3)) (kk : W p l e R s m args below meth c H locs cells slots Q (F0 m (pc + 3) ls (.int (gI σ 11 i 1) :: rest))) : W p l e R s m args below meth c H locs cells slots Q (F0 m pc ls (.ref (b + xo 11 i) :: rest)) := x_get hx hb hts inX1 hown hK hH 11 i 1 hi rfl rfl (by decide) wF_X5_115 rfl rfl hdg kk
theorem fgX5_133 (hx : p.tables.exec = Jvm.exec) (hb : c.code = cc) (hts : ∀ w ∈ T0, w.before args s = true) (hown : s.vm.findClass RX5 = some m.cls) (hK : va_K D vwCl (tyx cs) s) (hH : He D b 43 (Ex cs b σ) H) (i : Nat) (hi : i < xn 5) (hdg : decode cc pc = .ok (.getfield 133, 3)) (kk : W p l e R s m args below meth c H locs cells slots Q (F0 m (pc + 3) ls (.int (gI σ 5 i 3) :: rest))) : W p l e R s m args below meth c H locs cells slots Q (F0 m pc ls (.ref (b + xo 5 i) :: rest)) := x_get hx hb hts inX2 hown hK hH 5 i 3 hi rfl rfl (by decide) wF_X5_133 rfl rfl hdg kk
theorem fgX5_151 (hx : p.tables.exec = Jvm.exec) (hb : c.code = cc) (hts : ∀ w ∈ T0, w.before args s = true) (hown : s.vm.findClass RX5 = some m.cls) (hK : va_K D vwCl (tyx cs) s) (hH : He D b 43 (Ex cs b σ) H) (i : Nat) (hi : i < xn 5) (hdg : decode cc pc = .ok (.getfield 151, 3)) (kk : W p l e R s m args below meth c H locs cells slots Q (F0 m (pc + 3) ls (.int (gI σ 5 i 8) :: rest))) : W p l e R s m args below meth c H locs cells slots Q (F0 m pc ls (.ref (b + xo 5 i) :: rest)) := x_get hx hb hts inX2 hown hK hH 5 i 8 hi rfl rfl (by decide) wF_X5_151 rfl rfl hdg kk
theorem fpX5_151 (hx : p.tables.exec = Jvm.exec) (hb : c.code = cc) (hts : ∀ w ∈ T0, w.before args s = true) (hown : s.vm.findClass RX5 = some m.cls) (hK : va_K D vwCl (tyx cs) s) (hH : He D b 43 (Ex cs b σ) H) (hS0 : va_S (fun q => b ≤ q) H0 H locs) (i : Nat) (hi : i < xn 5) {v : Int32} (hdg : decode cc pc = .ok (.putfield 151, 3)) (kk : ∀ (H1 : Heap) (locs1 : List Loc), He D b 43 (Ex cs b (sI σ 5 i 8 v)) H1 → va_S (fun q => b ≤ q) H0 H1 locs1 → W p l e R s m args below meth c H1 locs1 cells slots Q (F0 m (pc + 3) ls rest)) : W p l e R s m args below meth c H locs cells slots Q (F0 m pc ls (.int v :: .ref (b + xo 5 i) :: rest)) := x_putI hx hb hts inX2 tyX2 tyX2_ok nmX2 hown hK hH hS0 5 i 8 hi rfl rfl rfl (by decide) wF_X5_151 rfl rfl rfl rfl (Nat.le_of_ble_eq_true rfl) hdg kk
theorem fgX5_157 (hx : p.tables.exec = Jvm.exec) (hb : c.code = cc) (hts : ∀ w ∈ T0, w.before args s = true) (hown : s.vm.findClass RX5 = some m.cls) (hK : va_K D vwCl (tyx cs) s) (hH : He D b 43 (Ex cs b σ) H) (i : Nat) (hi : i < xn 9) (hdg : decode cc pc = .ok (.getfield 157, 3)) (kk : W p l e R s m args below meth c H locs cells slots Q (F0 m (pc + 3) ls (.int (gI σ 9 i 1) :: rest))) : W p l e R s m args below meth c H locs cells slots Q (F0 m pc ls (.ref (b + xo 9 i) :: rest)) := x_get hx hb hts inX4 hown hK hH 9 i 1 hi rfl rfl (by decide) wF_X5_157 rfl rfl hdg kk
theorem fgX5_164 (hx : p.tables.exec = Jvm.exec) (hb : c.code = cc) (hts : ∀ w ∈ T0, w.before args s = true) (hown : s.vm.findClass RX5 = some m.cls) (hK : va_K D vwCl (tyx cs) s) (hH : He D b 43 (Ex cs b σ) H) (i : Nat) (hi : i < xn 5) (hdg : decode cc pc = .ok (.getfield 164, 3)) (kk : W p l e R s m args below meth c H locs cells slots Q (F0 m (pc + 3) ls (.int (gI σ 5 i 9) :: rest))) : W p l e R s m args below meth c H locs cells slots Q (F0 m pc ls (.ref (b + xo 5 i) :: rest)) := x_get hx hb hts inX2 hown hK hH 5 i 9 hi rfl rfl (by decide) wF_X5_164 rfl rfl hdg kk
theorem fpX5_164 (hx : p.tables.exec = Jvm.exec) (hb : c.code = cc) (hts : ∀ w ∈ T0, w.before args s = true) (hown : s.vm.findClass RX5 = some m.cls) (hK : va_K D vwCl (tyx cs) s) (hH : He D b 43 (Ex cs b σ) H) (hS0 : va_S (fun q => b ≤ q) H0 H locs) (i : Nat) (hi : i < xn 5) {v : Int32} (hdg : decode cc pc = .ok (.putfield 164, 3)) (kk : ∀ (H1 : Heap) (locs1 : List Loc), He D b 43 (Ex cs b (sI σ 5 i 9 v)) H1 → va_S (fun q => b ≤ q) H0 H1 locs1 → W p l e R s m args below meth c H1 locs1 cells slots Q (F0 m (pc + 3) ls rest)) : W p l e R s m args below meth c H locs cells slots Q (F0 m pc ls (.int v :: .ref (b + xo 5 i) :: rest)) := x_putI hx hb hts inX2 tyX2 tyX2_ok nmX2 hown hK hH hS0 5 i 9 hi rfl rfl rfl (by decide) wF_X5_164 rfl rfl rfl rfl (Nat.le_of_ble_eq_true rfl) hdg kk
theorem fgX5_167 (hx : p.tables.exec = Jvm.exec) (hb : c.code = cc) (hts : ∀ w ∈ T0, w.before args s = true) (hown : s.vm.findClass RX5 = some m.cls) (hK : va_K D vwCl (tyx cs) s) (hH : He D b 43 (Ex cs b σ) H) (i : Nat) (hi : i < xn 5) (hdg : decode cc pc = .ok (.getfield 167, 3)) (kk : W p l e R s m args below meth c H locs cells slots Q (F0 m (pc + 3) ls (.int (gI σ 5 i 4) :: rest))) : W p l e R s m args below meth c H locs cells slots Q (F0 m pc ls (.ref (b + xo 5 i) :: rest)) := x_get hx hb hts inX2 hown hK hH 5 i 4 hi rfl rfl (by decide) wF_X5_167 rfl rfl hdg kk
theorem fpX5_167 (hx : p.tables.exec = Jvm.exec) (hb : c.code = cc) (hts : ∀ w ∈ T0, w.before args s = true) (hown : s.vm.findClass RX5 = some m.cls) (hK : va_K D vwCl (tyx cs) s) (hH : He D b 43 (Ex cs b σ) H) (hS0 : va_S (fun q => b ≤ q) H0 H locs) (i : Nat) (hi : i < xn 5) {v : Int32} (hdg : decode cc pc = .ok (.putfield 167, 3)) (kk : ∀ (H1 : Heap) (locs1 : List Loc), He D b 43 (Ex cs b (sI σ 5 i 4 v)) H1 → va_S (fun q => b ≤ q) H0 H1 locs1 → W p l e R s m args below meth c H1 locs1 cells slots Q (F0 m (pc + 3) ls rest)) : W p l e R s m args below meth c H locs cells slots Q (F0 m pc ls (.int v :: .ref (b + xo 5 i) :: rest)) := x_putI hx hb hts inX2 tyX2 tyX2_ok nmX2 hown hK hH hS0 5 i 4 hi rfl rfl rfl (by decide) wF_X5_167 rfl rfl rfl rfl (Nat.le_of_ble_eq_true rfl) hdg kk
theorem fgX5_193 (hx : p.tables.exec = Jvm.exec) (hb : c.code = cc) (hts : ∀ w ∈ T0, w.before args s = true) (hown : s.vm.findClass RX5 = some m.cls) (hK : va_K D vwCl (tyx cs) s) (hH : He D b 43 (Ex cs b σ) H) (i : Nat) (hi : i < xn 5) (hdg : decode cc pc = .ok (.getfield 193, 3)) (kk : W p l e R s m args below meth c H locs cells slots Q (F0 m (pc + 3) ls (.int (gI σ 5 i 5) :: rest))) : W p l e R s m args below meth c H locs cells slots Q (F0 m pc ls (.ref (b + xo 5 i) :: rest)) := x_get hx hb hts inX2 hown hK hH 5 i 5 hi rfl rfl (by decide) wF_X5_193 rfl rfl hdg kk
theorem fgX5_213 (hx : p.tables.exec = Jvm.exec) (hb : c.code = cc) (hts : ∀ w ∈ T0, w.before args s = true) (hown : s.vm.findClass RX5 = some m.cls) (hK : va_K D vwCl (tyx cs) s) (hH : He D b 43 (Ex cs b σ) H) (i : Nat) (hi : i < xn 5) (hdg : decode cc pc = .ok (.getfield 213, 3)) (kk : W p l e R s m args below meth c H locs cells slots Q (F0 m (pc + 3) ls (.int (gI σ 5 i 6) :: rest))) : W p l e R s m args below meth c H locs cells slots Q (F0 m pc ls (.ref (b + xo 5 i) :: rest)) := x_get hx hb hts inX2 hown hK hH 5 i 6 hi rfl rfl (by decide) wF_X5_213 rfl rfl hdg kk
theorem fgX5_222 (hx : p.tables.exec = Jvm.exec) (hb : c.code = cc) (hts : ∀ w ∈ T0, w.before args s = true) (hown : s.vm.findClass RX5 = some m.cls) (hK : va_K D vwCl (tyx cs) s) (hH : He D b 43 (Ex cs b σ) H) (i : Nat) (hi : i < xn 8) (o : Option Nat) (ho : gR σ 8 i 1 = o) (hdg : decode cc pc = .ok (.getfield 222, 3)) (kk : W p l e R s m args below meth c H locs cells slots Q (F0 m (pc + 3) ls (va_rf (o.map (fun p => b + xo 5 p)) :: rest))) : W p l e R s m args below meth c H locs cells slots Q (F0 m pc ls (.ref (b + xo 8 i) :: rest)) := by
  subst ho
  exact x_get hx hb hts inX0 hown hK hH 8 i 1 hi rfl rfl (by decide) wF_X5_222 rfl rfl hdg kk
theorem fgX5_229 (hx : p.tables.exec = Jvm.exec) (hb : c.code = cc) (hts : ∀ w ∈ T0, w.before args s = true) (hown : s.vm.findClass RX5 = some m.cls) (hK : va_K D vwCl (tyx cs) s) (hH : He D b 43 (Ex cs b σ) H) (i : Nat) (hi : i < xn 8) (hdg : decode cc pc = .ok (.getfield 229, 3)) (kk : W p l e R s m args below meth c H locs cells slots Q (F0 m (pc + 3) ls (.int (nI i) :: rest))) : W p l e R s m args below meth c H locs cells slots Q (F0 m pc ls (.ref (b + xo 8 i) :: rest)) := x_get hx hb hts inX0 hown hK hH 8 i 0 hi rfl rfl (by decide) wF_X5_229 rfl rfl hdg kk
theorem fgX5_237 (hx : p.tables.exec = Jvm.exec) (hb : c.code = cc) (hts : ∀ w ∈ T0, w.before args s = true) (hown : s.vm.findClass RX5 = some m.cls) (hK : va_K D vwCl (tyx cs) s) (hH : He D b 43 (Ex cs b σ) H) (i : Nat) (hi : i < xn 8) (hdg : decode cc pc = .ok (.getfield 237, 3)) (kk : W p l e R s m args below meth c H locs cells slots Q (F0 m (pc + 3) ls (.int (gI σ 8 i 3) :: rest))) : W p l e R s m args below meth c H locs cells slots Q (F0 m pc ls (.ref (b + xo 8 i) :: rest)) := x_get hx hb hts inX0 hown hK hH 8 i 3 hi rfl rfl (by decide) wF_X5_237 rfl rfl hdg kk
theorem fgX6_7 (hx : p.tables.exec = Jvm.exec) (hb : c.code = cc) (hts : ∀ w ∈ T0, w.before args s = true) (hown : s.vm.findClass RX6 = some m.cls) (hK : va_K D vwCl (tyx cs) s) (hH : He D b 43 (Ex cs b σ) H) (i : Nat) (hi : i < xn 13) (hdg : decode cc pc = .ok (.getfield 7, 3)) (kk : W p l e R s m args below meth c H locs cells slots Q (F0 m (pc + 3) ls (.ref (b + xo 14 0) :: rest))) : W p l e R s m args below meth c H locs cells slots Q (F0 m pc ls (.ref (b + xo 13 i) :: rest)) := x_get hx hb hts inX6 hown hK hH 13 i 0 hi rfl rfl (by decide) wF_X6_7 rfl rfl hdg kk
theorem fgX6_13 (hx : p.tables.exec = Jvm.exec) (hb : c.code = cc) (hts : ∀ w ∈ T0, w.before args s = true) (hown : s.vm.findClass RX6 = some m.cls) (hK : va_K D vwCl (tyx cs) s) (hH : He D b 43 (Ex cs b σ) H) (i : Nat) (hi : i < xn 13) (hdg : decode cc pc = .ok (.getfield 13, 3)) (kk : W p l e R s m args below meth c H locs cells slots Q (F0 m (pc + 3) ls (.ref (b + xo 15 0) :: rest))) : W p l e R s m args below meth c H locs cells slots Q (F0 m pc ls (.ref (b + xo 13 i) :: rest)) := x_get hx hb hts inX6 hown hK hH 13 i 2 hi rfl rfl (by decide) wF_X6_13 rfl rfl hdg kk
theorem fgX6_16 (hx : p.tables.exec = Jvm.exec) (hb : c.code = cc) (hts : ∀ w ∈ T0, w.before args s = true) (hown : s.vm.findClass RX6 = some m.cls) (hK : va_K D vwCl (tyx cs) s) (hH : He D b 43 (Ex cs b σ) H) (i : Nat) (hi : i < xn 13) (hdg : decode cc pc = .ok (.getfield 16, 3)) (kk : W p l e R s m args below meth c H locs cells slots Q (F0 m (pc + 3) ls (.ref (b + xo 16 0) :: rest))) : W p l e R s m args below meth c H locs cells slots Q (F0 m pc ls (.ref (b + xo 13 i) :: rest)) := x_get hx hb hts inX6 hown hK hH 13 i 3 hi rfl rfl (by decide) wF_X6_16 rfl rfl hdg kk
theorem fgX6_19 (hx : p.tables.exec = Jvm.exec) (hb : c.code = cc) (hts : ∀ w ∈ T0, w.before args s = true) (hown : s.vm.findClass RX6 = some m.cls) (hK : va_K D vwCl (tyx cs) s) (hH : He D b 43 (Ex cs b σ) H) (i : Nat) (hi : i < xn 13) (hdg : decode cc pc = .ok (.getfield 19, 3)) (kk : W p l e R s m args below meth c H locs cells slots Q (F0 m (pc + 3) ls (.ref (b + xo 17 0) :: rest))) : W p l e R s m args below meth c H locs cells slots Q (F0 m pc ls (.ref (b + xo 13 i) :: rest)) := x_get hx hb hts inX6 hown hK hH 13 i 4 hi rfl rfl (by decide) wF_X6_19 rfl rfl hdg kk
theorem fgX6_22 (hx : p.tables.exec = Jvm.exec) (hb : c.code = cc) (hts : ∀ w ∈ T0, w.before args s = true) (hown : s.vm.findClass RX6 = some m.cls) (hK : va_K D vwCl (tyx cs) s) (hH : He D b 43 (Ex cs b σ) H) (i : Nat) (hi : i < xn 13) (hdg : decode cc pc = .ok (.getfield 22, 3)) (kk : W p l e R s m args below meth c H locs cells slots Q (F0 m (pc + 3) ls (.ref (b + xo 18 0) :: rest))) : W p l e R s m args below meth c H locs cells slots Q (F0 m pc ls (.ref (b + xo 13 i) :: rest)) := x_get hx hb hts inX6 hown hK hH 13 i 5 hi rfl rfl (by decide) wF_X6_22 rfl rfl hdg kk
theorem fgX6_25 (hx : p.tables.exec = Jvm.exec) (hb : c.code = cc) (hts : ∀ w ∈ T0, w.before args s = true) (hown : s.vm.findClass RX6 = some m.cls) (hK : va_K D vwCl (tyx cs) s) (hH : He D b 43 (Ex cs b σ) H) (i : Nat) (hi : i < xn 13) (hdg : decode cc pc = .ok (.getfield 25, 3)) (kk : W p l e R s m args below meth c H locs cells slots Q (F0 m (pc + 3) ls (.ref (b + xo 19 0) :: rest))) : W p l e R s m args below meth c H locs cells slots Q (F0 m pc ls (.ref (b + xo 13 i) :: rest)) := x_get hx hb hts inX6 hown hK hH 13 i 6 hi rfl rfl (by decide) wF_X6_25 rfl rfl hdg kk
theorem fgX6_28 (hx : p.tables.exec = Jvm.exec) (hb : c.code = cc) (hts : ∀ w ∈ T0, w.before args s = true) (hown : s.vm.findClass RX6 = some m.cls) (hK : va_K D vwCl (tyx cs) s) (hH : He D b 43 (Ex cs b σ) H) (i : Nat) (hi : i < xn 13) (hdg : decode cc pc = .ok (.getfield 28, 3)) (kk : W p l e R s m args below meth c H locs cells slots Q (F0 m (pc + 3) ls (.ref (b + xo 20 0) :: rest))) : W p l e R s m args below meth c H locs cells slots Q (F0 m pc ls (.ref (b + xo 13 i) :: rest)) := x_get hx hb hts inX6 hown hK hH 13 i 7 hi rfl rfl (by decide) wF_X6_28 rfl rfl hdg kk
theorem fgX6_31 (hx : p.tables.exec = Jvm.exec) (hb : c.code = cc) (hts : ∀ w ∈ T0, w.before args s = true) (hown : s.vm.findClass RX6 = some m.cls) (hK : va_K D vwCl (tyx cs) s) (hH : He D b 43 (Ex cs b σ) H) (i : Nat) (hi : i < xn 13) (hdg : decode cc pc = .ok (.getfield 31, 3)) (kk : W p l e R s m args below meth c H locs cells slots Q (F0 m (pc + 3) ls (.ref (b + xo 21 0) :: rest))) : W p l e R s m args below meth c H locs cells slots Q (F0 m pc ls (.ref (b + xo 13 i) :: rest)) := x_get hx hb hts inX6 hown hK hH 13 i 8 hi rfl rfl (by decide) wF_X6_31 rfl rfl hdg kk
theorem fgX6_34 (hx : p.tables.exec = Jvm.exec) (hb : c.code = cc) (hts : ∀ w ∈ T0, w.before args s = true) (hown : s.vm.findClass RX6 = some m.cls) (hK : va_K D vwCl (tyx cs) s) (hH : He D b 43 (Ex cs b σ) H) (i : Nat) (hi : i < xn 13) (hdg : decode cc pc = .ok (.getfield 34, 3)) (kk : W p l e R s m args below meth c H locs cells slots Q (F0 m (pc + 3) ls (.ref (b + xo 22 0) :: rest))) : W p l e R s m args below meth c H locs cells slots Q (F0 m pc ls (.ref (b + xo 13 i) :: rest)) := x_get hx hb hts inX6 hown hK hH 13 i 13 hi rfl rfl (by decide) wF_X6_34 rfl rfl hdg kk
theorem fgX6_37 (hx : p.tables.exec = Jvm.exec) (hb : c.code = cc) (hts : ∀ w ∈ T0, w.before args s = true) (hown : s.vm.findClass RX6 = some m.cls) (hK : va_K D vwCl (tyx cs) s) (hH : He D b 43 (Ex cs b σ) H) (i : Nat) (hi : i < xn 13) (hdg : decode cc pc = .ok (.getfield 37, 3)) (kk : W p l e R s m args below meth c H locs cells slots Q (F0 m (pc + 3) ls (.ref (b + xo 23 0) :: rest))) : W p l e R s m args below meth c H locs cells slots Q (F0 m pc ls (.ref (b + xo 13 i) :: rest)) := x_get hx hb hts inX6 hown hK hH 13 i 15 hi rfl rfl (by decide) wF_X6_37 rfl rfl hdg kk
theorem fgX6_44 (hx : p.tables.exec = Jvm.exec) (hb : c.code = cc) (hts : ∀ w ∈ T0, w.before args s = true) (hown : s.vm.findClass RX6 = some m.cls) (hK : va_K D vwCl (tyx cs) s) (hH : He D b 43 (Ex cs b σ) H) (i : Nat) (hi : i < xn 13) (hdg : decode cc pc = .ok (.getfield 44, 3)) (kk : W p l e R s m args below meth c H locs cells slots Q (F0 m (pc + 3) ls (.int (gI σ 13 i 1) :: rest))) : W p l e R s m args below meth c H locs cells slots Q (F0 m pc ls (.ref (b + xo 13 i) :: rest)) := x_get hx hb hts inX6 hown hK hH 13 i 1 hi rfl rfl (by decide) wF_X6_44 rfl rfl hdg kk
theorem fpX6_44 (hx : p.tables.exec = Jvm.exec) (hb : c.code = cc) (hts : ∀ w ∈ T0, w.before args s = true) (hown : s.vm.findClass RX6 = some m.cls) (hK : va_K D vwCl (tyx cs) s) (hH : He D b 43 (Ex cs b σ) H) (hS0 : va_S (fun q => b ≤ q) H0 H locs) (i : Nat) (hi : i < xn 13) {v : Int32} (hdg : decode cc pc = .ok (.putfield 44, 3)) (kk : ∀ (H1 : Heap) (locs1 : List Loc), He D b 43 (Ex cs b (sI σ 13 i 1 v)) H1 → va_S (fun q => b ≤ q) H0 H1 locs1 → W p l e R s m args below meth c H1 locs1 cells slots Q (F0 m (pc + 3) ls rest)) : W p l e R s m args below meth c H locs cells slots Q (F0 m pc ls (.int v :: .ref (b + xo 13 i) :: rest)) := x_putI hx hb hts inX6 tyX6 tyX6_ok nmX6 hown hK hH hS0 13 i 1 hi rfl rfl rfl (by decide) wF_X6_44 rfl rfl rfl rfl (Nat.le_of_ble_eq_true rfl) hdg kk
theorem fgX6_48 (hx : p.tables.exec = Jvm.exec) (hb : c.code = cc) (hts : ∀ w ∈ T0, w.before args s = true) (hown : s.vm.findClass RX6 = some m.cls) (hK : va_K D vwCl (tyx cs) s) (hH : He D b 43 (Ex cs b σ) H) (i : Nat) (hi : i < xn 13) (hdg : decode cc pc = .ok (.getfield 48, 3)) (kk : W p l e R s m args below meth c H locs cells slots Q (F0 m (pc + 3) ls (.int (gI σ 13 i 10) :: rest))) : W p l e R s m args below meth c H locs cells slots Q (F0 m pc ls (.ref (b + xo 13 i) :: rest)) := x_get hx hb hts inX6 hown hK hH 13 i 10 hi rfl rfl (by decide) wF_X6_48 rfl rfl hdg kk
theorem fpX6_48 (hx : p.tables.exec = Jvm.exec) (hb : c.code = cc) (hts : ∀ w ∈ T0, w.before args s = true) (hown : s.vm.findClass RX6 = some m.cls) (hK : va_K D vwCl (tyx cs) s) (hH : He D b 43 (Ex cs b σ) H) (hS0 : va_S (fun q => b ≤ q) H0 H locs) (i : Nat) (hi : i < xn 13) {v : Int32} (hdg : decode cc pc = .ok (.putfield 48, 3)) (kk : ∀ (H1 : Heap) (locs1 : List Loc), He D b 43 (Ex cs b (sI σ 13 i 10 v)) H1 → va_S (fun q => b ≤ q) H0 H1 locs1 → W p l e R s m args below meth c H1 locs1 cells slots Q (F0 m (pc + 3) ls rest)) : W p l e R s m args below meth c H locs cells slots Q (F0 m pc ls (.int v :: .ref (b + xo 13 i) :: rest)) := x_putI hx hb hts inX6 tyX6 tyX6_ok nmX6 hown hK hH hS0 13 i 10 hi rfl rfl rfl (by decide) wF_X6_48 rfl rfl rfl rfl (Nat.le_of_ble_eq_true rfl) hdg kk
theorem fgX6_59 (hx : p.tables.exec = Jvm.exec) (hb : c.code = cc) (hts : ∀ w ∈ T0, w.before args s = true) (hown : s.vm.findClass RX6 = some m.cls) (hK : va_K D vwCl (tyx cs) s) (hH : He D b 43 (Ex cs b σ) H) (i : Nat) (hi : i < xn 13) (hdg : decode cc pc = .ok (.getfield 59, 3)) (kk : W p l e R s m args below meth c H locs cells slots Q (F0 m (pc + 3) ls (.int (gI σ 13 i 11) :: rest))) : W p l e R s m args below meth c H locs cells slots Q (F0 m pc ls (.ref (b + xo 13 i) :: rest)) := x_get hx hb hts inX6 hown hK hH 13 i 11 hi rfl rfl (by decide) wF_X6_59 rfl rfl hdg kk
theorem fpX6_59 (hx : p.tables.exec = Jvm.exec) (hb : c.code = cc) (hts : ∀ w ∈ T0, w.before args s = true) (hown : s.vm.findClass RX6 = some m.cls) (hK : va_K D vwCl (tyx cs) s) (hH : He D b 43 (Ex cs b σ) H) (hS0 : va_S (fun q => b ≤ q) H0 H locs) (i : Nat) (hi : i < xn 13) {v : Int32} (hdg : decode cc pc = .ok (.putfield 59, 3)) (kk : ∀ (H1 : Heap) (locs1 : List Loc), He D b 43 (Ex cs b (sI σ 13 i 11 v)) H1 → va_S (fun q => b ≤ q) H0 H1 locs1 → W p l e R s m args below meth c H1 locs1 cells slots Q (F0 m (pc + 3) ls rest)) : W p l e R s m args below meth c H locs cells slots Q (F0 m pc ls (.int v :: .ref (b + xo 13 i) :: rest)) := x_putI hx hb hts inX6 tyX6 tyX6_ok nmX6 hown hK hH hS0 13 i 11 hi rfl rfl rfl (by decide) wF_X6_59 rfl rfl rfl rfl (Nat.le_of_ble_eq_true rfl) hdg kk
theorem fgX6_62 (hx : p.tables.exec = Jvm.exec) (hb : c.code = cc) (hts : ∀ w ∈ T0, w.before args s = true) (hown : s.vm.findClass RX6 = some m.cls) (hK : va_K D vwCl (tyx cs) s) (hH : He D b 43 (Ex cs b σ) H) (i : Nat) (hi : i < xn 13) (hdg : decode cc pc = .ok (.getfield 62, 3)) (kk : W p l e R s m args below meth c H locs cells slots Q (F0 m (pc + 3) ls (.int (gI σ 13 i 14) :: rest))) : W p l e R s m args below meth c H locs cells slots Q (F0 m pc ls (.ref (b + xo 13 i) :: rest)) := x_get hx hb hts inX6 hown hK hH 13 i 14 hi rfl rfl (by decide) wF_X6_62 rfl rfl hdg kk
theorem fpX6_62 (hx : p.tables.exec = Jvm.exec) (hb : c.code = cc) (hts : ∀ w ∈ T0, w.before args s = true) (hown : s.vm.findClass RX6 = some m.cls) (hK : va_K D vwCl (tyx cs) s) (hH : He D b 43 (Ex cs b σ) H) (hS0 : va_S (fun q => b ≤ q) H0 H locs) (i : Nat) (hi : i < xn 13) {v : Int32} (hdg : decode cc pc = .ok (.putfield 62, 3)) (kk : ∀ (H1 : Heap) (locs1 : List Loc), He D b 43 (Ex cs b (sI σ 13 i 14 v)) H1 → va_S (fun q => b ≤ q) H0 H1 locs1 → W p l e R s m args below meth c H1 locs1 cells slots Q (F0 m (pc + 3) ls rest)) : W p l e R s m args below meth c H locs cells slots Q (F0 m pc ls (.int v :: .ref (b + xo 13 i) :: rest)) := x_putI hx hb hts inX6 tyX6 tyX6_ok nmX6 hown hK hH hS0 13 i 14 hi rfl rfl rfl (by decide) wF_X6_62 rfl rfl rfl rfl (Nat.le_of_ble_eq_true rfl) hdg kk
theorem fgX6_76 (hx : p.tables.exec = Jvm.exec) (hb : c.code = cc) (hts : ∀ w ∈ T0, w.before args s = true) (hown : s.vm.findClass RX6 = some m.cls) (hK : va_K D vwCl (tyx cs) s) (hH : He D b 43 (Ex cs b σ) H) (i : Nat) (hi : i < xn 13) (hdg : decode cc pc = .ok (.getfield 76, 3)) (kk : W p l e R s m args below meth c H locs cells slots Q (F0 m (pc + 3) ls (.int (gI σ 13 i 12) :: rest))) : W p l e R s m args below meth c H locs cells slots Q (F0 m pc ls (.ref (b + xo 13 i) :: rest)) := x_get hx hb hts inX6 hown hK hH 13 i 12 hi rfl rfl (by decide) wF_X6_76 rfl rfl hdg kk
theorem fpX6_76 (hx : p.tables.exec = Jvm.exec) (hb : c.code = cc) (hts : ∀ w ∈ T0, w.before args s = true) (hown : s.vm.findClass RX6 = some m.cls) (hK : va_K D vwCl (tyx cs) s) (hH : He D b 43 (Ex cs b σ) H) (hS0 : va_S (fun q => b ≤ q) H0 H locs) (i : Nat) (hi : i < xn 13) {v : Int32} (hdg : decode cc pc = .ok (.putfield 76, 3)) (kk : ∀ (H1 : Heap) (locs1 : List Loc), He D b 43 (Ex cs b (sI σ 13 i 12 v)) H1 → va_S (fun q => b ≤ q) H0 H1 locs1 → W p l e R s m args below meth c H1 locs1 cells slots Q (F0 m (pc + 3) ls rest)) : W p l e R s m args below meth c H locs cells slots Q (F0 m pc ls (.int v :: .ref (b + xo 13 i) :: rest)) := x_putI hx hb hts inX6 tyX6 tyX6_ok nmX6 hown hK hH hS0 13 i 12 hi rfl rfl rfl (by decide) wF_X6_76 rfl rfl rfl rfl (Nat.le_of_ble_eq_true rfl) hdg kk
theorem fgX6_96 (hx : p.tables.exec = Jvm.exec) (hb : c.code = cc) (hts : ∀ w ∈ T0, w.before args s = true) (hown : s.vm.findClass RX6 = some m.cls) (hK : va_K D vwCl (tyx cs) s) (hH : He D b 43 (Ex cs b σ) H) (i : Nat) (hi : i < xn 13) (hdg : decode cc pc = .ok (.getfield 96, 3)) (kk : W p l e R s m args below meth c H locs cells slots Q (F0 m (pc + 3) ls (.int (gI σ 13 i 9) :: rest))) : W p l e R s m args below meth c H locs cells slots Q (F0 m pc ls (.ref (b + xo 13 i) :: rest)) := x_get hx hb hts inX6 hown hK hH 13 i 9 hi rfl rfl (by decide) wF_X6_96 rfl rfl hdg kk
theorem fpX6_96 (hx : p.tables.exec = Jvm.exec) (hb : c.code = cc) (hts : ∀ w ∈ T0, w.before args s = true) (hown : s.vm.findClass RX6 = some m.cls) (hK : va_K D vwCl (tyx cs) s) (hH : He D b 43 (Ex cs b σ) H) (hS0 : va_S (fun q => b ≤ q) H0 H locs) (i : Nat) (hi : i < xn 13) {v : Int32} (hdg : decode cc pc = .ok (.putfield 96, 3)) (kk : ∀ (H1 : Heap) (locs1 : List Loc), He D b 43 (Ex cs b (sI σ 13 i 9 v)) H1 → va_S (fun q => b ≤ q) H0 H1 locs1 → W p l e R s m args below meth c H1 locs1 cells slots Q (F0 m (pc + 3) ls rest)) : W p l e R s m args below meth c H locs cells slots Q (F0 m pc ls (.int v :: .ref (b + xo 13 i) :: rest)) := x_putI hx hb hts inX6 tyX6 tyX6_ok nmX6 hown hK hH hS0 13 i 9 hi rfl rfl rfl (by decide) wF_X6_96 rfl rfl rfl rfl (Nat.le_of_ble_eq_true rfl) hdg kk
end FR
end
section
def f_X2_put (σ : St) (q : Nat) (x : Int32) : St := sI (sI (sI σ 5 q 7 (gI σ 5 q 6)) 5 q 6 (gI (sI σ 5 q 7 (gI σ 5 q 6)) 5 q 5)) 5 q 5 x
set_option maxRecDepth 100000 in
set_option maxHeartbeats 4000000 in
theorem k_X2_put (l : Launch) (D : va_G) (cs : Nat → ClassId) (b : Nat) (σ : St) (q : Nat) (x : Int32) (hq : q < 8) : Met l yX2_put (Cond.code yX2_put cX2_put 2 (none : Option FieldType) :: T0) { frames := 0, cells := 0, slots := 0, locals := 0 } (Pe D (tyx cs) b 43 (Ex cs b σ) [.ref (b + xo 5 q), .int (x)]) (Qv D (tyx cs) b 43 (Ex cs b (f_X2_put σ q x))) 0 0 (fun a => b ≤ a) := by
  refine e_met (by decide) rfl (Nat.le_of_ble_eq_true rfl) (fun pg e s m below meth c ls hx hb hr hml hts0 hown hlk hnm hH hK hl hS => ?_)
  have hts : ∀ w ∈ T0, w.before _ s = true := fun w h => hts0 w (List.mem_cons_of_mem _ h)
  have hl : lv_has ls 2 [(0, .ref (b + xo 5 q)), (1, .int (x))] := hl
  refine lv_aload_n hx hb dX2_put_0 rfl (lv_at hl 0 rfl) ?_
  refine lv_aload_n hx hb dX2_put_1 rfl (lv_at hl 0 rfl) ?_
  refine fgX2_31 hx hb hts hown hK hH q (show q < 8 by first | assumption | omega) dX2_put_2 ?_
  refine fpX2_34 hx hb hts hown hK hH hS q (show q < 8 by first | assumption | omega) dX2_put_5 (fun H locs hH hS => ?_)
  refine lv_aload_n hx hb dX2_put_8 rfl (lv_at hl 0 rfl) ?_
  refine lv_aload_n hx hb dX2_put_9 rfl (lv_at hl 0 rfl) ?_
  refine fgX2_28 hx hb hts hown hK hH q (show q < 8 by first | assumption | omega) dX2_put_10 ?_
  refine fpX2_31 hx hb hts hown hK hH hS q (show q < 8 by first | assumption | omega) dX2_put_13 (fun H locs hH hS => ?_)
  refine lv_aload_n hx hb dX2_put_16 rfl (lv_at hl 0 rfl) ?_
  refine lv_iload_n hx hb dX2_put_17 rfl (lv_at hl 1 rfl) ?_
  refine fpX2_28 hx hb hts hown hK hH hS q (show q < 8 by first | assumption | omega) dX2_put_18 (fun H locs hH hS => ?_)
  exact e_vret hx hb hr hlk hK hH hS dX2_put_21 (congrArg (Ex cs b) (by simp only [f_X2_put]))
def f_X2_drop (σ : St) (q : Nat) : St := sI (sI σ 5 q 5 (gI σ 5 q 6)) 5 q 6 (gI (sI σ 5 q 5 (gI σ 5 q 6)) 5 q 7)
set_option maxRecDepth 100000 in
set_option maxHeartbeats 4000000 in
theorem k_X2_drop (l : Launch) (D : va_G) (cs : Nat → ClassId) (b : Nat) (σ : St) (q : Nat) (hq : q < 8) : Met l yX2_drop (Cond.code yX2_drop cX2_drop 1 (none : Option FieldType) :: T0) { frames := 0, cells := 0, slots := 0, locals := 0 } (Pe D (tyx cs) b 43 (Ex cs b σ) [.ref (b + xo 5 q)]) (Qv D (tyx cs) b 43 (Ex cs b (f_X2_drop σ q))) 0 0 (fun a => b ≤ a) := by
  refine e_met (by decide) rfl (Nat.le_of_ble_eq_true rfl) (fun pg e s m below meth c ls hx hb hr hml hts0 hown hlk hnm hH hK hl hS => ?_)
  have hts : ∀ w ∈ T0, w.before _ s = true := fun w h => hts0 w (List.mem_cons_of_mem _ h)
  have hl : lv_has ls 1 [(0, .ref (b + xo 5 q))] := hl
  refine lv_aload_n hx hb dX2_drop_0 rfl (lv_at hl 0 rfl) ?_
  refine lv_aload_n hx hb dX2_drop_1 rfl (lv_at hl 0 rfl) ?_
  refine fgX2_31 hx hb hts hown hK hH q (show q < 8 by first | assumption | omega) dX2_drop_2 ?_
  refine fpX2_28 hx hb hts hown hK hH hS q (show q < 8 by first | assumption | omega) dX2_drop_5 (fun H locs hH hS => ?_)
  refine lv_aload_n hx hb dX2_drop_8 rfl (lv_at hl 0 rfl) ?_
  refine lv_aload_n hx hb dX2_drop_9 rfl (lv_at hl 0 rfl) ?_
  refine fgX2_34 hx hb hts hown hK hH q (show q < 8 by first | assumption | omega) dX2_drop_10 ?_
  refine fpX2_31 hx hb hts hown hK hH hS q (show q < 8 by first | assumption | omega) dX2_drop_13 (fun H locs hH hS => ?_)
  exact e_vret hx hb hr hlk hK hH hS dX2_drop_16 (congrArg (Ex cs b) (by simp only [f_X2_drop]))
def f_X2_replaceTwo (σ : St) (q : Nat) (x : Int32) : St := sI (sI σ 5 q 5 x) 5 q 6 (gI (sI σ 5 q 5 x) 5 q 7)
set_option maxRecDepth 100000 in
set_option maxHeartbeats 4000000 in
theorem k_X2_replaceTwo (l : Launch) (D : va_G) (cs : Nat → ClassId) (b : Nat) (σ : St) (q : Nat) (x : Int32) (hq : q < 8) : Met l yX2_replaceTwo (Cond.code yX2_replaceTwo cX2_replaceTwo 2 (none : Option FieldType) :: T0) { frames := 0, cells := 0, slots := 0, locals := 0 } (Pe D (tyx cs) b 43 (Ex cs b σ) [.ref (b + xo 5 q), .int (x)]) (Qv D (tyx cs) b 43 (Ex cs b (f_X2_replaceTwo σ q x))) 0 0 (fun a => b ≤ a) := by
  refine e_met (by decide) rfl (Nat.le_of_ble_eq_true rfl) (fun pg e s m below meth c ls hx hb hr hml hts0 hown hlk hnm hH hK hl hS => ?_)
  have hts : ∀ w ∈ T0, w.before _ s = true := fun w h => hts0 w (List.mem_cons_of_mem _ h)
  have hl : lv_has ls 2 [(0, .ref (b + xo 5 q)), (1, .int (x))] := hl
  refine lv_aload_n hx hb dX2_replaceTwo_0 rfl (lv_at hl 0 rfl) ?_
  refine lv_iload_n hx hb dX2_replaceTwo_1 rfl (lv_at hl 1 rfl) ?_
  refine fpX2_28 hx hb hts hown hK hH hS q (show q < 8 by first | assumption | omega) dX2_replaceTwo_2 (fun H locs hH hS => ?_)
  refine lv_aload_n hx hb dX2_replaceTwo_5 rfl (lv_at hl 0 rfl) ?_
  refine lv_aload_n hx hb dX2_replaceTwo_6 rfl (lv_at hl 0 rfl) ?_
  refine fgX2_34 hx hb hts hown hK hH q (show q < 8 by first | assumption | omega) dX2_replaceTwo_7 ?_
  refine fpX2_31 hx hb hts hown hK hH hS q (show q < 8 by first | assumption | omega) dX2_replaceTwo_10 (fun H locs hH hS => ?_)
  exact e_vret hx hb hr hlk hK hH hS dX2_replaceTwo_13 (congrArg (Ex cs b) (by simp only [f_X2_replaceTwo]))
def f_X2_word (σ : St) (q : Nat) (x : Int32) : Int32 := (if x < 0 then 0 else (if 4 ≤ x then 0 else gI σ 6 q x.toNatClampNeg))
set_option maxRecDepth 100000 in
set_option maxHeartbeats 4000000 in
theorem k_X2_word (l : Launch) (D : va_G) (cs : Nat → ClassId) (b : Nat) (σ : St) (q : Nat) (x : Int32) (hq : q < 8) : Met l yX2_word (Cond.code yX2_word cX2_word 2 (some FieldType.int) :: T0) { frames := 0, cells := 0, slots := 0, locals := 0 } (Pe D (tyx cs) b 43 (Ex cs b σ) [.ref (b + xo 5 q), .int (x)]) (Qi D (tyx cs) b 43 (Ex cs b σ) (f_X2_word σ q x)) 0 0 (fun a => b ≤ a) := by
  refine e_met (by decide) rfl (Nat.le_of_ble_eq_true rfl) (fun pg e s m below meth c ls hx hb hr hml hts0 hown hlk hnm hH hK hl hS => ?_)
  have hts : ∀ w ∈ T0, w.before _ s = true := fun w h => hts0 w (List.mem_cons_of_mem _ h)
  have hl : lv_has ls 2 [(0, .ref (b + xo 5 q)), (1, .int (x))] := hl
  refine lv_iload_n hx hb dX2_word_0 rfl (lv_at hl 1 rfl) ?_
  refine lv_if_lt (tgt := 18) hx hb dX2_word_1 (by decide) (fun c_1_1 => ?_) (fun c_1_1 => ?_)
  ·
    refine lv_iconst (v := 0) hx hb dX2_word_18 (by decide) ?_
    exact e_iret hx hb hr hlk hK hH hS dX2_word_19 (by simp only [f_X2_word, if_pos c_1_1]) rfl
  ·
    refine lv_iload_n hx hb dX2_word_4 rfl (lv_at hl 1 rfl) ?_
    refine lv_iconst (v := 4) hx hb dX2_word_5 (by decide) ?_
    refine lv_icmp_ge (tgt := 18) hx hb dX2_word_6 (by decide) (fun c_6_2 => ?_) (fun c_6_2 => ?_)
    ·
      refine lv_iconst (v := 0) hx hb dX2_word_18 (by decide) ?_
      exact e_iret hx hb hr hlk hK hH hS dX2_word_19 (by simp only [f_X2_word, if_neg c_1_1, if_pos c_6_2]) rfl
    ·
      refine lv_aload_n hx hb dX2_word_9 rfl (lv_at hl 0 rfl) ?_
      refine fgX2_15 hx hb hts hown hK hH q (show q < 8 by first | assumption | omega) dX2_word_10 ?_
      refine lv_iload_n hx hb dX2_word_13 rfl (lv_at hl 1 rfl) ?_
      refine x_ialdU hx hb hK hH 6 q 4 (show q < 8 by first | assumption | omega) rfl (vin_nle 4 (by assumption) (by assumption) (by decide)) dX2_word_14 ?_
      refine lv_goto (tgt := 19) hx hb dX2_word_15 (by decide) ?_
      exact e_iret hx hb hr hlk hK hH hS dX2_word_19 (by simp only [f_X2_word, if_neg c_1_1, if_neg c_6_2]) rfl
def f_X2_setWord (σ : St) (q : Nat) (x : Int32) (y : Int32) : St := (if x < 0 then σ else (if 4 ≤ x then σ else sI σ 6 q x.toNatClampNeg y))
set_option maxRecDepth 100000 in
set_option maxHeartbeats 4000000 in
theorem k_X2_setWord (l : Launch) (D : va_G) (cs : Nat → ClassId) (b : Nat) (σ : St) (q : Nat) (x : Int32) (y : Int32) (hq : q < 8) : Met l yX2_setWord (Cond.code yX2_setWord cX2_setWord 3 (none : Option FieldType) :: T0) { frames := 0, cells := 0, slots := 0, locals := 0 } (Pe D (tyx cs) b 43 (Ex cs b σ) [.ref (b + xo 5 q), .int (x), .int (y)]) (Qv D (tyx cs) b 43 (Ex cs b (f_X2_setWord σ q x y))) 0 0 (fun a => b ≤ a) := by
  refine e_met (by decide) rfl (Nat.le_of_ble_eq_true rfl) (fun pg e s m below meth c ls hx hb hr hml hts0 hown hlk hnm hH hK hl hS => ?_)
  have hts : ∀ w ∈ T0, w.before _ s = true := fun w h => hts0 w (List.mem_cons_of_mem _ h)
  have hl : lv_has ls 3 [(0, .ref (b + xo 5 q)), (1, .int (x)), (2, .int (y))] := hl
  refine lv_iload_n hx hb dX2_setWord_0 rfl (lv_at hl 1 rfl) ?_
  refine lv_if_lt (tgt := 16) hx hb dX2_setWord_1 (by decide) (fun c_1_1 => ?_) (fun c_1_1 => ?_)
  ·
    exact e_vret hx hb hr hlk hK hH hS dX2_setWord_16 (congrArg (Ex cs b) (by simp only [f_X2_setWord, if_pos c_1_1]))
  ·
    refine lv_iload_n hx hb dX2_setWord_4 rfl (lv_at hl 1 rfl) ?_
    refine lv_iconst (v := 4) hx hb dX2_setWord_5 (by decide) ?_
    refine lv_icmp_ge (tgt := 16) hx hb dX2_setWord_6 (by decide) (fun c_6_2 => ?_) (fun c_6_2 => ?_)
    ·
      exact e_vret hx hb hr hlk hK hH hS dX2_setWord_16 (congrArg (Ex cs b) (by simp only [f_X2_setWord, if_neg c_1_1, if_pos c_6_2]))
    ·
      refine lv_aload_n hx hb dX2_setWord_9 rfl (lv_at hl 0 rfl) ?_
      refine fgX2_15 hx hb hts hown hK hH q (show q < 8 by first | assumption | omega) dX2_setWord_10 ?_
      refine lv_iload_n hx hb dX2_setWord_13 rfl (lv_at hl 1 rfl) ?_
      refine lv_iload_n hx hb dX2_setWord_14 rfl (lv_at hl 2 rfl) ?_
      refine x_iastU hx hb hK hH hS 6 q 4 (show q < 8 by first | assumption | omega) (fun _ _ => rfl) (vin_nle 4 (by assumption) (by assumption) (by decide)) dX2_setWord_15 (fun H locs hH hS => ?_)
      exact e_vret hx hb hr hlk hK hH hS dX2_setWord_16 (congrArg (Ex cs b) (by simp only [f_X2_setWord, if_neg c_1_1, if_neg c_6_2]))
def f_X2_part (σ : St) (q : Nat) (x : Int32) : Int64 := (if x = 0 then (gI σ 5 q 3).toInt64 else (if x = 1 then (gI σ 5 q 4).toInt64 else (if x = 2 then (gI σ 5 q 5).toInt64 else (if x = 3 then (gI σ 5 q 6).toInt64 else (if x = 4 then (gI σ 5 q 7).toInt64 else (if x = 5 then (f_X2_word σ q (x - 5)).toInt64 else (if x = 6 then (f_X2_word σ q (x - 5)).toInt64 else (if x = 7 then (f_X2_word σ q (x - 5)).toInt64 else (if x = 8 then (f_X2_word σ q (x - 5)).toInt64 else 4294967296)))))))))
set_option maxRecDepth 100000 in
set_option maxHeartbeats 4000000 in
theorem k_X2_part (l : Launch) (D : va_G) (cs : Nat → ClassId) (b : Nat) (σ : St) (q : Nat) (x : Int32) (hq : q < 8) : Met l yX2_part (Cond.code yX2_part cX2_part 2 (some FieldType.long) :: T0) { frames := 1, cells := 0, slots := 0, locals := 21 } (Pe D (tyx cs) b 43 (Ex cs b σ) [.ref (b + xo 5 q), .int (x)]) (Ql D (tyx cs) b 43 (Ex cs b σ) (f_X2_part σ q x)) 0 0 (fun a => b ≤ a) := by
  refine e_met (by decide) rfl (Nat.le_of_ble_eq_true rfl) (fun pg e s m below meth c ls hx hb hr hml hts0 hown hlk hnm hH hK hl hS => ?_)
  have hts : ∀ w ∈ T0, w.before _ s = true := fun w h => hts0 w (List.mem_cons_of_mem _ h)
  have hl : lv_has ls 2 [(0, .ref (b + xo 5 q)), (1, .int (x))] := hl
  refine lv_iload_n hx hb dX2_part_0 rfl (lv_at hl 1 rfl) ?_
  by_cases c_1_1 : x = 0
  ·
    refine lv_tableIn (off := 51) (tgt := 52) hx hb dX2_part_1 (by rw [c_1_1]; decide) (by rw [c_1_1]; decide) (by rw [c_1_1]; rfl) (by decide) ?_
    refine lv_aload_n hx hb dX2_part_52 rfl (lv_at hl 0 rfl) ?_
    refine fgX2_22 hx hb hts hown hK hH q (show q < 8 by first | assumption | omega) dX2_part_53 ?_
    refine lv_i2l (v := (gI σ 5 q 3).toInt64) hx hb dX2_part_56 rfl ?_
    exact e_lret hx hb hr hlk hK hH hS dX2_part_57 (by simp only [f_X2_part, if_pos c_1_1]) rfl
  by_cases c_1_2 : x = 1
  ·
    refine lv_tableIn (off := 57) (tgt := 58) hx hb dX2_part_1 (by rw [c_1_2]; decide) (by rw [c_1_2]; decide) (by rw [c_1_2]; rfl) (by decide) ?_
    refine lv_aload_n hx hb dX2_part_58 rfl (lv_at hl 0 rfl) ?_
    refine fgX2_25 hx hb hts hown hK hH q (show q < 8 by first | assumption | omega) dX2_part_59 ?_
    refine lv_i2l (v := (gI σ 5 q 4).toInt64) hx hb dX2_part_62 rfl ?_
    exact e_lret hx hb hr hlk hK hH hS dX2_part_63 (by simp only [f_X2_part, if_neg c_1_1, if_pos c_1_2]) rfl
  by_cases c_1_3 : x = 2
  ·
    refine lv_tableIn (off := 63) (tgt := 64) hx hb dX2_part_1 (by rw [c_1_3]; decide) (by rw [c_1_3]; decide) (by rw [c_1_3]; rfl) (by decide) ?_
    refine lv_aload_n hx hb dX2_part_64 rfl (lv_at hl 0 rfl) ?_
    refine fgX2_28 hx hb hts hown hK hH q (show q < 8 by first | assumption | omega) dX2_part_65 ?_
    refine lv_i2l (v := (gI σ 5 q 5).toInt64) hx hb dX2_part_68 rfl ?_
    exact e_lret hx hb hr hlk hK hH hS dX2_part_69 (by simp only [f_X2_part, if_neg c_1_1, if_neg c_1_2, if_pos c_1_3]) rfl
  by_cases c_1_4 : x = 3
  ·
    refine lv_tableIn (off := 69) (tgt := 70) hx hb dX2_part_1 (by rw [c_1_4]; decide) (by rw [c_1_4]; decide) (by rw [c_1_4]; rfl) (by decide) ?_
    refine lv_aload_n hx hb dX2_part_70 rfl (lv_at hl 0 rfl) ?_
    refine fgX2_31 hx hb hts hown hK hH q (show q < 8 by first | assumption | omega) dX2_part_71 ?_
    refine lv_i2l (v := (gI σ 5 q 6).toInt64) hx hb dX2_part_74 rfl ?_
    exact e_lret hx hb hr hlk hK hH hS dX2_part_75 (by simp only [f_X2_part, if_neg c_1_1, if_neg c_1_2, if_neg c_1_3, if_pos c_1_4]) rfl
  by_cases c_1_5 : x = 4
  ·
    refine lv_tableIn (off := 75) (tgt := 76) hx hb dX2_part_1 (by rw [c_1_5]; decide) (by rw [c_1_5]; decide) (by rw [c_1_5]; rfl) (by decide) ?_
    refine lv_aload_n hx hb dX2_part_76 rfl (lv_at hl 0 rfl) ?_
    refine fgX2_34 hx hb hts hown hK hH q (show q < 8 by first | assumption | omega) dX2_part_77 ?_
    refine lv_i2l (v := (gI σ 5 q 7).toInt64) hx hb dX2_part_80 rfl ?_
    exact e_lret hx hb hr hlk hK hH hS dX2_part_81 (by simp only [f_X2_part, if_neg c_1_1, if_neg c_1_2, if_neg c_1_3, if_neg c_1_4, if_pos c_1_5]) rfl
  by_cases c_1_6 : x = 5
  ·
    refine lv_tableIn (off := 81) (tgt := 82) hx hb dX2_part_1 (by rw [c_1_6]; decide) (by rw [c_1_6]; decide) (by rw [c_1_6]; rfl) (by decide) ?_
    refine lv_aload_n hx hb dX2_part_82 rfl (lv_at hl 0 rfl) ?_
    refine lv_iload_n hx hb dX2_part_83 rfl (lv_at hl 1 rfl) ?_
    refine lv_iconst (v := 5) hx hb dX2_part_84 (by decide) ?_
    refine lv_isub hx hb dX2_part_85 ?_
    refine e_ci (e_runV (C := RX2) (ci := 2) (As := [.int (x - 5)]) (rest := []) ⟨hx, hb, hml, hown, hts⟩ (k_X2_word l D cs b σ q (x - 5) (by first | assumption | omega | decide)) ⟨callB_of 1 hts (gC wC_X2_word) rfl rfl rfl (hts _ wi_X2) (hts _ wM_X2_37) (by decide +kernel) (by decide), hts _ wN_X2_word, hts _ wS_X2_word⟩ hK hH (xo_ok (show q < xn 5 by first | assumption | (show q < 8; first | assumption | omega))).2.2 (Ex_at cs b σ (show q < xn 5 by first | assumption | (show q < 8; first | assumption | omega))) rfl rfl rfl hl.1 rfl (Nat.le_of_ble_eq_true rfl) dX2_part_86 (by decide)) hS (fun H locs hH hS => ?_)
    refine lv_i2l (v := (f_X2_word σ q (x - 5)).toInt64) hx hb dX2_part_89 rfl ?_
    exact e_lret hx hb hr hlk hK hH hS dX2_part_90 (by simp only [f_X2_part, if_neg c_1_1, if_neg c_1_2, if_neg c_1_3, if_neg c_1_4, if_neg c_1_5, if_pos c_1_6]) rfl
  by_cases c_1_7 : x = 6
  ·
    refine lv_tableIn (off := 81) (tgt := 82) hx hb dX2_part_1 (by rw [c_1_7]; decide) (by rw [c_1_7]; decide) (by rw [c_1_7]; rfl) (by decide) ?_
    refine lv_aload_n hx hb dX2_part_82 rfl (lv_at hl 0 rfl) ?_
    refine lv_iload_n hx hb dX2_part_83 rfl (lv_at hl 1 rfl) ?_
    refine lv_iconst (v := 5) hx hb dX2_part_84 (by decide) ?_
    refine lv_isub hx hb dX2_part_85 ?_
    refine e_ci (e_runV (C := RX2) (ci := 2) (As := [.int (x - 5)]) (rest := []) ⟨hx, hb, hml, hown, hts⟩ (k_X2_word l D cs b σ q (x - 5) (by first | assumption | omega | decide)) ⟨callB_of 1 hts (gC wC_X2_word) rfl rfl rfl (hts _ wi_X2) (hts _ wM_X2_37) (by decide +kernel) (by decide), hts _ wN_X2_word, hts _ wS_X2_word⟩ hK hH (xo_ok (show q < xn 5 by first | assumption | (show q < 8; first | assumption | omega))).2.2 (Ex_at cs b σ (show q < xn 5 by first | assumption | (show q < 8; first | assumption | omega))) rfl rfl rfl hl.1 rfl (Nat.le_of_ble_eq_true rfl) dX2_part_86 (by decide)) hS (fun H locs hH hS => ?_)
    refine lv_i2l (v := (f_X2_word σ q (x - 5)).toInt64) hx hb dX2_part_89 rfl ?_
    exact e_lret hx hb hr hlk hK hH hS dX2_part_90 (by simp only [f_X2_part, if_neg c_1_1, if_neg c_1_2, if_neg c_1_3, if_neg c_1_4, if_neg c_1_5, if_neg c_1_6, if_pos c_1_7]) rfl
  by_cases c_1_8 : x = 7
  ·
    refine lv_tableIn (off := 81) (tgt := 82) hx hb dX2_part_1 (by rw [c_1_8]; decide) (by rw [c_1_8]; decide) (by rw [c_1_8]; rfl) (by decide) ?_
    refine lv_aload_n hx hb dX2_part_82 rfl (lv_at hl 0 rfl) ?_
    refine lv_iload_n hx hb dX2_part_83 rfl (lv_at hl 1 rfl) ?_
    refine lv_iconst (v := 5) hx hb dX2_part_84 (by decide) ?_
    refine lv_isub hx hb dX2_part_85 ?_
    refine e_ci (e_runV (C := RX2) (ci := 2) (As := [.int (x - 5)]) (rest := []) ⟨hx, hb, hml, hown, hts⟩ (k_X2_word l D cs b σ q (x - 5) (by first | assumption | omega | decide)) ⟨callB_of 1 hts (gC wC_X2_word) rfl rfl rfl (hts _ wi_X2) (hts _ wM_X2_37) (by decide +kernel) (by decide), hts _ wN_X2_word, hts _ wS_X2_word⟩ hK hH (xo_ok (show q < xn 5 by first | assumption | (show q < 8; first | assumption | omega))).2.2 (Ex_at cs b σ (show q < xn 5 by first | assumption | (show q < 8; first | assumption | omega))) rfl rfl rfl hl.1 rfl (Nat.le_of_ble_eq_true rfl) dX2_part_86 (by decide)) hS (fun H locs hH hS => ?_)
    refine lv_i2l (v := (f_X2_word σ q (x - 5)).toInt64) hx hb dX2_part_89 rfl ?_
    exact e_lret hx hb hr hlk hK hH hS dX2_part_90 (by simp only [f_X2_part, if_neg c_1_1, if_neg c_1_2, if_neg c_1_3, if_neg c_1_4, if_neg c_1_5, if_neg c_1_6, if_neg c_1_7, if_pos c_1_8]) rfl
  by_cases c_1_9 : x = 8
  ·
    refine lv_tableIn (off := 81) (tgt := 82) hx hb dX2_part_1 (by rw [c_1_9]; decide) (by rw [c_1_9]; decide) (by rw [c_1_9]; rfl) (by decide) ?_
    refine lv_aload_n hx hb dX2_part_82 rfl (lv_at hl 0 rfl) ?_
    refine lv_iload_n hx hb dX2_part_83 rfl (lv_at hl 1 rfl) ?_
    refine lv_iconst (v := 5) hx hb dX2_part_84 (by decide) ?_
    refine lv_isub hx hb dX2_part_85 ?_
    refine e_ci (e_runV (C := RX2) (ci := 2) (As := [.int (x - 5)]) (rest := []) ⟨hx, hb, hml, hown, hts⟩ (k_X2_word l D cs b σ q (x - 5) (by first | assumption | omega | decide)) ⟨callB_of 1 hts (gC wC_X2_word) rfl rfl rfl (hts _ wi_X2) (hts _ wM_X2_37) (by decide +kernel) (by decide), hts _ wN_X2_word, hts _ wS_X2_word⟩ hK hH (xo_ok (show q < xn 5 by first | assumption | (show q < 8; first | assumption | omega))).2.2 (Ex_at cs b σ (show q < xn 5 by first | assumption | (show q < 8; first | assumption | omega))) rfl rfl rfl hl.1 rfl (Nat.le_of_ble_eq_true rfl) dX2_part_86 (by decide)) hS (fun H locs hH hS => ?_)
    refine lv_i2l (v := (f_X2_word σ q (x - 5)).toInt64) hx hb dX2_part_89 rfl ?_
    exact e_lret hx hb hr hlk hK hH hS dX2_part_90 (by simp only [f_X2_part, if_neg c_1_1, if_neg c_1_2, if_neg c_1_3, if_neg c_1_4, if_neg c_1_5, if_neg c_1_6, if_neg c_1_7, if_neg c_1_8, if_pos c_1_9]) rfl
  refine lv_tableOut (tgt := 91) hx hb dX2_part_1 (by have h0 := ne_i 0 c_1_1 (by decide); have h1 := ne_i 1 c_1_2 (by decide); have h2 := ne_i 2 c_1_3 (by decide); have h3 := ne_i 3 c_1_4 (by decide); have h4 := ne_i 4 c_1_5 (by decide); have h5 := ne_i 5 c_1_6 (by decide); have h6 := ne_i 6 c_1_7 (by decide); have h7 := ne_i 7 c_1_8 (by decide); have h8 := ne_i 8 c_1_9 (by decide); omega) (by decide) ?_
  refine lv_ldc2 hx hb hown (hts _ wK_X2_41) dX2_part_91 ?_
  exact e_lret hx hb hr hlk hK hH hS dX2_part_94 (by simp only [f_X2_part, if_neg c_1_1, if_neg c_1_2, if_neg c_1_3, if_neg c_1_4, if_neg c_1_5, if_neg c_1_6, if_neg c_1_7, if_neg c_1_8, if_neg c_1_9]) rfl
def lp_X2_begin_28 (q : Nat) (x : Int32) (y : Int32) (z : Int32) : Nat → St → Nat → St
  | 0, σ, _ => σ
  | n + 1, σ, j => (if 4 ≤ nI j then σ else lp_X2_begin_28 q x y z n (sI σ 6 q j 0) ((j + 1)))
def f_X2_begin (σ : St) (q : Nat) (x : Int32) (y : Int32) (z : Int32) : St := lp_X2_begin_28 q x y z 5 (sI (sI (sI (sI (sI σ 5 q 3 x) 5 q 4 y) 5 q 5 z) 5 q 6 0) 5 q 7 0) 0
set_option maxRecDepth 100000 in
set_option maxHeartbeats 4000000 in
theorem w_X2_begin_28 {l : Launch} {D : va_G} {cs : Nat → ClassId} {b : Nat} {pg : Program} {e : Env} {s : State} {m : MethodId} {below : List Frame} {meth : Method} {c : Code} (q : Nat) (x : Int32) (y : Int32) (z : Int32)  (hq : q < 8) (hx : pg.tables.exec = Jvm.exec) (hb : c.code = cX2_begin) (hml : c.maxLocals = 5) {args : Array Value} {H0 : Heap} {Q : State → Prop} (hts : ∀ w ∈ T0, w.before args s = true) (hown : s.vm.findClass RX2 = some m.cls) (hK : va_K D vwCl (tyx cs) s) : ∀ (n : Nat) (σ : St) (j : Nat), 4 < j + n → j ≤ 4 → ∀ (H : Heap) (locs : List Loc) (ls : Array Slot), (∀ (H : Heap) (locs : List Loc) (ls : Array Slot), He D b 43 (Ex cs b (lp_X2_begin_28 q x y z n σ j)) H → va_S (fun a => b ≤ a) H0 H locs → lv_has ls 5 [(0, .ref (b + xo 5 q)), (1, .int (x)), (2, .int (y)), (3, .int (z))] → W pg l e { frames := 0, cells := 0, slots := 0, locals := 0 } s m args below meth c H locs 0 0 Q (F0 m 48 ls [])) → He D b 43 (Ex cs b σ) H → va_S (fun a => b ≤ a) H0 H locs → lv_has ls 5 [(0, .ref (b + xo 5 q)), (1, .int (x)), (2, .int (y)), (3, .int (z)), (4, .int (nI j))] → W pg l e { frames := 0, cells := 0, slots := 0, locals := 0 } s m args below meth c H locs 0 0 Q (F0 m 28 ls []) := by
  intro n
  induction n with
  | zero =>
    intro σ j h0 h1
    exact absurd h0 (by omega)
  | succ n ih =>
    intro σ j h0 h1 H locs ls kk hH hS hl
    refine lv_iload hx hb dX2_begin_28 (lv_at hl 4 rfl) ?_
    refine lv_iconst (v := 4) hx hb dX2_begin_30 (by decide) ?_
    refine lv_icmp_ge (tgt := 48) hx hb dX2_begin_31 (by decide) (fun c_31_1 => ?_) (fun c_31_1 => ?_)
    ·
      have e_ : lp_X2_begin_28 q x y z (n + 1) σ j = σ := by simp only [lp_X2_begin_28, if_pos c_31_1]
      rw [e_] at kk
      exact kk _ _ _ hH hS (lv_sub hl [0, 1, 2, 3] rfl)
    ·
      have hj4 := ngt_8 (j := j) (by omega) 4 (by decide) (by assumption)
      refine lv_aload_n hx hb dX2_begin_34 rfl (lv_at hl 0 rfl) ?_
      refine fgX2_15 hx hb hts hown hK hH q (show q < 8 by first | assumption | omega) dX2_begin_35 ?_
      refine lv_iload hx hb dX2_begin_38 (lv_at hl 4 rfl) ?_
      refine lv_iconst (v := 0) hx hb dX2_begin_40 (by decide) ?_
      refine x_iast hx hb hK hH hS 6 q 4 (show q < 8 by first | assumption | omega) (fun _ _ => rfl) j rfl (by omega) (by decide) dX2_begin_41 (fun H locs hH hS => ?_)
      refine lv_iinc (v := nI (j + 1)) (lv' := [(4, .int (nI (j + 1))), (0, .ref (b + xo 5 q)), (1, .int (x)), (2, .int (y)), (3, .int (z))]) hx hb dX2_begin_42 hl (k := 4) rfl (nI_1 j) (by decide) rfl (fun ls hl => ?_)
      refine lv_goto (tgt := 28) hx hb dX2_begin_45 (by decide) ?_
      have e_ : lp_X2_begin_28 q x y z (n + 1) σ j = lp_X2_begin_28 q x y z n (sI σ 6 q j 0) ((j + 1)) := by simp only [lp_X2_begin_28, if_neg c_31_1]
      rw [e_] at kk
      exact ih (sI σ 6 q j 0) ((j + 1)) (by omega) (by omega) _ _ _ kk hH hS (lv_sub hl [1, 2, 3, 4, 0] rfl)
set_option maxRecDepth 100000 in
set_option maxHeartbeats 4000000 in
theorem k_X2_begin (l : Launch) (D : va_G) (cs : Nat → ClassId) (b : Nat) (σ : St) (q : Nat) (x : Int32) (y : Int32) (z : Int32) (hq : q < 8) : Met l yX2_begin (Cond.code yX2_begin cX2_begin 5 (none : Option FieldType) :: T0) { frames := 0, cells := 0, slots := 0, locals := 0 } (Pe D (tyx cs) b 43 (Ex cs b σ) [.ref (b + xo 5 q), .int (x), .int (y), .int (z)]) (Qv D (tyx cs) b 43 (Ex cs b (f_X2_begin σ q x y z))) 0 0 (fun a => b ≤ a) := by
  refine e_met (by decide) rfl (Nat.le_of_ble_eq_true rfl) (fun pg e s m below meth c ls hx hb hr hml hts0 hown hlk hnm hH hK hl hS => ?_)
  have hts : ∀ w ∈ T0, w.before _ s = true := fun w h => hts0 w (List.mem_cons_of_mem _ h)
  have hl : lv_has ls 5 [(0, .ref (b + xo 5 q)), (1, .int (x)), (2, .int (y)), (3, .int (z))] := hl
  refine lv_aload_n hx hb dX2_begin_0 rfl (lv_at hl 0 rfl) ?_
  refine lv_iload_n hx hb dX2_begin_1 rfl (lv_at hl 1 rfl) ?_
  refine fpX2_22 hx hb hts hown hK hH hS q (show q < 8 by first | assumption | omega) dX2_begin_2 (fun H locs hH hS => ?_)
  refine lv_aload_n hx hb dX2_begin_5 rfl (lv_at hl 0 rfl) ?_
  refine lv_iload_n hx hb dX2_begin_6 rfl (lv_at hl 2 rfl) ?_
  refine fpX2_25 hx hb hts hown hK hH hS q (show q < 8 by first | assumption | omega) dX2_begin_7 (fun H locs hH hS => ?_)
  refine lv_aload_n hx hb dX2_begin_10 rfl (lv_at hl 0 rfl) ?_
  refine lv_iload_n hx hb dX2_begin_11 rfl (lv_at hl 3 rfl) ?_
  refine fpX2_28 hx hb hts hown hK hH hS q (show q < 8 by first | assumption | omega) dX2_begin_12 (fun H locs hH hS => ?_)
  refine lv_aload_n hx hb dX2_begin_15 rfl (lv_at hl 0 rfl) ?_
  refine lv_iconst (v := 0) hx hb dX2_begin_16 (by decide) ?_
  refine fpX2_31 hx hb hts hown hK hH hS q (show q < 8 by first | assumption | omega) dX2_begin_17 (fun H locs hH hS => ?_)
  refine lv_aload_n hx hb dX2_begin_20 rfl (lv_at hl 0 rfl) ?_
  refine lv_iconst (v := 0) hx hb dX2_begin_21 (by decide) ?_
  refine fpX2_34 hx hb hts hown hK hH hS q (show q < 8 by first | assumption | omega) dX2_begin_22 (fun H locs hH hS => ?_)
  refine lv_iconst (v := 0) hx hb dX2_begin_25 (by decide) ?_
  refine lv_istore (lv' := [(4, .int (0)), (0, .ref (b + xo 5 q)), (1, .int (x)), (2, .int (y)), (3, .int (z))]) hx hb dX2_begin_26 hl (by decide) rfl (fun ls hl => ?_)
  refine w_X2_begin_28 q x y z hq hx hb hml hts hown hK 5 (sI (sI (sI (sI (sI σ 5 q 3 x) 5 q 4 y) 5 q 5 z) 5 q 6 0) 5 q 7 0) 0 (by omega) (by omega) _ _ _ (fun H locs ls hH hS hl => ?_) hH hS (lv_sub hl [1, 2, 3, 4, 0] rfl)
  exact e_vret hx hb hr hlk hK hH hS dX2_begin_48 (congrArg (Ex cs b) (by simp only [f_X2_begin]))
end
section
def f_X0_clear (σ : St) (k : Nat) : St := sI (sI (sR σ 8 k 1 (none)) 8 k 2 0) 8 k 3 0
set_option maxRecDepth 100000 in
set_option maxHeartbeats 4000000 in
theorem k_X0_clear (l : Launch) (D : va_G) (cs : Nat → ClassId) (b : Nat) (σ : St) (k : Nat) (hk : k < 4) : Met l yX0_clear (Cond.code yX0_clear cX0_clear 1 (none : Option FieldType) :: T0) { frames := 0, cells := 0, slots := 0, locals := 0 } (Pe D (tyx cs) b 43 (Ex cs b σ) [.ref (b + xo 8 k)]) (Qv D (tyx cs) b 43 (Ex cs b (f_X0_clear σ k))) 0 0 (fun a => b ≤ a) := by
  refine e_met (by decide) rfl (Nat.le_of_ble_eq_true rfl) (fun pg e s m below meth c ls hx hb hr hml hts0 hown hlk hnm hH hK hl hS => ?_)
  have hts : ∀ w ∈ T0, w.before _ s = true := fun w h => hts0 w (List.mem_cons_of_mem _ h)
  have hl : lv_has ls 1 [(0, .ref (b + xo 8 k))] := hl
  refine lv_aload_n hx hb dX0_clear_0 rfl (lv_at hl 0 rfl) ?_
  refine lv_null hx hb dX0_clear_1 ?_
  refine fpX0_15 hx hb hts hown hK hH hS k (show k < 4 by first | assumption | omega) (none) rfl dX0_clear_2 (fun H locs hH hS => ?_)
  refine lv_aload_n hx hb dX0_clear_5 rfl (lv_at hl 0 rfl) ?_
  refine lv_iconst (v := 0) hx hb dX0_clear_6 (by decide) ?_
  refine fpX0_19 hx hb hts hown hK hH hS k (show k < 4 by first | assumption | omega) (by decide) dX0_clear_7 (fun H locs hH hS => ?_)
  refine lv_aload_n hx hb dX0_clear_10 rfl (lv_at hl 0 rfl) ?_
  refine lv_iconst (v := 0) hx hb dX0_clear_11 (by decide) ?_
  refine fpX0_23 hx hb hts hown hK hH hS k (show k < 4 by first | assumption | omega) dX0_clear_12 (fun H locs hH hS => ?_)
  exact e_vret hx hb hr hlk hK hH hS dX0_clear_15 (congrArg (Ex cs b) (by simp only [f_X0_clear]))
def f_X0_hold (σ : St) (k : Nat) (q : Nat) (z : Int32) (x : Int32) : St := sI (sI (sI (sR σ 8 k 1 (some q)) 8 k 2 z) 8 k 3 x) 5 q 2 3
set_option maxRecDepth 100000 in
set_option maxHeartbeats 4000000 in
theorem k_X0_hold (l : Launch) (D : va_G) (cs : Nat → ClassId) (b : Nat) (σ : St) (k : Nat) (q : Nat) (z : Int32) (x : Int32) (hk : k < 4) (hq : q < 8) (hz : z = 0 ∨ z = 1) : Met l yX0_hold (Cond.code yX0_hold cX0_hold 4 (none : Option FieldType) :: T0) { frames := 0, cells := 0, slots := 0, locals := 0 } (Pe D (tyx cs) b 43 (Ex cs b σ) [.ref (b + xo 8 k), .ref (b + xo 5 q), .int (z), .int (x)]) (Qv D (tyx cs) b 43 (Ex cs b (f_X0_hold σ k q z x))) 0 0 (fun a => b ≤ a) := by
  refine e_met (by decide) rfl (Nat.le_of_ble_eq_true rfl) (fun pg e s m below meth c ls hx hb hr hml hts0 hown hlk hnm hH hK hl hS => ?_)
  have hts : ∀ w ∈ T0, w.before _ s = true := fun w h => hts0 w (List.mem_cons_of_mem _ h)
  have hl : lv_has ls 4 [(0, .ref (b + xo 8 k)), (1, .ref (b + xo 5 q)), (2, .int (z)), (3, .int (x))] := hl
  refine lv_aload_n hx hb dX0_hold_0 rfl (lv_at hl 0 rfl) ?_
  refine lv_aload_n hx hb dX0_hold_1 rfl (lv_at hl 1 rfl) ?_
  refine fpX0_15 hx hb hts hown hK hH hS k (show k < 4 by first | assumption | omega) (some q) rfl dX0_hold_2 (fun H locs hH hS => ?_)
  refine lv_aload_n hx hb dX0_hold_5 rfl (lv_at hl 0 rfl) ?_
  refine lv_iload_n hx hb dX0_hold_6 rfl (lv_at hl 2 rfl) ?_
  refine fpX0_19 hx hb hts hown hK hH hS k (show k < 4 by first | assumption | omega) hz dX0_hold_7 (fun H locs hH hS => ?_)
  refine lv_aload_n hx hb dX0_hold_10 rfl (lv_at hl 0 rfl) ?_
  refine lv_iload_n hx hb dX0_hold_11 rfl (lv_at hl 3 rfl) ?_
  refine fpX0_23 hx hb hts hown hK hH hS k (show k < 4 by first | assumption | omega) dX0_hold_12 (fun H locs hH hS => ?_)
  refine lv_aload_n hx hb dX0_hold_15 rfl (lv_at hl 1 rfl) ?_
  refine lv_iconst (v := 3) hx hb dX0_hold_16 (by decide) ?_
  refine fpX0_26 hx hb hts hown hK hH hS q (show q < 8 by first | assumption | omega) dX0_hold_17 (fun H locs hH hS => ?_)
  exact e_vret hx hb hr hlk hK hH hS dX0_hold_20 (congrArg (Ex cs b) (by simp only [f_X0_hold]))
def f_X0_hasSender (σ : St) (k : Nat) : Int32 := (oC (gR σ 8 k 1) 0 (fun q1_1 => (if gI σ 8 k 2 = 0 then 0 else 1)))
set_option maxRecDepth 100000 in
set_option maxHeartbeats 4000000 in
theorem k_X0_hasSender (l : Launch) (D : va_G) (cs : Nat → ClassId) (b : Nat) (σ : St) (k : Nat) (hk : k < 4) : Met l yX0_hasSender (Cond.code yX0_hasSender cX0_hasSender 1 (some FieldType.boolean) :: T0) { frames := 0, cells := 0, slots := 0, locals := 0 } (Pe D (tyx cs) b 43 (Ex cs b σ) [.ref (b + xo 8 k)]) (Qi D (tyx cs) b 43 (Ex cs b σ) (f_X0_hasSender σ k)) 0 0 (fun a => b ≤ a) := by
  refine e_met (by decide) rfl (Nat.le_of_ble_eq_true rfl) (fun pg e s m below meth c ls hx hb hr hml hts0 hown hlk hnm hH hK hl hS => ?_)
  have hts : ∀ w ∈ T0, w.before _ s = true := fun w h => hts0 w (List.mem_cons_of_mem _ h)
  have hl : lv_has ls 1 [(0, .ref (b + xo 8 k))] := hl
  refine lv_aload_n hx hb dX0_hasSender_0 rfl (lv_at hl 0 rfl) ?_
  refine fgX0_15 hx hb hts hown hK hH k (show k < 4 by first | assumption | omega) _ rfl dX0_hasSender_1 ?_
  rcases hq_1_1 : gR σ 8 k 1 with _ | q1_1
  ·
    refine W.eq (g2 := F0 m 4 ls [.null]) rfl ?_
    refine lv_ifnullN (tgt := 18) hx hb dX0_hasSender_4 (by decide) ?_
    refine lv_iconst (v := 0) hx hb dX0_hasSender_18 (by decide) ?_
    exact e_zret hx hb hr hlk hK hH hS dX0_hasSender_19 (by rfl) (by simp only [f_X0_hasSender, hq_1_1, oC_none]) rfl
  ·
    refine W.eq (g2 := F0 m 4 ls [.ref (b + xo 5 q1_1)]) rfl ?_
    refine lv_ifnull hx hb dX0_hasSender_4 ?_
    refine lv_aload_n hx hb dX0_hasSender_7 rfl (lv_at hl 0 rfl) ?_
    refine fgX0_19 hx hb hts hown hK hH k (show k < 4 by first | assumption | omega) dX0_hasSender_8 ?_
    refine lv_if_eq (tgt := 18) hx hb dX0_hasSender_11 (by decide) (fun c_11_2 => ?_) (fun c_11_2 => ?_)
    ·
      refine lv_iconst (v := 0) hx hb dX0_hasSender_18 (by decide) ?_
      exact e_zret hx hb hr hlk hK hH hS dX0_hasSender_19 (by rfl) (by simp only [f_X0_hasSender, hq_1_1, oC_some, if_pos c_11_2]) rfl
    ·
      refine lv_iconst (v := 1) hx hb dX0_hasSender_14 (by decide) ?_
      refine lv_goto (tgt := 19) hx hb dX0_hasSender_15 (by decide) ?_
      exact e_zret hx hb hr hlk hK hH hS dX0_hasSender_19 (by rfl) (by simp only [f_X0_hasSender, hq_1_1, oC_some, if_neg c_11_2]) rfl
def f_X0_hasReceiver (σ : St) (k : Nat) : Int32 := (oC (gR σ 8 k 1) 0 (fun q1_1 => (if gI σ 8 k 2 = 0 then 1 else 0)))
set_option maxRecDepth 100000 in
set_option maxHeartbeats 4000000 in
theorem k_X0_hasReceiver (l : Launch) (D : va_G) (cs : Nat → ClassId) (b : Nat) (σ : St) (k : Nat) (hk : k < 4) : Met l yX0_hasReceiver (Cond.code yX0_hasReceiver cX0_hasReceiver 1 (some FieldType.boolean) :: T0) { frames := 0, cells := 0, slots := 0, locals := 0 } (Pe D (tyx cs) b 43 (Ex cs b σ) [.ref (b + xo 8 k)]) (Qi D (tyx cs) b 43 (Ex cs b σ) (f_X0_hasReceiver σ k)) 0 0 (fun a => b ≤ a) := by
  refine e_met (by decide) rfl (Nat.le_of_ble_eq_true rfl) (fun pg e s m below meth c ls hx hb hr hml hts0 hown hlk hnm hH hK hl hS => ?_)
  have hts : ∀ w ∈ T0, w.before _ s = true := fun w h => hts0 w (List.mem_cons_of_mem _ h)
  have hl : lv_has ls 1 [(0, .ref (b + xo 8 k))] := hl
  refine lv_aload_n hx hb dX0_hasReceiver_0 rfl (lv_at hl 0 rfl) ?_
  refine fgX0_15 hx hb hts hown hK hH k (show k < 4 by first | assumption | omega) _ rfl dX0_hasReceiver_1 ?_
  rcases hq_1_1 : gR σ 8 k 1 with _ | q1_1
  ·
    refine W.eq (g2 := F0 m 4 ls [.null]) rfl ?_
    refine lv_ifnullN (tgt := 18) hx hb dX0_hasReceiver_4 (by decide) ?_
    refine lv_iconst (v := 0) hx hb dX0_hasReceiver_18 (by decide) ?_
    exact e_zret hx hb hr hlk hK hH hS dX0_hasReceiver_19 (by rfl) (by simp only [f_X0_hasReceiver, hq_1_1, oC_none]) rfl
  ·
    refine W.eq (g2 := F0 m 4 ls [.ref (b + xo 5 q1_1)]) rfl ?_
    refine lv_ifnull hx hb dX0_hasReceiver_4 ?_
    refine lv_aload_n hx hb dX0_hasReceiver_7 rfl (lv_at hl 0 rfl) ?_
    refine fgX0_19 hx hb hts hown hK hH k (show k < 4 by first | assumption | omega) dX0_hasReceiver_8 ?_
    refine lv_if_ne (tgt := 18) hx hb dX0_hasReceiver_11 (by decide) (fun c_11_2 => ?_) (fun c_11_2 => ?_)
    ·
      refine lv_iconst (v := 0) hx hb dX0_hasReceiver_18 (by decide) ?_
      exact e_zret hx hb hr hlk hK hH hS dX0_hasReceiver_19 (by rfl) (by simp only [f_X0_hasReceiver, hq_1_1, oC_some, if_neg c_11_2]) rfl
    ·
      refine lv_iconst (v := 1) hx hb dX0_hasReceiver_14 (by decide) ?_
      refine lv_goto (tgt := 19) hx hb dX0_hasReceiver_15 (by decide) ?_
      exact e_zret hx hb hr hlk hK hH hS dX0_hasReceiver_19 (by rfl) (by simp only [f_X0_hasReceiver, hq_1_1, oC_some, if_pos c_11_2]) rfl
def f_X0_code (σ : St) (k : Nat) : Int32 := (oC (gR σ 8 k 1) 0 (fun q1_1 => (if gI σ 8 k 2 = 0 then 16 + (nI q1_1) else 8 + (nI q1_1))))
set_option maxRecDepth 100000 in
set_option maxHeartbeats 4000000 in
theorem k_X0_code (l : Launch) (D : va_G) (cs : Nat → ClassId) (b : Nat) (σ : St) (k : Nat) (hk : k < 4) (hw : ∀ p, gR σ 8 k 1 = some p → p < 8) : Met l yX0_code (Cond.code yX0_code cX0_code 1 (some FieldType.int) :: T0) { frames := 0, cells := 0, slots := 0, locals := 0 } (Pe D (tyx cs) b 43 (Ex cs b σ) [.ref (b + xo 8 k)]) (Qi D (tyx cs) b 43 (Ex cs b σ) (f_X0_code σ k)) 0 0 (fun a => b ≤ a) := by
  refine e_met (by decide) rfl (Nat.le_of_ble_eq_true rfl) (fun pg e s m below meth c ls hx hb hr hml hts0 hown hlk hnm hH hK hl hS => ?_)
  have hts : ∀ w ∈ T0, w.before _ s = true := fun w h => hts0 w (List.mem_cons_of_mem _ h)
  have hl : lv_has ls 1 [(0, .ref (b + xo 8 k))] := hl
  refine lv_aload_n hx hb dX0_code_0 rfl (lv_at hl 0 rfl) ?_
  refine fgX0_15 hx hb hts hown hK hH k (show k < 4 by first | assumption | omega) _ rfl dX0_code_1 ?_
  rcases hq_1_1 : gR σ 8 k 1 with _ | q1_1
  ·
    refine W.eq (g2 := F0 m 4 ls [.null]) rfl ?_
    refine lv_ifnonnullN hx hb dX0_code_4 ?_
    refine lv_iconst (v := 0) hx hb dX0_code_7 (by decide) ?_
    exact e_iret hx hb hr hlk hK hH hS dX0_code_8 (by simp only [f_X0_code, hq_1_1, oC_none]) rfl
  ·
    have q1_1b := hw _ hq_1_1
    refine W.eq (g2 := F0 m 4 ls [.ref (b + xo 5 q1_1)]) rfl ?_
    refine lv_ifnonnull (tgt := 9) hx hb dX0_code_4 (by decide) ?_
    refine lv_aload_n hx hb dX0_code_9 rfl (lv_at hl 0 rfl) ?_
    refine fgX0_19 hx hb hts hown hK hH k (show k < 4 by first | assumption | omega) dX0_code_10 ?_
    refine lv_if_eq (tgt := 21) hx hb dX0_code_13 (by decide) (fun c_13_2 => ?_) (fun c_13_2 => ?_)
    ·
      refine lv_bipush (v := 16) hx hb dX0_code_21 (by decide) ?_
      refine lv_aload_n hx hb dX0_code_23 rfl (lv_at hl 0 rfl) ?_
      refine fgX0_15 hx hb hts hown hK hH k (show k < 4 by first | assumption | omega) (some q1_1) (hq_1_1) dX0_code_24 ?_
      refine W.eq (g2 := F0 m 27 ls [.ref (b + xo 5 q1_1), .int (16)]) rfl ?_
      refine fgX0_31 hx hb hts hown hK hH q1_1 (show q1_1 < 8 by first | assumption | omega) dX0_code_27 ?_
      refine lv_iadd hx hb dX0_code_30 ?_
      exact e_iret hx hb hr hlk hK hH hS dX0_code_31 (by simp only [f_X0_code, hq_1_1, oC_some, if_pos c_13_2]) rfl
    ·
      refine lv_bipush (v := 8) hx hb dX0_code_16 (by decide) ?_
      refine lv_goto (tgt := 23) hx hb dX0_code_18 (by decide) ?_
      refine lv_aload_n hx hb dX0_code_23 rfl (lv_at hl 0 rfl) ?_
      refine fgX0_15 hx hb hts hown hK hH k (show k < 4 by first | assumption | omega) (some q1_1) (hq_1_1) dX0_code_24 ?_
      refine W.eq (g2 := F0 m 27 ls [.ref (b + xo 5 q1_1), .int (8)]) rfl ?_
      refine fgX0_31 hx hb hts hown hK hH q1_1 (show q1_1 < 8 by first | assumption | omega) dX0_code_27 ?_
      refine lv_iadd hx hb dX0_code_30 ?_
      exact e_iret hx hb hr hlk hK hH hS dX0_code_31 (by simp only [f_X0_code, hq_1_1, oC_some, if_neg c_13_2]) rfl
end
section
def f_X1_roomOf (σ : St) (x : Int32) : Int32 := (x &&& 15) * 5
set_option maxRecDepth 100000 in
set_option maxHeartbeats 4000000 in
theorem k_X1_roomOf (l : Launch) (D : va_G) (cs : Nat → ClassId) (b : Nat) (σ : St) (x : Int32)  : Met l yX1_roomOf (Cond.code yX1_roomOf cX1_roomOf 1 (some FieldType.int) :: T0) { frames := 0, cells := 0, slots := 0, locals := 0 } (Pe D (tyx cs) b 43 (Ex cs b σ) [.int (x)]) (Qi D (tyx cs) b 43 (Ex cs b σ) (f_X1_roomOf σ x)) 0 0 (fun a => b ≤ a) := by
  refine e_met (by decide) rfl (Nat.le_of_ble_eq_true rfl) (fun pg e s m below meth c ls hx hb hr hml hts0 hown hlk hnm hH hK hl hS => ?_)
  have hts : ∀ w ∈ T0, w.before _ s = true := fun w h => hts0 w (List.mem_cons_of_mem _ h)
  have hl : lv_has ls 1 [(0, .int (x))] := hl
  refine lv_iload_n hx hb dX1_roomOf_0 rfl (lv_at hl 0 rfl) ?_
  refine lv_bipush (v := 15) hx hb dX1_roomOf_1 (by decide) ?_
  refine lv_iand hx hb dX1_roomOf_3 ?_
  refine lv_iconst (v := 5) hx hb dX1_roomOf_4 (by decide) ?_
  refine lv_imul hx hb dX1_roomOf_5 ?_
  exact e_iret hx hb hr hlk hK hH hS dX1_roomOf_6 (by simp only [f_X1_roomOf]) rfl
theorem room_of (σ : St) (x : Int32) : ∃ j : Nat, j < 16 ∧ f_X1_roomOf σ x = nI (j * 5) := by
  obtain ⟨j, hj, e⟩ := pk_andE x (m := 15) 4 (by decide)
  exact ⟨j, hj, by unfold f_X1_roomOf; rw [e]; exact pk_mul j 5⟩
theorem vin_room (σ : St) (x y : Int32) (k : Nat) (hk : k < 5) (hy : y = nI k) : vp_in (f_X1_roomOf σ x + y) 80 := by
  obtain ⟨j, hj, e⟩ := room_of σ x
  rw [e, hy, nI_add]
  exact vp_in_nI (by omega) (by decide)
theorem vin_room0 (σ : St) (x : Int32) : vp_in (f_X1_roomOf σ x) 80 := by
  obtain ⟨j, hj, e⟩ := room_of σ x
  rw [e]
  exact vp_in_nI (by omega) (by decide)
theorem vin_roomW (σ : St) (x w : Int32) (h0 : ¬ w < 0) (h : w < 5) : vp_in (f_X1_roomOf σ x + w) 80 := by
  have hw := vin_lt 5 h0 h (by decide)
  exact vin_room σ x w w.toNatClampNeg (cl_lt hw) (cl_of hw)
def f_X1_append (σ : St) (u : Int32) (v : Int32) (w : Int32) (x : Int32) (y : Int32) : St := sI (sI (sI (sI (sI (sI σ 12 0 (f_X1_roomOf σ (gI σ 11 0 1)).toNatClampNeg u) 12 0 ((f_X1_roomOf σ (gI σ 11 0 1)) + 1).toNatClampNeg v) 12 0 ((f_X1_roomOf σ (gI σ 11 0 1)) + 2).toNatClampNeg w) 12 0 ((f_X1_roomOf σ (gI σ 11 0 1)) + 3).toNatClampNeg x) 12 0 ((f_X1_roomOf σ (gI σ 11 0 1)) + 4).toNatClampNeg y) 11 0 1 ((gI (sI (sI (sI (sI (sI σ 12 0 (f_X1_roomOf σ (gI σ 11 0 1)).toNatClampNeg u) 12 0 ((f_X1_roomOf σ (gI σ 11 0 1)) + 1).toNatClampNeg v) 12 0 ((f_X1_roomOf σ (gI σ 11 0 1)) + 2).toNatClampNeg w) 12 0 ((f_X1_roomOf σ (gI σ 11 0 1)) + 3).toNatClampNeg x) 12 0 ((f_X1_roomOf σ (gI σ 11 0 1)) + 4).toNatClampNeg y) 11 0 1) + 1)
set_option maxRecDepth 100000 in
set_option maxHeartbeats 4000000 in
theorem k_X1_append (l : Launch) (D : va_G) (cs : Nat → ClassId) (b : Nat) (σ : St) (u : Int32) (v : Int32) (w : Int32) (x : Int32) (y : Int32)  : Met l yX1_append (Cond.code yX1_append cX1_append 7 (none : Option FieldType) :: T0) { frames := 1, cells := 0, slots := 0, locals := 20 } (Pe D (tyx cs) b 43 (Ex cs b σ) [.ref (b + xo 11 0), .int (u), .int (v), .int (w), .int (x), .int (y)]) (Qv D (tyx cs) b 43 (Ex cs b (f_X1_append σ u v w x y))) 0 0 (fun a => b ≤ a) := by
  refine e_met (by decide) rfl (Nat.le_of_ble_eq_true rfl) (fun pg e s m below meth c ls hx hb hr hml hts0 hown hlk hnm hH hK hl hS => ?_)
  have hts : ∀ w ∈ T0, w.before _ s = true := fun w h => hts0 w (List.mem_cons_of_mem _ h)
  have hl : lv_has ls 7 [(0, .ref (b + xo 11 0)), (1, .int (u)), (2, .int (v)), (3, .int (w)), (4, .int (x)), (5, .int (y))] := hl
  refine lv_aload_n hx hb dX1_append_0 rfl (lv_at hl 0 rfl) ?_
  refine fgX1_15 hx hb hts hown hK hH 0 (by decide) dX1_append_1 ?_
  refine e_ci (e_runS (As := [.int (gI σ 11 0 1)]) (rest := []) ⟨hx, hb, hml, hown, hts⟩ (k_X1_roomOf l D cs b σ (gI σ 11 0 1) ) ⟨callB_of 1 hts (gC wC_X1_roomOf) rfl rfl rfl (hts _ wi_X1) (hts _ wM_X1_19) (by decide +kernel) (by decide), hts _ wT_X1_roomOf⟩ hK hH rfl hl.1 rfl (Nat.le_of_ble_eq_true rfl) dX1_append_4 (by decide)) hS (fun H locs hH hS => ?_)
  refine lv_istore (lv' := [(6, .int (f_X1_roomOf σ (gI σ 11 0 1))), (0, .ref (b + xo 11 0)), (1, .int (u)), (2, .int (v)), (3, .int (w)), (4, .int (x)), (5, .int (y))]) hx hb dX1_append_7 hl (by decide) rfl (fun ls hl => ?_)
  refine lv_aload_n hx hb dX1_append_9 rfl (lv_at hl 1 rfl) ?_
  refine fgX1_9 hx hb hts hown hK hH 0 (by decide) dX1_append_10 ?_
  refine lv_iload hx hb dX1_append_13 (lv_at hl 0 rfl) ?_
  refine lv_iload_n hx hb dX1_append_15 rfl (lv_at hl 2 rfl) ?_
  refine x_iastU hx hb hK hH hS 12 0 80 (by decide) (fun _ _ => rfl) (vin_room0 _ _) dX1_append_16 (fun H locs hH hS => ?_)
  refine lv_aload_n hx hb dX1_append_17 rfl (lv_at hl 1 rfl) ?_
  refine fgX1_9 hx hb hts hown hK hH 0 (by decide) dX1_append_18 ?_
  refine lv_iload hx hb dX1_append_21 (lv_at hl 0 rfl) ?_
  refine lv_iconst (v := 1) hx hb dX1_append_23 (by decide) ?_
  refine lv_iadd hx hb dX1_append_24 ?_
  refine lv_iload_n hx hb dX1_append_25 rfl (lv_at hl 3 rfl) ?_
  refine x_iastU hx hb hK hH hS 12 0 80 (by decide) (fun _ _ => rfl) (vin_room _ _ _ 1 (by decide) rfl) dX1_append_26 (fun H locs hH hS => ?_)
  refine lv_aload_n hx hb dX1_append_27 rfl (lv_at hl 1 rfl) ?_
  refine fgX1_9 hx hb hts hown hK hH 0 (by decide) dX1_append_28 ?_
  refine lv_iload hx hb dX1_append_31 (lv_at hl 0 rfl) ?_
  refine lv_iconst (v := 2) hx hb dX1_append_33 (by decide) ?_
  refine lv_iadd hx hb dX1_append_34 ?_
  refine lv_iload_n hx hb dX1_append_35 rfl (lv_at hl 4 rfl) ?_
  refine x_iastU hx hb hK hH hS 12 0 80 (by decide) (fun _ _ => rfl) (vin_room _ _ _ 2 (by decide) rfl) dX1_append_36 (fun H locs hH hS => ?_)
  refine lv_aload_n hx hb dX1_append_37 rfl (lv_at hl 1 rfl) ?_
  refine fgX1_9 hx hb hts hown hK hH 0 (by decide) dX1_append_38 ?_
  refine lv_iload hx hb dX1_append_41 (lv_at hl 0 rfl) ?_
  refine lv_iconst (v := 3) hx hb dX1_append_43 (by decide) ?_
  refine lv_iadd hx hb dX1_append_44 ?_
  refine lv_iload hx hb dX1_append_45 (lv_at hl 5 rfl) ?_
  refine x_iastU hx hb hK hH hS 12 0 80 (by decide) (fun _ _ => rfl) (vin_room _ _ _ 3 (by decide) rfl) dX1_append_47 (fun H locs hH hS => ?_)
  refine lv_aload_n hx hb dX1_append_48 rfl (lv_at hl 1 rfl) ?_
  refine fgX1_9 hx hb hts hown hK hH 0 (by decide) dX1_append_49 ?_
  refine lv_iload hx hb dX1_append_52 (lv_at hl 0 rfl) ?_
  refine lv_iconst (v := 4) hx hb dX1_append_54 (by decide) ?_
  refine lv_iadd hx hb dX1_append_55 ?_
  refine lv_iload hx hb dX1_append_56 (lv_at hl 6 rfl) ?_
  refine x_iastU hx hb hK hH hS 12 0 80 (by decide) (fun _ _ => rfl) (vin_room _ _ _ 4 (by decide) rfl) dX1_append_58 (fun H locs hH hS => ?_)
  refine lv_aload_n hx hb dX1_append_59 rfl (lv_at hl 1 rfl) ?_
  refine lv_dup hx hb dX1_append_60 rfl ?_
  refine fgX1_15 hx hb hts hown hK hH 0 (by decide) dX1_append_61 ?_
  refine lv_iconst (v := 1) hx hb dX1_append_64 (by decide) ?_
  refine lv_iadd hx hb dX1_append_65 ?_
  refine fpX1_15 hx hb hts hown hK hH hS 0 (by decide) dX1_append_66 (fun H locs hH hS => ?_)
  exact e_vret hx hb hr hlk hK hH hS dX1_append_69 (congrArg (Ex cs b) (by simp only [f_X1_append]))
def f_X1_part (σ : St) (x : Int32) (w : Int32) : Int64 := (if x < 0 then 4294967296 else (if 16 ≤ x then 4294967296 else (if gI σ 11 0 1 ≤ x then 4294967296 else (if w < 0 then 4294967296 else (if w < 5 then (gI σ 12 0 ((f_X1_roomOf σ (((gI σ 11 0 1) - 1) - x)) + w).toNatClampNeg).toInt64 else 4294967296)))))
set_option maxRecDepth 100000 in
set_option maxHeartbeats 4000000 in
theorem k_X1_part (l : Launch) (D : va_G) (cs : Nat → ClassId) (b : Nat) (σ : St) (x : Int32) (w : Int32)  : Met l yX1_part (Cond.code yX1_part cX1_part 3 (some FieldType.long) :: T0) { frames := 1, cells := 0, slots := 0, locals := 20 } (Pe D (tyx cs) b 43 (Ex cs b σ) [.ref (b + xo 11 0), .int (x), .int (w)]) (Ql D (tyx cs) b 43 (Ex cs b σ) (f_X1_part σ x w)) 0 0 (fun a => b ≤ a) := by
  refine e_met (by decide) rfl (Nat.le_of_ble_eq_true rfl) (fun pg e s m below meth c ls hx hb hr hml hts0 hown hlk hnm hH hK hl hS => ?_)
  have hts : ∀ w ∈ T0, w.before _ s = true := fun w h => hts0 w (List.mem_cons_of_mem _ h)
  have hl : lv_has ls 3 [(0, .ref (b + xo 11 0)), (1, .int (x)), (2, .int (w))] := hl
  refine lv_iload_n hx hb dX1_part_0 rfl (lv_at hl 1 rfl) ?_
  refine lv_if_lt (tgt := 27) hx hb dX1_part_1 (by decide) (fun c_1_1 => ?_) (fun c_1_1 => ?_)
  ·
    refine lv_ldc2 hx hb hown (hts _ wK_X1_23) dX1_part_27 ?_
    exact e_lret hx hb hr hlk hK hH hS dX1_part_30 (by simp only [f_X1_part, if_pos c_1_1]) rfl
  ·
    refine lv_iload_n hx hb dX1_part_4 rfl (lv_at hl 1 rfl) ?_
    refine lv_bipush (v := 16) hx hb dX1_part_5 (by decide) ?_
    refine lv_icmp_ge (tgt := 27) hx hb dX1_part_7 (by decide) (fun c_7_2 => ?_) (fun c_7_2 => ?_)
    ·
      refine lv_ldc2 hx hb hown (hts _ wK_X1_23) dX1_part_27 ?_
      exact e_lret hx hb hr hlk hK hH hS dX1_part_30 (by simp only [f_X1_part, if_neg c_1_1, if_pos c_7_2]) rfl
    ·
      refine lv_iload_n hx hb dX1_part_10 rfl (lv_at hl 1 rfl) ?_
      refine lv_aload_n hx hb dX1_part_11 rfl (lv_at hl 0 rfl) ?_
      refine fgX1_15 hx hb hts hown hK hH 0 (by decide) dX1_part_12 ?_
      refine lv_icmp_ge (tgt := 27) hx hb dX1_part_15 (by decide) (fun c_15_3 => ?_) (fun c_15_3 => ?_)
      ·
        refine lv_ldc2 hx hb hown (hts _ wK_X1_23) dX1_part_27 ?_
        exact e_lret hx hb hr hlk hK hH hS dX1_part_30 (by simp only [f_X1_part, if_neg c_1_1, if_neg c_7_2, if_pos c_15_3]) rfl
      ·
        refine lv_iload_n hx hb dX1_part_18 rfl (lv_at hl 2 rfl) ?_
        refine lv_if_lt (tgt := 27) hx hb dX1_part_19 (by decide) (fun c_19_4 => ?_) (fun c_19_4 => ?_)
        ·
          refine lv_ldc2 hx hb hown (hts _ wK_X1_23) dX1_part_27 ?_
          exact e_lret hx hb hr hlk hK hH hS dX1_part_30 (by simp only [f_X1_part, if_neg c_1_1, if_neg c_7_2, if_neg c_15_3, if_pos c_19_4]) rfl
        ·
          refine lv_iload_n hx hb dX1_part_22 rfl (lv_at hl 2 rfl) ?_
          refine lv_iconst (v := 5) hx hb dX1_part_23 (by decide) ?_
          refine lv_icmp_lt (tgt := 31) hx hb dX1_part_24 (by decide) (fun c_24_5 => ?_) (fun c_24_5 => ?_)
          ·
            refine lv_aload_n hx hb dX1_part_31 rfl (lv_at hl 0 rfl) ?_
            refine fgX1_9 hx hb hts hown hK hH 0 (by decide) dX1_part_32 ?_
            refine lv_aload_n hx hb dX1_part_35 rfl (lv_at hl 0 rfl) ?_
            refine fgX1_15 hx hb hts hown hK hH 0 (by decide) dX1_part_36 ?_
            refine lv_iconst (v := 1) hx hb dX1_part_39 (by decide) ?_
            refine lv_isub hx hb dX1_part_40 ?_
            refine lv_iload_n hx hb dX1_part_41 rfl (lv_at hl 1 rfl) ?_
            refine lv_isub hx hb dX1_part_42 ?_
            refine e_ci (e_runS (As := [.int (((gI σ 11 0 1) - 1) - x)]) (rest := [.ref (b + xo 12 0)]) ⟨hx, hb, hml, hown, hts⟩ (k_X1_roomOf l D cs b σ (((gI σ 11 0 1) - 1) - x) ) ⟨callB_of 1 hts (gC wC_X1_roomOf) rfl rfl rfl (hts _ wi_X1) (hts _ wM_X1_19) (by decide +kernel) (by decide), hts _ wT_X1_roomOf⟩ hK hH rfl hl.1 rfl (Nat.le_of_ble_eq_true rfl) dX1_part_43 (by decide)) hS (fun H locs hH hS => ?_)
            refine lv_iload_n hx hb dX1_part_46 rfl (lv_at hl 2 rfl) ?_
            refine lv_iadd hx hb dX1_part_47 ?_
            refine x_ialdU hx hb hK hH 12 0 80 (by decide) rfl (vin_roomW _ _ _ (by assumption) (by assumption)) dX1_part_48 ?_
            refine lv_i2l (v := (gI σ 12 0 ((f_X1_roomOf σ (((gI σ 11 0 1) - 1) - x)) + w).toNatClampNeg).toInt64) hx hb dX1_part_49 rfl ?_
            exact e_lret hx hb hr hlk hK hH hS dX1_part_50 (by simp only [f_X1_part, if_neg c_1_1, if_neg c_7_2, if_neg c_15_3, if_neg c_19_4, if_pos c_24_5]) rfl
          ·
            refine lv_ldc2 hx hb hown (hts _ wK_X1_23) dX1_part_27 ?_
            exact e_lret hx hb hr hlk hK hH hS dX1_part_30 (by simp only [f_X1_part, if_neg c_1_1, if_neg c_7_2, if_neg c_15_3, if_neg c_19_4, if_neg c_24_5]) rfl
end
section
def f_X3_append (σ : St) (x : Int32) (y : Int32) : Int32 × St := (if gI σ 1 0 2 < 0 then ((-1), σ) else (if gI σ 1 0 2 < 40 then (gI σ 1 0 2, sI (sI (sI σ 2 0 (gI σ 1 0 2).toNatClampNeg x) 3 0 (gI σ 1 0 2).toNatClampNeg y) 1 0 2 ((gI σ 1 0 2) + 1)) else ((-1), σ)))
set_option maxRecDepth 100000 in
set_option maxHeartbeats 4000000 in
theorem k_X3_append (l : Launch) (D : va_G) (cs : Nat → ClassId) (b : Nat) (σ : St) (x : Int32) (y : Int32)  : Met l yX3_append (Cond.code yX3_append cX3_append 4 (some FieldType.int) :: T0) { frames := 0, cells := 0, slots := 0, locals := 0 } (Pe D (tyx cs) b 43 (Ex cs b σ) [.ref (b + xo 1 0), .int (x), .int (y)]) (Qi D (tyx cs) b 43 (Ex cs b (f_X3_append σ x y).2) (f_X3_append σ x y).1) 0 0 (fun a => b ≤ a) := by
  refine e_met (by decide) rfl (Nat.le_of_ble_eq_true rfl) (fun pg e s m below meth c ls hx hb hr hml hts0 hown hlk hnm hH hK hl hS => ?_)
  have hts : ∀ w ∈ T0, w.before _ s = true := fun w h => hts0 w (List.mem_cons_of_mem _ h)
  have hl : lv_has ls 4 [(0, .ref (b + xo 1 0)), (1, .int (x)), (2, .int (y))] := hl
  refine lv_aload_n hx hb dX3_append_0 rfl (lv_at hl 0 rfl) ?_
  refine fgX3_18 hx hb hts hown hK hH 0 (by decide) dX3_append_1 ?_
  refine lv_istore_n (lv' := [(3, .int (gI σ 1 0 2)), (0, .ref (b + xo 1 0)), (1, .int (x)), (2, .int (y))]) hx hb dX3_append_4 rfl hl (by decide) rfl (fun ls hl => ?_)
  refine lv_iload_n hx hb dX3_append_5 rfl (lv_at hl 0 rfl) ?_
  refine lv_if_lt (tgt := 15) hx hb dX3_append_6 (by decide) (fun c_6_1 => ?_) (fun c_6_1 => ?_)
  ·
    refine lv_iconst (v := (-1)) hx hb dX3_append_15 (by decide) ?_
    exact e_iret hx hb hr hlk hK hH hS dX3_append_16 (by simp only [f_X3_append, if_pos c_6_1]) (congrArg (Ex cs b) (by simp only [f_X3_append, if_pos c_6_1]))
  ·
    refine lv_iload_n hx hb dX3_append_9 rfl (lv_at hl 0 rfl) ?_
    refine lv_bipush (v := 40) hx hb dX3_append_10 (by decide) ?_
    refine lv_icmp_lt (tgt := 17) hx hb dX3_append_12 (by decide) (fun c_12_2 => ?_) (fun c_12_2 => ?_)
    ·
      refine lv_aload_n hx hb dX3_append_17 rfl (lv_at hl 1 rfl) ?_
      refine fgX3_9 hx hb hts hown hK hH 0 (by decide) dX3_append_18 ?_
      refine lv_iload_n hx hb dX3_append_21 rfl (lv_at hl 0 rfl) ?_
      refine lv_iload_n hx hb dX3_append_22 rfl (lv_at hl 2 rfl) ?_
      refine x_iastU hx hb hK hH hS 2 0 40 (by decide) (fun _ _ => rfl) (vin_lt 40 (by assumption) (by assumption) (by decide)) dX3_append_23 (fun H locs hH hS => ?_)
      refine lv_aload_n hx hb dX3_append_24 rfl (lv_at hl 1 rfl) ?_
      refine fgX3_15 hx hb hts hown hK hH 0 (by decide) dX3_append_25 ?_
      refine lv_iload_n hx hb dX3_append_28 rfl (lv_at hl 0 rfl) ?_
      refine lv_iload_n hx hb dX3_append_29 rfl (lv_at hl 3 rfl) ?_
      refine x_iastU hx hb hK hH hS 3 0 40 (by decide) (fun _ _ => rfl) (vin_lt 40 (by assumption) (by assumption) (by decide)) dX3_append_30 (fun H locs hH hS => ?_)
      refine lv_aload_n hx hb dX3_append_31 rfl (lv_at hl 1 rfl) ?_
      refine lv_iload_n hx hb dX3_append_32 rfl (lv_at hl 0 rfl) ?_
      refine lv_iconst (v := 1) hx hb dX3_append_33 (by decide) ?_
      refine lv_iadd hx hb dX3_append_34 ?_
      refine fpX3_18 hx hb hts hown hK hH hS 0 (by decide) dX3_append_35 (fun H locs hH hS => ?_)
      refine lv_iload_n hx hb dX3_append_38 rfl (lv_at hl 0 rfl) ?_
      exact e_iret hx hb hr hlk hK hH hS dX3_append_39 (by simp only [f_X3_append, if_neg c_6_1, if_pos c_12_2]) (congrArg (Ex cs b) (by simp only [f_X3_append, if_neg c_6_1, if_pos c_12_2]))
    ·
      refine lv_iconst (v := (-1)) hx hb dX3_append_15 (by decide) ?_
      exact e_iret hx hb hr hlk hK hH hS dX3_append_16 (by simp only [f_X3_append, if_neg c_6_1, if_neg c_12_2]) (congrArg (Ex cs b) (by simp only [f_X3_append, if_neg c_6_1, if_neg c_12_2]))
def f_X3_holds (σ : St) (x : Int32) : Int32 := (if x < 0 then 0 else (if gI σ 1 0 2 ≤ x then 0 else (if 40 ≤ x then 0 else 1)))
set_option maxRecDepth 100000 in
set_option maxHeartbeats 4000000 in
theorem k_X3_holds (l : Launch) (D : va_G) (cs : Nat → ClassId) (b : Nat) (σ : St) (x : Int32)  : Met l yX3_holds (Cond.code yX3_holds cX3_holds 2 (some FieldType.boolean) :: T0) { frames := 0, cells := 0, slots := 0, locals := 0 } (Pe D (tyx cs) b 43 (Ex cs b σ) [.ref (b + xo 1 0), .int (x)]) (Qi D (tyx cs) b 43 (Ex cs b σ) (f_X3_holds σ x)) 0 0 (fun a => b ≤ a) := by
  refine e_met (by decide) rfl (Nat.le_of_ble_eq_true rfl) (fun pg e s m below meth c ls hx hb hr hml hts0 hown hlk hnm hH hK hl hS => ?_)
  have hts : ∀ w ∈ T0, w.before _ s = true := fun w h => hts0 w (List.mem_cons_of_mem _ h)
  have hl : lv_has ls 2 [(0, .ref (b + xo 1 0)), (1, .int (x))] := hl
  refine lv_iload_n hx hb dX3_holds_0 rfl (lv_at hl 1 rfl) ?_
  refine lv_if_lt (tgt := 22) hx hb dX3_holds_1 (by decide) (fun c_1_1 => ?_) (fun c_1_1 => ?_)
  ·
    refine lv_iconst (v := 0) hx hb dX3_holds_22 (by decide) ?_
    exact e_zret hx hb hr hlk hK hH hS dX3_holds_23 (by rfl) (by simp only [f_X3_holds, if_pos c_1_1]) rfl
  ·
    refine lv_iload_n hx hb dX3_holds_4 rfl (lv_at hl 1 rfl) ?_
    refine lv_aload_n hx hb dX3_holds_5 rfl (lv_at hl 0 rfl) ?_
    refine fgX3_18 hx hb hts hown hK hH 0 (by decide) dX3_holds_6 ?_
    refine lv_icmp_ge (tgt := 22) hx hb dX3_holds_9 (by decide) (fun c_9_2 => ?_) (fun c_9_2 => ?_)
    ·
      refine lv_iconst (v := 0) hx hb dX3_holds_22 (by decide) ?_
      exact e_zret hx hb hr hlk hK hH hS dX3_holds_23 (by rfl) (by simp only [f_X3_holds, if_neg c_1_1, if_pos c_9_2]) rfl
    ·
      refine lv_iload_n hx hb dX3_holds_12 rfl (lv_at hl 1 rfl) ?_
      refine lv_bipush (v := 40) hx hb dX3_holds_13 (by decide) ?_
      refine lv_icmp_ge (tgt := 22) hx hb dX3_holds_15 (by decide) (fun c_15_3 => ?_) (fun c_15_3 => ?_)
      ·
        refine lv_iconst (v := 0) hx hb dX3_holds_22 (by decide) ?_
        exact e_zret hx hb hr hlk hK hH hS dX3_holds_23 (by rfl) (by simp only [f_X3_holds, if_neg c_1_1, if_neg c_9_2, if_pos c_15_3]) rfl
      ·
        refine lv_iconst (v := 1) hx hb dX3_holds_18 (by decide) ?_
        refine lv_goto (tgt := 23) hx hb dX3_holds_19 (by decide) ?_
        exact e_zret hx hb hr hlk hK hH hS dX3_holds_23 (by rfl) (by simp only [f_X3_holds, if_neg c_1_1, if_neg c_9_2, if_neg c_15_3]) rfl
theorem vin_holds {σ : St} {x : Int32} (h : ¬ f_X3_holds σ x = 0) : vp_in x 40 := by
  unfold f_X3_holds at h
  split at h
  · exact absurd rfl h
  · split at h
    · exact absurd rfl h
    · split at h
      · exact absurd rfl h
      · exact vin_nle 40 (by assumption) (by assumption) (by decide)
def f_X3_opAt (σ : St) (x : Int32) : Int32 := (if f_X3_holds σ x = 0 then 0 else gI σ 2 0 x.toNatClampNeg)
set_option maxRecDepth 100000 in
set_option maxHeartbeats 4000000 in
theorem k_X3_opAt (l : Launch) (D : va_G) (cs : Nat → ClassId) (b : Nat) (σ : St) (x : Int32)  : Met l yX3_opAt (Cond.code yX3_opAt cX3_opAt 2 (some FieldType.int) :: T0) { frames := 1, cells := 0, slots := 0, locals := 21 } (Pe D (tyx cs) b 43 (Ex cs b σ) [.ref (b + xo 1 0), .int (x)]) (Qi D (tyx cs) b 43 (Ex cs b σ) (f_X3_opAt σ x)) 0 0 (fun a => b ≤ a) := by
  refine e_met (by decide) rfl (Nat.le_of_ble_eq_true rfl) (fun pg e s m below meth c ls hx hb hr hml hts0 hown hlk hnm hH hK hl hS => ?_)
  have hts : ∀ w ∈ T0, w.before _ s = true := fun w h => hts0 w (List.mem_cons_of_mem _ h)
  have hl : lv_has ls 2 [(0, .ref (b + xo 1 0)), (1, .int (x))] := hl
  refine lv_aload_n hx hb dX3_opAt_0 rfl (lv_at hl 0 rfl) ?_
  refine lv_iload_n hx hb dX3_opAt_1 rfl (lv_at hl 1 rfl) ?_
  refine e_ci (e_runV (C := RX3) (ci := 3) (As := [.int (x)]) (rest := []) ⟨hx, hb, hml, hown, hts⟩ (k_X3_holds l D cs b σ x ) ⟨callB_of 1 hts (gC wC_X3_holds) rfl rfl rfl (hts _ wi_X3) (hts _ wM_X3_22) (by decide +kernel) (by decide), hts _ wN_X3_holds, hts _ wS_X3_holds⟩ hK hH (xo_ok (by decide)).2.2 (Ex_at cs b σ (by decide)) rfl rfl rfl hl.1 rfl (Nat.le_of_ble_eq_true rfl) dX3_opAt_2 (by decide)) hS (fun H locs hH hS => ?_)
  refine lv_if_eq (tgt := 17) hx hb dX3_opAt_5 (by decide) (fun c_5_1 => ?_) (fun c_5_1 => ?_)
  ·
    refine lv_iconst (v := 0) hx hb dX3_opAt_17 (by decide) ?_
    exact e_iret hx hb hr hlk hK hH hS dX3_opAt_18 (by simp only [f_X3_opAt, if_pos c_5_1]) rfl
  ·
    refine lv_aload_n hx hb dX3_opAt_8 rfl (lv_at hl 0 rfl) ?_
    refine fgX3_9 hx hb hts hown hK hH 0 (by decide) dX3_opAt_9 ?_
    refine lv_iload_n hx hb dX3_opAt_12 rfl (lv_at hl 1 rfl) ?_
    refine x_ialdU hx hb hK hH 2 0 40 (by decide) rfl (vin_holds (by assumption)) dX3_opAt_13 ?_
    refine lv_goto (tgt := 18) hx hb dX3_opAt_14 (by decide) ?_
    exact e_iret hx hb hr hlk hK hH hS dX3_opAt_18 (by simp only [f_X3_opAt, if_neg c_5_1]) rfl
def f_X3_operandAt (σ : St) (x : Int32) : Int32 := (if f_X3_holds σ x = 0 then 0 else gI σ 3 0 x.toNatClampNeg)
set_option maxRecDepth 100000 in
set_option maxHeartbeats 4000000 in
theorem k_X3_operandAt (l : Launch) (D : va_G) (cs : Nat → ClassId) (b : Nat) (σ : St) (x : Int32)  : Met l yX3_operandAt (Cond.code yX3_operandAt cX3_operandAt 2 (some FieldType.int) :: T0) { frames := 1, cells := 0, slots := 0, locals := 21 } (Pe D (tyx cs) b 43 (Ex cs b σ) [.ref (b + xo 1 0), .int (x)]) (Qi D (tyx cs) b 43 (Ex cs b σ) (f_X3_operandAt σ x)) 0 0 (fun a => b ≤ a) := by
  refine e_met (by decide) rfl (Nat.le_of_ble_eq_true rfl) (fun pg e s m below meth c ls hx hb hr hml hts0 hown hlk hnm hH hK hl hS => ?_)
  have hts : ∀ w ∈ T0, w.before _ s = true := fun w h => hts0 w (List.mem_cons_of_mem _ h)
  have hl : lv_has ls 2 [(0, .ref (b + xo 1 0)), (1, .int (x))] := hl
  refine lv_aload_n hx hb dX3_operandAt_0 rfl (lv_at hl 0 rfl) ?_
  refine lv_iload_n hx hb dX3_operandAt_1 rfl (lv_at hl 1 rfl) ?_
  refine e_ci (e_runV (C := RX3) (ci := 3) (As := [.int (x)]) (rest := []) ⟨hx, hb, hml, hown, hts⟩ (k_X3_holds l D cs b σ x ) ⟨callB_of 1 hts (gC wC_X3_holds) rfl rfl rfl (hts _ wi_X3) (hts _ wM_X3_22) (by decide +kernel) (by decide), hts _ wN_X3_holds, hts _ wS_X3_holds⟩ hK hH (xo_ok (by decide)).2.2 (Ex_at cs b σ (by decide)) rfl rfl rfl hl.1 rfl (Nat.le_of_ble_eq_true rfl) dX3_operandAt_2 (by decide)) hS (fun H locs hH hS => ?_)
  refine lv_if_eq (tgt := 17) hx hb dX3_operandAt_5 (by decide) (fun c_5_1 => ?_) (fun c_5_1 => ?_)
  ·
    refine lv_iconst (v := 0) hx hb dX3_operandAt_17 (by decide) ?_
    exact e_iret hx hb hr hlk hK hH hS dX3_operandAt_18 (by simp only [f_X3_operandAt, if_pos c_5_1]) rfl
  ·
    refine lv_aload_n hx hb dX3_operandAt_8 rfl (lv_at hl 0 rfl) ?_
    refine fgX3_15 hx hb hts hown hK hH 0 (by decide) dX3_operandAt_9 ?_
    refine lv_iload_n hx hb dX3_operandAt_12 rfl (lv_at hl 1 rfl) ?_
    refine x_ialdU hx hb hK hH 3 0 40 (by decide) rfl (vin_holds (by assumption)) dX3_operandAt_13 ?_
    refine lv_goto (tgt := 18) hx hb dX3_operandAt_14 (by decide) ?_
    exact e_iret hx hb hr hlk hK hH hS dX3_operandAt_18 (by simp only [f_X3_operandAt, if_neg c_5_1]) rfl
end
section
def zN (σ : St) (r : Nat) : Nat := (gI σ 9 r 1).toNatClampNeg
def okR (σ : St) (r : Nat) : Prop := gI σ 9 r 1 = nI (zN σ r) ∧ zN σ r ≤ 8 ∧ ∀ j p, gR σ 10 r j = some p → p < 8
theorem vin_sz {σ : St} {r : Nat} {x : Int32} (h0 : ¬ x < 0) (h : ¬ gI σ 9 r 1 ≤ x) (hk : okR σ r) : vp_in x 8 := by
  rw [hk.1] at h
  have h1 := vin_nle (zN σ r) h0 h (by have := hk.2.1; omega)
  have h2 := cl_of h1
  have h3 := cl_lt h1
  have := hk.2.1
  rw [h2]
  exact vp_in_nI (by omega) (by decide)
theorem szpos {σ : St} {r : Nat} (h : 0 < gI σ 9 r 1) (hk : okR σ r) : 0 < zN σ r := by
  rcases Nat.eq_zero_or_pos (zN σ r) with q | q
  · rw [hk.1, q] at h; exact absurd h (by decide)
  · exact q
def f_X4_clear (σ : St) (r : Nat) : St := sI σ 9 r 1 0
set_option maxRecDepth 100000 in
set_option maxHeartbeats 4000000 in
theorem k_X4_clear (l : Launch) (D : va_G) (cs : Nat → ClassId) (b : Nat) (σ : St) (r : Nat) (hr2 : r < 2) : Met l yX4_clear (Cond.code yX4_clear cX4_clear 1 (none : Option FieldType) :: T0) { frames := 0, cells := 0, slots := 0, locals := 0 } (Pe D (tyx cs) b 43 (Ex cs b σ) [.ref (b + xo 9 r)]) (Qv D (tyx cs) b 43 (Ex cs b (f_X4_clear σ r))) 0 0 (fun a => b ≤ a) := by
  refine e_met (by decide) rfl (Nat.le_of_ble_eq_true rfl) (fun pg e s m below meth c ls hx hb hr hml hts0 hown hlk hnm hH hK hl hS => ?_)
  have hts : ∀ w ∈ T0, w.before _ s = true := fun w h => hts0 w (List.mem_cons_of_mem _ h)
  have hl : lv_has ls 1 [(0, .ref (b + xo 9 r))] := hl
  refine lv_aload_n hx hb dX4_clear_0 rfl (lv_at hl 0 rfl) ?_
  refine lv_iconst (v := 0) hx hb dX4_clear_1 (by decide) ?_
  refine fpX4_17 hx hb hts hown hK hH hS r (show r < 2 by first | assumption | omega) dX4_clear_2 (fun H locs hH hS => ?_)
  exact e_vret hx hb hr hlk hK hH hS dX4_clear_5 (congrArg (Ex cs b) (by simp only [f_X4_clear]))
def f_X4_putLast (σ : St) (r : Nat) (q : Nat) : St := (if gI σ 9 r 1 < 0 then σ else (if 8 ≤ gI σ 9 r 1 then σ else sI (sR σ 10 r (((gI σ 9 r 1).toNatClampNeg)) (some q)) 9 r 1 ((gI (sR σ 10 r (((gI σ 9 r 1).toNatClampNeg)) (some q)) 9 r 1) + 1)))
set_option maxRecDepth 100000 in
set_option maxHeartbeats 4000000 in
theorem k_X4_putLast (l : Launch) (D : va_G) (cs : Nat → ClassId) (b : Nat) (σ : St) (r : Nat) (q : Nat) (hr2 : r < 2) (hq : q < 8) : Met l yX4_putLast (Cond.code yX4_putLast cX4_putLast 2 (none : Option FieldType) :: T0) { frames := 0, cells := 0, slots := 0, locals := 0 } (Pe D (tyx cs) b 43 (Ex cs b σ) [.ref (b + xo 9 r), .ref (b + xo 5 q)]) (Qv D (tyx cs) b 43 (Ex cs b (f_X4_putLast σ r q))) 0 0 (fun a => b ≤ a) := by
  refine e_met (by decide) rfl (Nat.le_of_ble_eq_true rfl) (fun pg e s m below meth c ls hx hb hr hml hts0 hown hlk hnm hH hK hl hS => ?_)
  have hts : ∀ w ∈ T0, w.before _ s = true := fun w h => hts0 w (List.mem_cons_of_mem _ h)
  have hl : lv_has ls 2 [(0, .ref (b + xo 9 r)), (1, .ref (b + xo 5 q))] := hl
  refine lv_aload_n hx hb dX4_putLast_0 rfl (lv_at hl 0 rfl) ?_
  refine fgX4_17 hx hb hts hown hK hH r (show r < 2 by first | assumption | omega) dX4_putLast_1 ?_
  refine lv_if_lt (tgt := 36) hx hb dX4_putLast_4 (by decide) (fun c_4_1 => ?_) (fun c_4_1 => ?_)
  ·
    exact e_vret hx hb hr hlk hK hH hS dX4_putLast_36 (congrArg (Ex cs b) (by simp only [f_X4_putLast, if_pos c_4_1]))
  ·
    refine lv_aload_n hx hb dX4_putLast_7 rfl (lv_at hl 0 rfl) ?_
    refine fgX4_17 hx hb hts hown hK hH r (show r < 2 by first | assumption | omega) dX4_putLast_8 ?_
    refine lv_bipush (v := 8) hx hb dX4_putLast_11 (by decide) ?_
    refine lv_icmp_ge (tgt := 36) hx hb dX4_putLast_13 (by decide) (fun c_13_2 => ?_) (fun c_13_2 => ?_)
    ·
      exact e_vret hx hb hr hlk hK hH hS dX4_putLast_36 (congrArg (Ex cs b) (by simp only [f_X4_putLast, if_neg c_4_1, if_pos c_13_2]))
    ·
      refine lv_aload_n hx hb dX4_putLast_16 rfl (lv_at hl 0 rfl) ?_
      refine fgX4_11 hx hb hts hown hK hH r (show r < 2 by first | assumption | omega) dX4_putLast_17 ?_
      refine lv_aload_n hx hb dX4_putLast_20 rfl (lv_at hl 0 rfl) ?_
      refine fgX4_17 hx hb hts hown hK hH r (show r < 2 by first | assumption | omega) dX4_putLast_21 ?_
      refine lv_aload_n hx hb dX4_putLast_24 rfl (lv_at hl 1 rfl) ?_
      refine x_membS hx hb hK hH hS r (show r < 2 by first | assumption | omega) (((gI σ 9 r 1).toNatClampNeg)) ((cl_of (vin_nle 8 (by assumption) (by assumption) (by decide)))) (cl_lt (vin_nle 8 (by assumption) (by assumption) (by decide))) (some q) (fun _ h => by cases h; first | assumption | omega) rfl dX4_putLast_25 (fun H locs hH hS => ?_)
      refine lv_aload_n hx hb dX4_putLast_26 rfl (lv_at hl 0 rfl) ?_
      refine lv_dup hx hb dX4_putLast_27 rfl ?_
      refine fgX4_17 hx hb hts hown hK hH r (show r < 2 by first | assumption | omega) dX4_putLast_28 ?_
      refine lv_iconst (v := 1) hx hb dX4_putLast_31 (by decide) ?_
      refine lv_iadd hx hb dX4_putLast_32 ?_
      refine fpX4_17 hx hb hts hown hK hH hS r (show r < 2 by first | assumption | omega) dX4_putLast_33 (fun H locs hH hS => ?_)
      exact e_vret hx hb hr hlk hK hH hS dX4_putLast_36 (congrArg (Ex cs b) (by simp only [f_X4_putLast, if_neg c_4_1, if_neg c_13_2]))
def lp_X4_putFirst_14 (r : Nat) (q : Nat) : Nat → St → Nat → St
  | 0, σ, _ => σ
  | n + 1, σ, j => (if nI j ≤ 0 then σ else lp_X4_putFirst_14 r q n (sR σ 10 r j (gR σ 10 r (j - 1))) ((j - 1)))
def f_X4_putFirst (σ : St) (r : Nat) (q : Nat) : St := (if 8 ≤ gI σ 9 r 1 then σ else sI (sR (lp_X4_putFirst_14 r q 9 σ (zN σ r)) 10 r 0 (some q)) 9 r 1 ((gI (sR (lp_X4_putFirst_14 r q 9 σ (zN σ r)) 10 r 0 (some q)) 9 r 1) + 1))
set_option maxRecDepth 100000 in
set_option maxHeartbeats 4000000 in
theorem w_X4_putFirst_14 {l : Launch} {D : va_G} {cs : Nat → ClassId} {b : Nat} {pg : Program} {e : Env} {s : State} {m : MethodId} {below : List Frame} {meth : Method} {c : Code} (r : Nat) (q : Nat)  (hr2 : r < 2) (hq : q < 8) (hx : pg.tables.exec = Jvm.exec) (hb : c.code = cX4_putFirst) (hml : c.maxLocals = 3) {args : Array Value} {H0 : Heap} {Q : State → Prop} (hts : ∀ w ∈ T0, w.before args s = true) (hown : s.vm.findClass RX4 = some m.cls) (hK : va_K D vwCl (tyx cs) s) : ∀ (n : Nat) (σ : St) (j : Nat), j < n → j < 8 → (∀ a p, gR σ 10 r a = some p → p < 8) → ∀ (H : Heap) (locs : List Loc) (ls : Array Slot), (∀ (H : Heap) (locs : List Loc) (ls : Array Slot), He D b 43 (Ex cs b (lp_X4_putFirst_14 r q n σ j)) H → va_S (fun a => b ≤ a) H0 H locs → lv_has ls 3 [(0, .ref (b + xo 9 r)), (1, .ref (b + xo 5 q))] → W pg l e { frames := 0, cells := 0, slots := 0, locals := 0 } s m args below meth c H locs 0 0 Q (F0 m 38 ls [])) → He D b 43 (Ex cs b σ) H → va_S (fun a => b ≤ a) H0 H locs → lv_has ls 3 [(0, .ref (b + xo 9 r)), (1, .ref (b + xo 5 q)), (2, .int (nI j))] → W pg l e { frames := 0, cells := 0, slots := 0, locals := 0 } s m args below meth c H locs 0 0 Q (F0 m 14 ls []) := by
  intro n
  induction n with
  | zero =>
    intro σ j h0 h1 h2
    exact absurd h0 (by omega)
  | succ n ih =>
    intro σ j h0 h1 h2 H locs ls kk hH hS hl
    refine lv_iload_n hx hb dX4_putFirst_14 rfl (lv_at hl 2 rfl) ?_
    refine lv_if_le (tgt := 38) hx hb dX4_putFirst_15 (by decide) (fun c_15_1 => ?_) (fun c_15_1 => ?_)
    ·
      have e_ : lp_X4_putFirst_14 r q (n + 1) σ j = σ := by simp only [lp_X4_putFirst_14, if_pos c_15_1]
      rw [e_] at kk
      exact kk _ _ _ hH hS (lv_sub hl [0, 1] rfl)
    ·
      have hj0 := npos (by assumption)
      refine lv_aload_n hx hb dX4_putFirst_18 rfl (lv_at hl 0 rfl) ?_
      refine fgX4_11 hx hb hts hown hK hH r (show r < 2 by first | assumption | omega) dX4_putFirst_19 ?_
      refine lv_iload_n hx hb dX4_putFirst_22 rfl (lv_at hl 2 rfl) ?_
      refine lv_aload_n hx hb dX4_putFirst_23 rfl (lv_at hl 0 rfl) ?_
      refine fgX4_11 hx hb hts hown hK hH r (show r < 2 by first | assumption | omega) dX4_putFirst_24 ?_
      refine lv_iload_n hx hb dX4_putFirst_27 rfl (lv_at hl 2 rfl) ?_
      refine lv_iconst (v := 1) hx hb dX4_putFirst_28 (by decide) ?_
      refine lv_isub hx hb dX4_putFirst_29 ?_
      refine x_memb hx hb hK hH r (show r < 2 by first | assumption | omega) (j - 1) ((tagP rfl (by omega))) (by omega) dX4_putFirst_30 ?_
      refine x_membS hx hb hK hH hS r (show r < 2 by first | assumption | omega) j rfl (by omega) (gR σ 10 r (j - 1)) (fun p h => h2 _ p h) rfl dX4_putFirst_31 (fun H locs hH hS => ?_)
      refine lv_iinc (v := nI (j - 1)) (lv' := [(2, .int (nI (j - 1))), (0, .ref (b + xo 9 r)), (1, .ref (b + xo 5 q))]) hx hb dX4_putFirst_32 hl (k := 2) rfl (tagD (by omega)) (by decide) rfl (fun ls hl => ?_)
      refine lv_goto (tgt := 14) hx hb dX4_putFirst_35 (by decide) ?_
      have e_ : lp_X4_putFirst_14 r q (n + 1) σ j = lp_X4_putFirst_14 r q n (sR σ 10 r j (gR σ 10 r (j - 1))) ((j - 1)) := by simp only [lp_X4_putFirst_14, if_neg c_15_1]
      rw [e_] at kk
      exact ih (sR σ 10 r j (gR σ 10 r (j - 1))) ((j - 1)) (by omega) (by omega) (fun a p h => by rw [gR_sR] at h; split at h <;> exact h2 _ _ h) _ _ _ kk hH hS (lv_sub hl [1, 2, 0] rfl)
set_option maxRecDepth 100000 in
set_option maxHeartbeats 4000000 in
theorem k_X4_putFirst (l : Launch) (D : va_G) (cs : Nat → ClassId) (b : Nat) (σ : St) (r : Nat) (q : Nat) (hr2 : r < 2) (hq : q < 8) (ho : okR σ r) : Met l yX4_putFirst (Cond.code yX4_putFirst cX4_putFirst 3 (none : Option FieldType) :: T0) { frames := 0, cells := 0, slots := 0, locals := 0 } (Pe D (tyx cs) b 43 (Ex cs b σ) [.ref (b + xo 9 r), .ref (b + xo 5 q)]) (Qv D (tyx cs) b 43 (Ex cs b (f_X4_putFirst σ r q))) 0 0 (fun a => b ≤ a) := by
  refine e_met (by decide) rfl (Nat.le_of_ble_eq_true rfl) (fun pg e s m below meth c ls hx hb hr hml hts0 hown hlk hnm hH hK hl hS => ?_)
  have hts : ∀ w ∈ T0, w.before _ s = true := fun w h => hts0 w (List.mem_cons_of_mem _ h)
  have hl : lv_has ls 3 [(0, .ref (b + xo 9 r)), (1, .ref (b + xo 5 q))] := hl
  refine lv_aload_n hx hb dX4_putFirst_0 rfl (lv_at hl 0 rfl) ?_
  refine fgX4_17 hx hb hts hown hK hH r (show r < 2 by first | assumption | omega) dX4_putFirst_1 ?_
  refine lv_bipush (v := 8) hx hb dX4_putFirst_4 (by decide) ?_
  refine lv_icmp_ge (tgt := 55) hx hb dX4_putFirst_6 (by decide) (fun c_6_2 => ?_) (fun c_6_2 => ?_)
  ·
    exact e_vret hx hb hr hlk hK hH hS dX4_putFirst_55 (congrArg (Ex cs b) (by simp only [f_X4_putFirst, if_pos c_6_2]))
  ·
    have hz8 : zN σ r < 8 := ngt_8 (by have := ho.2.1; omega) 8 (by decide) (by rw [← ho.1]; assumption)
    refine lv_aload_n hx hb dX4_putFirst_9 rfl (lv_at hl 0 rfl) ?_
    refine fgX4_17 hx hb hts hown hK hH r (show r < 2 by first | assumption | omega) dX4_putFirst_10 ?_
    rw [ho.1]
    refine lv_istore_n (lv' := [(2, .int (nI (zN σ r))), (0, .ref (b + xo 9 r)), (1, .ref (b + xo 5 q))]) hx hb dX4_putFirst_13 rfl hl (by decide) rfl (fun ls hl => ?_)
    refine w_X4_putFirst_14 r q hr2 hq hx hb hml hts hown hK 9 σ (zN σ r) (by omega) (by omega) ho.2.2 _ _ _ (fun H locs ls hH hS hl => ?_) hH hS (lv_sub hl [1, 2, 0] rfl)
    refine lv_aload_n hx hb dX4_putFirst_38 rfl (lv_at hl 0 rfl) ?_
    refine fgX4_11 hx hb hts hown hK hH r (show r < 2 by first | assumption | omega) dX4_putFirst_39 ?_
    refine lv_iconst (v := 0) hx hb dX4_putFirst_42 (by decide) ?_
    refine lv_aload_n hx hb dX4_putFirst_43 rfl (lv_at hl 1 rfl) ?_
    refine x_membS hx hb hK hH hS r (show r < 2 by first | assumption | omega) 0 ((rfl : (0 : Int32) = nI 0)) (by omega) (some q) (fun _ h => by cases h; first | assumption | omega) rfl dX4_putFirst_44 (fun H locs hH hS => ?_)
    refine lv_aload_n hx hb dX4_putFirst_45 rfl (lv_at hl 0 rfl) ?_
    refine lv_dup hx hb dX4_putFirst_46 rfl ?_
    refine fgX4_17 hx hb hts hown hK hH r (show r < 2 by first | assumption | omega) dX4_putFirst_47 ?_
    refine lv_iconst (v := 1) hx hb dX4_putFirst_50 (by decide) ?_
    refine lv_iadd hx hb dX4_putFirst_51 ?_
    refine fpX4_17 hx hb hts hown hK hH hS r (show r < 2 by first | assumption | omega) dX4_putFirst_52 (fun H locs hH hS => ?_)
    exact e_vret hx hb hr hlk hK hH hS dX4_putFirst_55 (congrArg (Ex cs b) (by simp only [f_X4_putFirst, if_neg c_6_2]))
theorem zN_dec0 {σ : St} {r : Nat} (h0 : 0 < zN σ r) (hk : okR σ r) : gI (sI σ 9 r 1 (gI σ 9 r 1 - 1)) 9 r 1 = nI (zN σ r - 1) := by
  rw [gI_sI, if_pos ⟨rfl, rfl, rfl⟩]
  exact tagP hk.1 h0
theorem zN_dec1 {σ : St} {r : Nat} (h0 : 0 < zN σ r) (hk : okR σ r) : zN (sI σ 9 r 1 (gI σ 9 r 1 - 1)) r = zN σ r - 1 := by
  have := hk.2.1
  unfold zN
  rw [zN_dec0 h0 hk, nI_clamp (by omega)]
  rfl
theorem zN_dec {σ : St} {r : Nat} (h0 : 0 < zN σ r) (hk : okR σ r) : zN (sI σ 9 r 1 (gI σ 9 r 1 - 1)) r < 8 := by
  have := hk.2.1
  rw [zN_dec1 h0 hk]; omega
theorem okR_dec {σ : St} {r : Nat} (h0 : 0 < zN σ r) (hk : okR σ r) : okR (sI σ 9 r 1 (gI σ 9 r 1 - 1)) r := by
  have := hk.2.1
  exact ⟨by rw [zN_dec0 h0 hk, zN_dec1 h0 hk], by rw [zN_dec1 h0 hk]; omega, hk.2.2⟩
def lp_X4_takeFirst_28 (r : Nat) : Nat → St → Nat → St
  | 0, σ, _ => σ
  | n + 1, σ, j => (if gI σ 9 r 1 ≤ nI j then σ else lp_X4_takeFirst_28 r n (sR σ 10 r j (gR σ 10 r (j + 1))) ((j + 1)))
def f_X4_takeFirst (σ : St) (r : Nat) : Option Nat × St := (if 0 < gI σ 9 r 1 then (oC (gR σ 10 r 0) ((none, lp_X4_takeFirst_28 r 9 (sI σ 9 r 1 ((gI σ 9 r 1) - 1)) 0)) (fun q14_3 => (some q14_3, lp_X4_takeFirst_28 r 9 (sI σ 9 r 1 ((gI σ 9 r 1) - 1)) 0))) else (none, σ))
set_option maxRecDepth 100000 in
set_option maxHeartbeats 4000000 in
theorem w_X4_takeFirst_28 {l : Launch} {D : va_G} {cs : Nat → ClassId} {b : Nat} {pg : Program} {e : Env} {s : State} {m : MethodId} {below : List Frame} {meth : Method} {c : Code} (r : Nat) (v1 : Value) (h_v1 : v1.category = 1) (hr2 : r < 2) (hx : pg.tables.exec = Jvm.exec) (hb : c.code = cX4_takeFirst) (hml : c.maxLocals = 3) {args : Array Value} {H0 : Heap} {Q : State → Prop} (hts : ∀ w ∈ T0, w.before args s = true) (hown : s.vm.findClass RX4 = some m.cls) (hK : va_K D vwCl (tyx cs) s) : ∀ (n : Nat) (σ : St) (j : Nat), 8 < j + n → okR σ r → zN σ r < 8 → j ≤ zN σ r → ∀ (H : Heap) (locs : List Loc) (ls : Array Slot), (∀ (H : Heap) (locs : List Loc) (ls : Array Slot), He D b 43 (Ex cs b (lp_X4_takeFirst_28 r n σ j)) H → va_S (fun a => b ≤ a) H0 H locs → lv_has ls 3 [(0, .ref (b + xo 9 r)), (1, v1)] → W pg l e { frames := 0, cells := 0, slots := 0, locals := 0 } s m args below meth c H locs 0 0 Q (F0 m 56 ls [])) → He D b 43 (Ex cs b σ) H → va_S (fun a => b ≤ a) H0 H locs → lv_has ls 3 [(0, .ref (b + xo 9 r)), (1, v1), (2, .int (nI j))] → W pg l e { frames := 0, cells := 0, slots := 0, locals := 0 } s m args below meth c H locs 0 0 Q (F0 m 28 ls []) := by
  intro n
  induction n with
  | zero =>
    intro σ j h0 h1 h2 h3
    exact absurd h0 (by omega)
  | succ n ih =>
    intro σ j h0 h1 h2 h3 H locs ls kk hH hS hl
    refine lv_iload_n hx hb dX4_takeFirst_28 rfl (lv_at hl 2 rfl) ?_
    refine lv_aload_n hx hb dX4_takeFirst_29 rfl (lv_at hl 0 rfl) ?_
    refine fgX4_17 hx hb hts hown hK hH r (show r < 2 by first | assumption | omega) dX4_takeFirst_30 ?_
    refine lv_icmp_ge (tgt := 56) hx hb dX4_takeFirst_33 (by decide) (fun c_33_1 => ?_) (fun c_33_1 => ?_)
    ·
      have e_ : lp_X4_takeFirst_28 r (n + 1) σ j = σ := by simp only [lp_X4_takeFirst_28, if_pos c_33_1]
      rw [e_] at kk
      exact kk _ _ _ hH hS (lv_sub hl [0, 1] rfl)
    ·
      have hjz : j < zN σ r := ngt_8 (by omega) _ (by omega) (by rw [← h1.1]; assumption)
      refine lv_aload_n hx hb dX4_takeFirst_36 rfl (lv_at hl 0 rfl) ?_
      refine fgX4_11 hx hb hts hown hK hH r (show r < 2 by first | assumption | omega) dX4_takeFirst_37 ?_
      refine lv_iload_n hx hb dX4_takeFirst_40 rfl (lv_at hl 2 rfl) ?_
      refine lv_aload_n hx hb dX4_takeFirst_41 rfl (lv_at hl 0 rfl) ?_
      refine fgX4_11 hx hb hts hown hK hH r (show r < 2 by first | assumption | omega) dX4_takeFirst_42 ?_
      refine lv_iload_n hx hb dX4_takeFirst_45 rfl (lv_at hl 2 rfl) ?_
      refine lv_iconst (v := 1) hx hb dX4_takeFirst_46 (by decide) ?_
      refine lv_iadd hx hb dX4_takeFirst_47 ?_
      refine x_memb hx hb hK hH r (show r < 2 by first | assumption | omega) (j + 1) ((tagA rfl ((rfl : (1 : Int32) = nI 1)))) (by omega) dX4_takeFirst_48 ?_
      refine x_membS hx hb hK hH hS r (show r < 2 by first | assumption | omega) j rfl (by omega) (gR σ 10 r (j + 1)) (fun p h => h1.2.2 _ p h) rfl dX4_takeFirst_49 (fun H locs hH hS => ?_)
      refine lv_iinc (v := nI (j + 1)) (lv' := [(2, .int (nI (j + 1))), (0, .ref (b + xo 9 r)), (1, v1)]) hx hb dX4_takeFirst_50 hl (k := 2) rfl (nI_1 j) (by decide) (by simp [h_v1]) (fun ls hl => ?_)
      refine lv_goto (tgt := 28) hx hb dX4_takeFirst_53 (by decide) ?_
      have e_ : lp_X4_takeFirst_28 r (n + 1) σ j = lp_X4_takeFirst_28 r n (sR σ 10 r j (gR σ 10 r (j + 1))) ((j + 1)) := by simp only [lp_X4_takeFirst_28, if_neg c_33_1]
      rw [e_] at kk
      exact ih (sR σ 10 r j (gR σ 10 r (j + 1))) ((j + 1)) (by omega) ⟨h1.1, h1.2.1, fun a p h => by rw [gR_sR] at h; split at h <;> exact h1.2.2 _ _ h⟩ h2 (by show _ ≤ zN σ r; omega) _ _ _ kk hH hS (lv_sub hl [1, 2, 0] rfl)
set_option maxRecDepth 100000 in
set_option maxHeartbeats 4000000 in
theorem k_X4_takeFirst (l : Launch) (D : va_G) (cs : Nat → ClassId) (b : Nat) (σ : St) (r : Nat) (hr2 : r < 2) (ho : okR σ r) : Met l yX4_takeFirst (Cond.code yX4_takeFirst cX4_takeFirst 3 (some (FieldType.object "ProcessTurns$Proc")) :: T0) { frames := 0, cells := 0, slots := 0, locals := 0 } (Pe D (tyx cs) b 43 (Ex cs b σ) [.ref (b + xo 9 r)]) (Qq D (tyx cs) b 43 (Ex cs b (f_X4_takeFirst σ r).2) ((f_X4_takeFirst σ r).1.map (fun j => b + xo 5 j))) 0 0 (fun a => b ≤ a) := by
  refine e_met (by decide) rfl (Nat.le_of_ble_eq_true rfl) (fun pg e s m below meth c ls hx hb hr hml hts0 hown hlk hnm hH hK hl hS => ?_)
  have hts : ∀ w ∈ T0, w.before _ s = true := fun w h => hts0 w (List.mem_cons_of_mem _ h)
  have hl : lv_has ls 3 [(0, .ref (b + xo 9 r))] := hl
  refine lv_aload_n hx hb dX4_takeFirst_0 rfl (lv_at hl 0 rfl) ?_
  refine fgX4_17 hx hb hts hown hK hH r (show r < 2 by first | assumption | omega) dX4_takeFirst_1 ?_
  refine lv_if_gt (tgt := 9) hx hb dX4_takeFirst_4 (by decide) (fun c_4_2 => ?_) (fun c_4_2 => ?_)
  ·
    have hz0 := szpos (by assumption) ho
    refine lv_aload_n hx hb dX4_takeFirst_9 rfl (lv_at hl 0 rfl) ?_
    refine fgX4_11 hx hb hts hown hK hH r (show r < 2 by first | assumption | omega) dX4_takeFirst_10 ?_
    refine lv_iconst (v := 0) hx hb dX4_takeFirst_13 (by decide) ?_
    refine x_memb hx hb hK hH r (show r < 2 by first | assumption | omega) 0 ((rfl : (0 : Int32) = nI 0)) (by omega) dX4_takeFirst_14 ?_
    rcases hq_14_3 : gR σ 10 r 0 with _ | q14_3
    ·
      refine W.eq (g2 := F0 m 15 ls [.null]) rfl ?_
      refine lv_astore_nN (lv' := [(1, .null), (0, .ref (b + xo 9 r))]) hx hb dX4_takeFirst_15 rfl hl (by decide) rfl (fun ls hl => ?_)
      refine lv_aload_n hx hb dX4_takeFirst_16 rfl (lv_at hl 1 rfl) ?_
      refine lv_dup hx hb dX4_takeFirst_17 rfl ?_
      refine fgX4_17 hx hb hts hown hK hH r (show r < 2 by first | assumption | omega) dX4_takeFirst_18 ?_
      refine lv_iconst (v := 1) hx hb dX4_takeFirst_21 (by decide) ?_
      refine lv_isub hx hb dX4_takeFirst_22 ?_
      refine fpX4_17 hx hb hts hown hK hH hS r (show r < 2 by first | assumption | omega) dX4_takeFirst_23 (fun H locs hH hS => ?_)
      have hk1 := okR_dec hz0 ho
      have hz7 := zN_dec hz0 ho
      refine lv_iconst (v := 0) hx hb dX4_takeFirst_26 (by decide) ?_
      refine lv_istore_n (lv' := [(2, .int (0)), (1, .null), (0, .ref (b + xo 9 r))]) hx hb dX4_takeFirst_27 rfl hl (by decide) rfl (fun ls hl => ?_)
      refine w_X4_takeFirst_28 r (.null) rfl hr2 hx hb hml hts hown hK 9 (sI σ 9 r 1 ((gI σ 9 r 1) - 1)) 0 (by omega) hk1 hz7 (by omega) _ _ _ (fun H locs ls hH hS hl => ?_) hH hS (lv_sub hl [2, 1, 0] rfl)
      refine lv_aload_nN hx hb dX4_takeFirst_56 rfl (lv_at hl 1 rfl) ?_
      exact e_qret hx hb hr hlk hK hH hS dX4_takeFirst_57 (by simp only [f_X4_takeFirst, if_pos c_4_2, hq_14_3, oC_none]; rfl) (congrArg (Ex cs b) (by simp only [f_X4_takeFirst, if_pos c_4_2, hq_14_3, oC_none]))
    ·
      refine W.eq (g2 := F0 m 15 ls [.ref (b + xo 5 q14_3)]) rfl ?_
      refine lv_astore_n (lv' := [(1, .ref (b + xo 5 q14_3)), (0, .ref (b + xo 9 r))]) hx hb dX4_takeFirst_15 rfl hl (by decide) rfl (fun ls hl => ?_)
      refine lv_aload_n hx hb dX4_takeFirst_16 rfl (lv_at hl 1 rfl) ?_
      refine lv_dup hx hb dX4_takeFirst_17 rfl ?_
      refine fgX4_17 hx hb hts hown hK hH r (show r < 2 by first | assumption | omega) dX4_takeFirst_18 ?_
      refine lv_iconst (v := 1) hx hb dX4_takeFirst_21 (by decide) ?_
      refine lv_isub hx hb dX4_takeFirst_22 ?_
      refine fpX4_17 hx hb hts hown hK hH hS r (show r < 2 by first | assumption | omega) dX4_takeFirst_23 (fun H locs hH hS => ?_)
      have hk1 := okR_dec hz0 ho
      have hz7 := zN_dec hz0 ho
      refine lv_iconst (v := 0) hx hb dX4_takeFirst_26 (by decide) ?_
      refine lv_istore_n (lv' := [(2, .int (0)), (1, .ref (b + xo 5 q14_3)), (0, .ref (b + xo 9 r))]) hx hb dX4_takeFirst_27 rfl hl (by decide) rfl (fun ls hl => ?_)
      refine w_X4_takeFirst_28 r (.ref (b + xo 5 q14_3)) rfl hr2 hx hb hml hts hown hK 9 (sI σ 9 r 1 ((gI σ 9 r 1) - 1)) 0 (by omega) hk1 hz7 (by omega) _ _ _ (fun H locs ls hH hS hl => ?_) hH hS (lv_sub hl [2, 1, 0] rfl)
      refine lv_aload_n hx hb dX4_takeFirst_56 rfl (lv_at hl 1 rfl) ?_
      exact e_qret hx hb hr hlk hK hH hS dX4_takeFirst_57 (by simp only [f_X4_takeFirst, if_pos c_4_2, hq_14_3, oC_some]; rfl) (congrArg (Ex cs b) (by simp only [f_X4_takeFirst, if_pos c_4_2, hq_14_3, oC_some]))
  ·
    refine lv_null hx hb dX4_takeFirst_7 ?_
    exact e_qret hx hb hr hlk hK hH hS dX4_takeFirst_8 (by simp only [f_X4_takeFirst, if_neg c_4_2]; rfl) (congrArg (Ex cs b) (by simp only [f_X4_takeFirst, if_neg c_4_2]))
def f_X4_numberAt (σ : St) (r : Nat) (x : Int32) : Int32 := (if x < 0 then (-1) else (if gI σ 9 r 1 ≤ x then (-1) else (oC (gR σ 10 r ((x.toNatClampNeg))) ((-1)) (fun q17_3 => nI q17_3))))
set_option maxRecDepth 100000 in
set_option maxHeartbeats 4000000 in
theorem k_X4_numberAt (l : Launch) (D : va_G) (cs : Nat → ClassId) (b : Nat) (σ : St) (r : Nat) (x : Int32) (hr2 : r < 2) (ho : okR σ r) : Met l yX4_numberAt (Cond.code yX4_numberAt cX4_numberAt 2 (some FieldType.int) :: T0) { frames := 0, cells := 0, slots := 0, locals := 0 } (Pe D (tyx cs) b 43 (Ex cs b σ) [.ref (b + xo 9 r), .int (x)]) (Qi D (tyx cs) b 43 (Ex cs b σ) (f_X4_numberAt σ r x)) 0 0 (fun a => b ≤ a) := by
  refine e_met (by decide) rfl (Nat.le_of_ble_eq_true rfl) (fun pg e s m below meth c ls hx hb hr hml hts0 hown hlk hnm hH hK hl hS => ?_)
  have hts : ∀ w ∈ T0, w.before _ s = true := fun w h => hts0 w (List.mem_cons_of_mem _ h)
  have hl : lv_has ls 2 [(0, .ref (b + xo 9 r)), (1, .int (x))] := hl
  refine lv_iload_n hx hb dX4_numberAt_0 rfl (lv_at hl 1 rfl) ?_
  refine lv_if_lt (tgt := 33) hx hb dX4_numberAt_1 (by decide) (fun c_1_1 => ?_) (fun c_1_1 => ?_)
  ·
    refine lv_iconst (v := (-1)) hx hb dX4_numberAt_33 (by decide) ?_
    exact e_iret hx hb hr hlk hK hH hS dX4_numberAt_34 (by simp only [f_X4_numberAt, if_pos c_1_1]) rfl
  ·
    refine lv_iload_n hx hb dX4_numberAt_4 rfl (lv_at hl 1 rfl) ?_
    refine lv_aload_n hx hb dX4_numberAt_5 rfl (lv_at hl 0 rfl) ?_
    refine fgX4_17 hx hb hts hown hK hH r (show r < 2 by first | assumption | omega) dX4_numberAt_6 ?_
    refine lv_icmp_ge (tgt := 33) hx hb dX4_numberAt_9 (by decide) (fun c_9_2 => ?_) (fun c_9_2 => ?_)
    ·
      refine lv_iconst (v := (-1)) hx hb dX4_numberAt_33 (by decide) ?_
      exact e_iret hx hb hr hlk hK hH hS dX4_numberAt_34 (by simp only [f_X4_numberAt, if_neg c_1_1, if_pos c_9_2]) rfl
    ·
      refine lv_aload_n hx hb dX4_numberAt_12 rfl (lv_at hl 0 rfl) ?_
      refine fgX4_11 hx hb hts hown hK hH r (show r < 2 by first | assumption | omega) dX4_numberAt_13 ?_
      refine lv_iload_n hx hb dX4_numberAt_16 rfl (lv_at hl 1 rfl) ?_
      refine x_memb hx hb hK hH r (show r < 2 by first | assumption | omega) ((x.toNatClampNeg)) ((cl_of (vin_sz (by assumption) (by assumption) ho))) (cl_lt (vin_sz (by assumption) (by assumption) ho)) dX4_numberAt_17 ?_
      rcases hq_17_3 : gR σ 10 r ((x.toNatClampNeg)) with _ | q17_3
      ·
        refine W.eq (g2 := F0 m 18 ls [.null]) rfl ?_
        refine lv_ifnullN (tgt := 33) hx hb dX4_numberAt_18 (by decide) ?_
        refine lv_iconst (v := (-1)) hx hb dX4_numberAt_33 (by decide) ?_
        exact e_iret hx hb hr hlk hK hH hS dX4_numberAt_34 (by simp only [f_X4_numberAt, if_neg c_1_1, if_neg c_9_2, hq_17_3, oC_none]) rfl
      ·
        have q17_3b := ho.2.2 _ _ hq_17_3
        refine W.eq (g2 := F0 m 18 ls [.ref (b + xo 5 q17_3)]) rfl ?_
        refine lv_ifnull hx hb dX4_numberAt_18 ?_
        refine lv_aload_n hx hb dX4_numberAt_21 rfl (lv_at hl 0 rfl) ?_
        refine fgX4_11 hx hb hts hown hK hH r (show r < 2 by first | assumption | omega) dX4_numberAt_22 ?_
        refine lv_iload_n hx hb dX4_numberAt_25 rfl (lv_at hl 1 rfl) ?_
        refine x_memb hx hb hK hH r (show r < 2 by first | assumption | omega) ((x.toNatClampNeg)) ((cl_of (vin_sz (by assumption) (by assumption) ho))) (cl_lt (vin_sz (by assumption) (by assumption) ho)) dX4_numberAt_26 ?_
        rw [show gR σ 10 r ((x.toNatClampNeg)) = some q17_3 from hq_17_3]
        refine W.eq (g2 := F0 m 27 ls [.ref (b + xo 5 q17_3)]) rfl ?_
        refine fgX4_21 hx hb hts hown hK hH q17_3 (show q17_3 < 8 by first | assumption | omega) dX4_numberAt_27 ?_
        refine lv_goto (tgt := 34) hx hb dX4_numberAt_30 (by decide) ?_
        exact e_iret hx hb hr hlk hK hH hS dX4_numberAt_34 (by simp only [f_X4_numberAt, if_neg c_1_1, if_neg c_9_2, hq_17_3, oC_some]) rfl
end
section
def f_X5_isPriority (σ : St) (x : Int32) : Int32 := (if x = 0 then 1 else (if x = 1 then 1 else 0))
set_option maxRecDepth 100000 in
set_option maxHeartbeats 4000000 in
theorem k_X5_isPriority (l : Launch) (D : va_G) (cs : Nat → ClassId) (b : Nat) (σ : St) (x : Int32)  : Met l yX5_isPriority (Cond.code yX5_isPriority cX5_isPriority 1 (some FieldType.boolean) :: T0) { frames := 0, cells := 0, slots := 0, locals := 0 } (Pe D (tyx cs) b 43 (Ex cs b σ) [.int (x)]) (Qi D (tyx cs) b 43 (Ex cs b σ) (f_X5_isPriority σ x)) 0 0 (fun a => b ≤ a) := by
  refine e_met (by decide) rfl (Nat.le_of_ble_eq_true rfl) (fun pg e s m below meth c ls hx hb hr hml hts0 hown hlk hnm hH hK hl hS => ?_)
  have hts : ∀ w ∈ T0, w.before _ s = true := fun w h => hts0 w (List.mem_cons_of_mem _ h)
  have hl : lv_has ls 1 [(0, .int (x))] := hl
  refine lv_iload_n hx hb dX5_isPriority_0 rfl (lv_at hl 0 rfl) ?_
  refine lv_if_eq (tgt := 9) hx hb dX5_isPriority_1 (by decide) (fun c_1_1 => ?_) (fun c_1_1 => ?_)
  ·
    refine lv_iconst (v := 1) hx hb dX5_isPriority_9 (by decide) ?_
    refine lv_goto (tgt := 14) hx hb dX5_isPriority_10 (by decide) ?_
    exact e_zret hx hb hr hlk hK hH hS dX5_isPriority_14 (by rfl) (by simp only [f_X5_isPriority, if_pos c_1_1]) rfl
  ·
    refine lv_iload_n hx hb dX5_isPriority_4 rfl (lv_at hl 0 rfl) ?_
    refine lv_iconst (v := 1) hx hb dX5_isPriority_5 (by decide) ?_
    refine lv_icmp_ne (tgt := 13) hx hb dX5_isPriority_6 (by decide) (fun c_6_2 => ?_) (fun c_6_2 => ?_)
    ·
      refine lv_iconst (v := 0) hx hb dX5_isPriority_13 (by decide) ?_
      exact e_zret hx hb hr hlk hK hH hS dX5_isPriority_14 (by rfl) (by simp only [f_X5_isPriority, if_neg c_1_1, if_neg c_6_2]) rfl
    ·
      refine lv_iconst (v := 1) hx hb dX5_isPriority_9 (by decide) ?_
      refine lv_goto (tgt := 14) hx hb dX5_isPriority_10 (by decide) ?_
      exact e_zret hx hb hr hlk hK hH hS dX5_isPriority_14 (by rfl) (by simp only [f_X5_isPriority, if_neg c_1_1, if_pos c_6_2]) rfl
def f_X5_isProcess (σ : St) (x : Int32) : Int32 := (if x < 0 then 0 else (if 8 ≤ x then 0 else 1))
set_option maxRecDepth 100000 in
set_option maxHeartbeats 4000000 in
theorem k_X5_isProcess (l : Launch) (D : va_G) (cs : Nat → ClassId) (b : Nat) (σ : St) (x : Int32)  : Met l yX5_isProcess (Cond.code yX5_isProcess cX5_isProcess 1 (some FieldType.boolean) :: T0) { frames := 0, cells := 0, slots := 0, locals := 0 } (Pe D (tyx cs) b 43 (Ex cs b σ) [.int (x)]) (Qi D (tyx cs) b 43 (Ex cs b σ) (f_X5_isProcess σ x)) 0 0 (fun a => b ≤ a) := by
  refine e_met (by decide) rfl (Nat.le_of_ble_eq_true rfl) (fun pg e s m below meth c ls hx hb hr hml hts0 hown hlk hnm hH hK hl hS => ?_)
  have hts : ∀ w ∈ T0, w.before _ s = true := fun w h => hts0 w (List.mem_cons_of_mem _ h)
  have hl : lv_has ls 1 [(0, .int (x))] := hl
  refine lv_iload_n hx hb dX5_isProcess_0 rfl (lv_at hl 0 rfl) ?_
  refine lv_if_lt (tgt := 14) hx hb dX5_isProcess_1 (by decide) (fun c_1_1 => ?_) (fun c_1_1 => ?_)
  ·
    refine lv_iconst (v := 0) hx hb dX5_isProcess_14 (by decide) ?_
    exact e_zret hx hb hr hlk hK hH hS dX5_isProcess_15 (by rfl) (by simp only [f_X5_isProcess, if_pos c_1_1]) rfl
  ·
    refine lv_iload_n hx hb dX5_isProcess_4 rfl (lv_at hl 0 rfl) ?_
    refine lv_bipush (v := 8) hx hb dX5_isProcess_5 (by decide) ?_
    refine lv_icmp_ge (tgt := 14) hx hb dX5_isProcess_7 (by decide) (fun c_7_2 => ?_) (fun c_7_2 => ?_)
    ·
      refine lv_iconst (v := 0) hx hb dX5_isProcess_14 (by decide) ?_
      exact e_zret hx hb hr hlk hK hH hS dX5_isProcess_15 (by rfl) (by simp only [f_X5_isProcess, if_neg c_1_1, if_pos c_7_2]) rfl
    ·
      refine lv_iconst (v := 1) hx hb dX5_isProcess_10 (by decide) ?_
      refine lv_goto (tgt := 15) hx hb dX5_isProcess_11 (by decide) ?_
      exact e_zret hx hb hr hlk hK hH hS dX5_isProcess_15 (by rfl) (by simp only [f_X5_isProcess, if_neg c_1_1, if_neg c_7_2]) rfl
def f_X5_isOperand (σ : St) (x : Int32) (y : Int32) : Int32 := (if x = 2 then (if y < 0 then 0 else (if 4 ≤ y then 0 else 1)) else (if x = 3 then (if y < 0 then 0 else (if 4 ≤ y then 0 else 1)) else (if x = 4 then 1 else (if x = 5 then 1 else (if x = 6 then 1 else (if x = 7 then 1 else (if x = 8 then (if y < 0 then 0 else (if 40 ≤ y then 0 else 1)) else (if x = 9 then (if y < 0 then 0 else (if 40 ≤ y then 0 else 1)) else (if x = 10 then (if y < 0 then 0 else (if 4 ≤ y then 0 else 1)) else (if x = 11 then (if y < 0 then 0 else (if 4 ≤ y then 0 else 1)) else (if x = 12 then 1 else (if x = 13 then 1 else (if x = 14 then (if y < 0 then 0 else (if 80 ≤ y then 0 else 1)) else 1)))))))))))))
set_option maxRecDepth 100000 in
set_option maxHeartbeats 4000000 in
theorem k_X5_isOperand (l : Launch) (D : va_G) (cs : Nat → ClassId) (b : Nat) (σ : St) (x : Int32) (y : Int32)  : Met l yX5_isOperand (Cond.code yX5_isOperand cX5_isOperand 2 (some FieldType.boolean) :: T0) { frames := 0, cells := 0, slots := 0, locals := 0 } (Pe D (tyx cs) b 43 (Ex cs b σ) [.int (x), .int (y)]) (Qi D (tyx cs) b 43 (Ex cs b σ) (f_X5_isOperand σ x y)) 0 0 (fun a => b ≤ a) := by
  refine e_met (by decide) rfl (Nat.le_of_ble_eq_true rfl) (fun pg e s m below meth c ls hx hb hr hml hts0 hown hlk hnm hH hK hl hS => ?_)
  have hts : ∀ w ∈ T0, w.before _ s = true := fun w h => hts0 w (List.mem_cons_of_mem _ h)
  have hl : lv_has ls 2 [(0, .int (x)), (1, .int (y))] := hl
  refine lv_iload_n hx hb dX5_isOperand_0 rfl (lv_at hl 0 rfl) ?_
  by_cases c_1_1 : x = 2
  ·
    refine lv_tableIn (off := 67) (tgt := 68) hx hb dX5_isOperand_1 (by rw [c_1_1]; decide) (by rw [c_1_1]; decide) (by rw [c_1_1]; rfl) (by decide) ?_
    refine lv_iload_n hx hb dX5_isOperand_68 rfl (lv_at hl 1 rfl) ?_
    refine lv_if_lt (tgt := 81) hx hb dX5_isOperand_69 (by decide) (fun c_69_2 => ?_) (fun c_69_2 => ?_)
    ·
      refine lv_iconst (v := 0) hx hb dX5_isOperand_81 (by decide) ?_
      exact e_zret hx hb hr hlk hK hH hS dX5_isOperand_82 (by rfl) (by simp only [f_X5_isOperand, if_pos c_1_1, if_pos c_69_2]) rfl
    ·
      refine lv_iload_n hx hb dX5_isOperand_72 rfl (lv_at hl 1 rfl) ?_
      refine lv_iconst (v := 4) hx hb dX5_isOperand_73 (by decide) ?_
      refine lv_icmp_ge (tgt := 81) hx hb dX5_isOperand_74 (by decide) (fun c_74_3 => ?_) (fun c_74_3 => ?_)
      ·
        refine lv_iconst (v := 0) hx hb dX5_isOperand_81 (by decide) ?_
        exact e_zret hx hb hr hlk hK hH hS dX5_isOperand_82 (by rfl) (by simp only [f_X5_isOperand, if_pos c_1_1, if_neg c_69_2, if_pos c_74_3]) rfl
      ·
        refine lv_iconst (v := 1) hx hb dX5_isOperand_77 (by decide) ?_
        refine lv_goto (tgt := 82) hx hb dX5_isOperand_78 (by decide) ?_
        exact e_zret hx hb hr hlk hK hH hS dX5_isOperand_82 (by rfl) (by simp only [f_X5_isOperand, if_pos c_1_1, if_neg c_69_2, if_neg c_74_3]) rfl
  by_cases c_1_4 : x = 3
  ·
    refine lv_tableIn (off := 67) (tgt := 68) hx hb dX5_isOperand_1 (by rw [c_1_4]; decide) (by rw [c_1_4]; decide) (by rw [c_1_4]; rfl) (by decide) ?_
    refine lv_iload_n hx hb dX5_isOperand_68 rfl (lv_at hl 1 rfl) ?_
    refine lv_if_lt (tgt := 81) hx hb dX5_isOperand_69 (by decide) (fun c_69_5 => ?_) (fun c_69_5 => ?_)
    ·
      refine lv_iconst (v := 0) hx hb dX5_isOperand_81 (by decide) ?_
      exact e_zret hx hb hr hlk hK hH hS dX5_isOperand_82 (by rfl) (by simp only [f_X5_isOperand, if_neg c_1_1, if_pos c_1_4, if_pos c_69_5]) rfl
    ·
      refine lv_iload_n hx hb dX5_isOperand_72 rfl (lv_at hl 1 rfl) ?_
      refine lv_iconst (v := 4) hx hb dX5_isOperand_73 (by decide) ?_
      refine lv_icmp_ge (tgt := 81) hx hb dX5_isOperand_74 (by decide) (fun c_74_6 => ?_) (fun c_74_6 => ?_)
      ·
        refine lv_iconst (v := 0) hx hb dX5_isOperand_81 (by decide) ?_
        exact e_zret hx hb hr hlk hK hH hS dX5_isOperand_82 (by rfl) (by simp only [f_X5_isOperand, if_neg c_1_1, if_pos c_1_4, if_neg c_69_5, if_pos c_74_6]) rfl
      ·
        refine lv_iconst (v := 1) hx hb dX5_isOperand_77 (by decide) ?_
        refine lv_goto (tgt := 82) hx hb dX5_isOperand_78 (by decide) ?_
        exact e_zret hx hb hr hlk hK hH hS dX5_isOperand_82 (by rfl) (by simp only [f_X5_isOperand, if_neg c_1_1, if_pos c_1_4, if_neg c_69_5, if_neg c_74_6]) rfl
  by_cases c_1_7 : x = 4
  ·
    refine lv_tableIn (off := 129) (tgt := 130) hx hb dX5_isOperand_1 (by rw [c_1_7]; decide) (by rw [c_1_7]; decide) (by rw [c_1_7]; rfl) (by decide) ?_
    refine lv_iconst (v := 1) hx hb dX5_isOperand_130 (by decide) ?_
    exact e_zret hx hb hr hlk hK hH hS dX5_isOperand_131 (by rfl) (by simp only [f_X5_isOperand, if_neg c_1_1, if_neg c_1_4, if_pos c_1_7]) rfl
  by_cases c_1_8 : x = 5
  ·
    refine lv_tableIn (off := 129) (tgt := 130) hx hb dX5_isOperand_1 (by rw [c_1_8]; decide) (by rw [c_1_8]; decide) (by rw [c_1_8]; rfl) (by decide) ?_
    refine lv_iconst (v := 1) hx hb dX5_isOperand_130 (by decide) ?_
    exact e_zret hx hb hr hlk hK hH hS dX5_isOperand_131 (by rfl) (by simp only [f_X5_isOperand, if_neg c_1_1, if_neg c_1_4, if_neg c_1_7, if_pos c_1_8]) rfl
  by_cases c_1_9 : x = 6
  ·
    refine lv_tableIn (off := 129) (tgt := 130) hx hb dX5_isOperand_1 (by rw [c_1_9]; decide) (by rw [c_1_9]; decide) (by rw [c_1_9]; rfl) (by decide) ?_
    refine lv_iconst (v := 1) hx hb dX5_isOperand_130 (by decide) ?_
    exact e_zret hx hb hr hlk hK hH hS dX5_isOperand_131 (by rfl) (by simp only [f_X5_isOperand, if_neg c_1_1, if_neg c_1_4, if_neg c_1_7, if_neg c_1_8, if_pos c_1_9]) rfl
  by_cases c_1_10 : x = 7
  ·
    refine lv_tableIn (off := 129) (tgt := 130) hx hb dX5_isOperand_1 (by rw [c_1_10]; decide) (by rw [c_1_10]; decide) (by rw [c_1_10]; rfl) (by decide) ?_
    refine lv_iconst (v := 1) hx hb dX5_isOperand_130 (by decide) ?_
    exact e_zret hx hb hr hlk hK hH hS dX5_isOperand_131 (by rfl) (by simp only [f_X5_isOperand, if_neg c_1_1, if_neg c_1_4, if_neg c_1_7, if_neg c_1_8, if_neg c_1_9, if_pos c_1_10]) rfl
  by_cases c_1_11 : x = 8
  ·
    refine lv_tableIn (off := 97) (tgt := 98) hx hb dX5_isOperand_1 (by rw [c_1_11]; decide) (by rw [c_1_11]; decide) (by rw [c_1_11]; rfl) (by decide) ?_
    refine lv_iload_n hx hb dX5_isOperand_98 rfl (lv_at hl 1 rfl) ?_
    refine lv_if_lt (tgt := 112) hx hb dX5_isOperand_99 (by decide) (fun c_99_12 => ?_) (fun c_99_12 => ?_)
    ·
      refine lv_iconst (v := 0) hx hb dX5_isOperand_112 (by decide) ?_
      exact e_zret hx hb hr hlk hK hH hS dX5_isOperand_113 (by rfl) (by simp only [f_X5_isOperand, if_neg c_1_1, if_neg c_1_4, if_neg c_1_7, if_neg c_1_8, if_neg c_1_9, if_neg c_1_10, if_pos c_1_11, if_pos c_99_12]) rfl
    ·
      refine lv_iload_n hx hb dX5_isOperand_102 rfl (lv_at hl 1 rfl) ?_
      refine lv_bipush (v := 40) hx hb dX5_isOperand_103 (by decide) ?_
      refine lv_icmp_ge (tgt := 112) hx hb dX5_isOperand_105 (by decide) (fun c_105_13 => ?_) (fun c_105_13 => ?_)
      ·
        refine lv_iconst (v := 0) hx hb dX5_isOperand_112 (by decide) ?_
        exact e_zret hx hb hr hlk hK hH hS dX5_isOperand_113 (by rfl) (by simp only [f_X5_isOperand, if_neg c_1_1, if_neg c_1_4, if_neg c_1_7, if_neg c_1_8, if_neg c_1_9, if_neg c_1_10, if_pos c_1_11, if_neg c_99_12, if_pos c_105_13]) rfl
      ·
        refine lv_iconst (v := 1) hx hb dX5_isOperand_108 (by decide) ?_
        refine lv_goto (tgt := 113) hx hb dX5_isOperand_109 (by decide) ?_
        exact e_zret hx hb hr hlk hK hH hS dX5_isOperand_113 (by rfl) (by simp only [f_X5_isOperand, if_neg c_1_1, if_neg c_1_4, if_neg c_1_7, if_neg c_1_8, if_neg c_1_9, if_neg c_1_10, if_pos c_1_11, if_neg c_99_12, if_neg c_105_13]) rfl
  by_cases c_1_14 : x = 9
  ·
    refine lv_tableIn (off := 97) (tgt := 98) hx hb dX5_isOperand_1 (by rw [c_1_14]; decide) (by rw [c_1_14]; decide) (by rw [c_1_14]; rfl) (by decide) ?_
    refine lv_iload_n hx hb dX5_isOperand_98 rfl (lv_at hl 1 rfl) ?_
    refine lv_if_lt (tgt := 112) hx hb dX5_isOperand_99 (by decide) (fun c_99_15 => ?_) (fun c_99_15 => ?_)
    ·
      refine lv_iconst (v := 0) hx hb dX5_isOperand_112 (by decide) ?_
      exact e_zret hx hb hr hlk hK hH hS dX5_isOperand_113 (by rfl) (by simp only [f_X5_isOperand, if_neg c_1_1, if_neg c_1_4, if_neg c_1_7, if_neg c_1_8, if_neg c_1_9, if_neg c_1_10, if_neg c_1_11, if_pos c_1_14, if_pos c_99_15]) rfl
    ·
      refine lv_iload_n hx hb dX5_isOperand_102 rfl (lv_at hl 1 rfl) ?_
      refine lv_bipush (v := 40) hx hb dX5_isOperand_103 (by decide) ?_
      refine lv_icmp_ge (tgt := 112) hx hb dX5_isOperand_105 (by decide) (fun c_105_16 => ?_) (fun c_105_16 => ?_)
      ·
        refine lv_iconst (v := 0) hx hb dX5_isOperand_112 (by decide) ?_
        exact e_zret hx hb hr hlk hK hH hS dX5_isOperand_113 (by rfl) (by simp only [f_X5_isOperand, if_neg c_1_1, if_neg c_1_4, if_neg c_1_7, if_neg c_1_8, if_neg c_1_9, if_neg c_1_10, if_neg c_1_11, if_pos c_1_14, if_neg c_99_15, if_pos c_105_16]) rfl
      ·
        refine lv_iconst (v := 1) hx hb dX5_isOperand_108 (by decide) ?_
        refine lv_goto (tgt := 113) hx hb dX5_isOperand_109 (by decide) ?_
        exact e_zret hx hb hr hlk hK hH hS dX5_isOperand_113 (by rfl) (by simp only [f_X5_isOperand, if_neg c_1_1, if_neg c_1_4, if_neg c_1_7, if_neg c_1_8, if_neg c_1_9, if_neg c_1_10, if_neg c_1_11, if_pos c_1_14, if_neg c_99_15, if_neg c_105_16]) rfl
  by_cases c_1_17 : x = 10
  ·
    refine lv_tableIn (off := 82) (tgt := 83) hx hb dX5_isOperand_1 (by rw [c_1_17]; decide) (by rw [c_1_17]; decide) (by rw [c_1_17]; rfl) (by decide) ?_
    refine lv_iload_n hx hb dX5_isOperand_83 rfl (lv_at hl 1 rfl) ?_
    refine lv_if_lt (tgt := 96) hx hb dX5_isOperand_84 (by decide) (fun c_84_18 => ?_) (fun c_84_18 => ?_)
    ·
      refine lv_iconst (v := 0) hx hb dX5_isOperand_96 (by decide) ?_
      exact e_zret hx hb hr hlk hK hH hS dX5_isOperand_97 (by rfl) (by simp only [f_X5_isOperand, if_neg c_1_1, if_neg c_1_4, if_neg c_1_7, if_neg c_1_8, if_neg c_1_9, if_neg c_1_10, if_neg c_1_11, if_neg c_1_14, if_pos c_1_17, if_pos c_84_18]) rfl
    ·
      refine lv_iload_n hx hb dX5_isOperand_87 rfl (lv_at hl 1 rfl) ?_
      refine lv_iconst (v := 4) hx hb dX5_isOperand_88 (by decide) ?_
      refine lv_icmp_ge (tgt := 96) hx hb dX5_isOperand_89 (by decide) (fun c_89_19 => ?_) (fun c_89_19 => ?_)
      ·
        refine lv_iconst (v := 0) hx hb dX5_isOperand_96 (by decide) ?_
        exact e_zret hx hb hr hlk hK hH hS dX5_isOperand_97 (by rfl) (by simp only [f_X5_isOperand, if_neg c_1_1, if_neg c_1_4, if_neg c_1_7, if_neg c_1_8, if_neg c_1_9, if_neg c_1_10, if_neg c_1_11, if_neg c_1_14, if_pos c_1_17, if_neg c_84_18, if_pos c_89_19]) rfl
      ·
        refine lv_iconst (v := 1) hx hb dX5_isOperand_92 (by decide) ?_
        refine lv_goto (tgt := 97) hx hb dX5_isOperand_93 (by decide) ?_
        exact e_zret hx hb hr hlk hK hH hS dX5_isOperand_97 (by rfl) (by simp only [f_X5_isOperand, if_neg c_1_1, if_neg c_1_4, if_neg c_1_7, if_neg c_1_8, if_neg c_1_9, if_neg c_1_10, if_neg c_1_11, if_neg c_1_14, if_pos c_1_17, if_neg c_84_18, if_neg c_89_19]) rfl
  by_cases c_1_20 : x = 11
  ·
    refine lv_tableIn (off := 82) (tgt := 83) hx hb dX5_isOperand_1 (by rw [c_1_20]; decide) (by rw [c_1_20]; decide) (by rw [c_1_20]; rfl) (by decide) ?_
    refine lv_iload_n hx hb dX5_isOperand_83 rfl (lv_at hl 1 rfl) ?_
    refine lv_if_lt (tgt := 96) hx hb dX5_isOperand_84 (by decide) (fun c_84_21 => ?_) (fun c_84_21 => ?_)
    ·
      refine lv_iconst (v := 0) hx hb dX5_isOperand_96 (by decide) ?_
      exact e_zret hx hb hr hlk hK hH hS dX5_isOperand_97 (by rfl) (by simp only [f_X5_isOperand, if_neg c_1_1, if_neg c_1_4, if_neg c_1_7, if_neg c_1_8, if_neg c_1_9, if_neg c_1_10, if_neg c_1_11, if_neg c_1_14, if_neg c_1_17, if_pos c_1_20, if_pos c_84_21]) rfl
    ·
      refine lv_iload_n hx hb dX5_isOperand_87 rfl (lv_at hl 1 rfl) ?_
      refine lv_iconst (v := 4) hx hb dX5_isOperand_88 (by decide) ?_
      refine lv_icmp_ge (tgt := 96) hx hb dX5_isOperand_89 (by decide) (fun c_89_22 => ?_) (fun c_89_22 => ?_)
      ·
        refine lv_iconst (v := 0) hx hb dX5_isOperand_96 (by decide) ?_
        exact e_zret hx hb hr hlk hK hH hS dX5_isOperand_97 (by rfl) (by simp only [f_X5_isOperand, if_neg c_1_1, if_neg c_1_4, if_neg c_1_7, if_neg c_1_8, if_neg c_1_9, if_neg c_1_10, if_neg c_1_11, if_neg c_1_14, if_neg c_1_17, if_pos c_1_20, if_neg c_84_21, if_pos c_89_22]) rfl
      ·
        refine lv_iconst (v := 1) hx hb dX5_isOperand_92 (by decide) ?_
        refine lv_goto (tgt := 97) hx hb dX5_isOperand_93 (by decide) ?_
        exact e_zret hx hb hr hlk hK hH hS dX5_isOperand_97 (by rfl) (by simp only [f_X5_isOperand, if_neg c_1_1, if_neg c_1_4, if_neg c_1_7, if_neg c_1_8, if_neg c_1_9, if_neg c_1_10, if_neg c_1_11, if_neg c_1_14, if_neg c_1_17, if_pos c_1_20, if_neg c_84_21, if_neg c_89_22]) rfl
  by_cases c_1_23 : x = 12
  ·
    refine lv_tableIn (off := 129) (tgt := 130) hx hb dX5_isOperand_1 (by rw [c_1_23]; decide) (by rw [c_1_23]; decide) (by rw [c_1_23]; rfl) (by decide) ?_
    refine lv_iconst (v := 1) hx hb dX5_isOperand_130 (by decide) ?_
    exact e_zret hx hb hr hlk hK hH hS dX5_isOperand_131 (by rfl) (by simp only [f_X5_isOperand, if_neg c_1_1, if_neg c_1_4, if_neg c_1_7, if_neg c_1_8, if_neg c_1_9, if_neg c_1_10, if_neg c_1_11, if_neg c_1_14, if_neg c_1_17, if_neg c_1_20, if_pos c_1_23]) rfl
  by_cases c_1_24 : x = 13
  ·
    refine lv_tableIn (off := 129) (tgt := 130) hx hb dX5_isOperand_1 (by rw [c_1_24]; decide) (by rw [c_1_24]; decide) (by rw [c_1_24]; rfl) (by decide) ?_
    refine lv_iconst (v := 1) hx hb dX5_isOperand_130 (by decide) ?_
    exact e_zret hx hb hr hlk hK hH hS dX5_isOperand_131 (by rfl) (by simp only [f_X5_isOperand, if_neg c_1_1, if_neg c_1_4, if_neg c_1_7, if_neg c_1_8, if_neg c_1_9, if_neg c_1_10, if_neg c_1_11, if_neg c_1_14, if_neg c_1_17, if_neg c_1_20, if_neg c_1_23, if_pos c_1_24]) rfl
  by_cases c_1_25 : x = 14
  ·
    refine lv_tableIn (off := 113) (tgt := 114) hx hb dX5_isOperand_1 (by rw [c_1_25]; decide) (by rw [c_1_25]; decide) (by rw [c_1_25]; rfl) (by decide) ?_
    refine lv_iload_n hx hb dX5_isOperand_114 rfl (lv_at hl 1 rfl) ?_
    refine lv_if_lt (tgt := 128) hx hb dX5_isOperand_115 (by decide) (fun c_115_26 => ?_) (fun c_115_26 => ?_)
    ·
      refine lv_iconst (v := 0) hx hb dX5_isOperand_128 (by decide) ?_
      exact e_zret hx hb hr hlk hK hH hS dX5_isOperand_129 (by rfl) (by simp only [f_X5_isOperand, if_neg c_1_1, if_neg c_1_4, if_neg c_1_7, if_neg c_1_8, if_neg c_1_9, if_neg c_1_10, if_neg c_1_11, if_neg c_1_14, if_neg c_1_17, if_neg c_1_20, if_neg c_1_23, if_neg c_1_24, if_pos c_1_25, if_pos c_115_26]) rfl
    ·
      refine lv_iload_n hx hb dX5_isOperand_118 rfl (lv_at hl 1 rfl) ?_
      refine lv_bipush (v := 80) hx hb dX5_isOperand_119 (by decide) ?_
      refine lv_icmp_ge (tgt := 128) hx hb dX5_isOperand_121 (by decide) (fun c_121_27 => ?_) (fun c_121_27 => ?_)
      ·
        refine lv_iconst (v := 0) hx hb dX5_isOperand_128 (by decide) ?_
        exact e_zret hx hb hr hlk hK hH hS dX5_isOperand_129 (by rfl) (by simp only [f_X5_isOperand, if_neg c_1_1, if_neg c_1_4, if_neg c_1_7, if_neg c_1_8, if_neg c_1_9, if_neg c_1_10, if_neg c_1_11, if_neg c_1_14, if_neg c_1_17, if_neg c_1_20, if_neg c_1_23, if_neg c_1_24, if_pos c_1_25, if_neg c_115_26, if_pos c_121_27]) rfl
      ·
        refine lv_iconst (v := 1) hx hb dX5_isOperand_124 (by decide) ?_
        refine lv_goto (tgt := 129) hx hb dX5_isOperand_125 (by decide) ?_
        exact e_zret hx hb hr hlk hK hH hS dX5_isOperand_129 (by rfl) (by simp only [f_X5_isOperand, if_neg c_1_1, if_neg c_1_4, if_neg c_1_7, if_neg c_1_8, if_neg c_1_9, if_neg c_1_10, if_neg c_1_11, if_neg c_1_14, if_neg c_1_17, if_neg c_1_20, if_neg c_1_23, if_neg c_1_24, if_pos c_1_25, if_neg c_115_26, if_neg c_121_27]) rfl
  refine lv_tableOut (tgt := 130) hx hb dX5_isOperand_1 (by have h2 := ne_i 2 c_1_1 (by decide); have h3 := ne_i 3 c_1_4 (by decide); have h4 := ne_i 4 c_1_7 (by decide); have h5 := ne_i 5 c_1_8 (by decide); have h6 := ne_i 6 c_1_9 (by decide); have h7 := ne_i 7 c_1_10 (by decide); have h8 := ne_i 8 c_1_11 (by decide); have h9 := ne_i 9 c_1_14 (by decide); have h10 := ne_i 10 c_1_17 (by decide); have h11 := ne_i 11 c_1_20 (by decide); have h12 := ne_i 12 c_1_23 (by decide); have h13 := ne_i 13 c_1_24 (by decide); have h14 := ne_i 14 c_1_25 (by decide); omega) (by decide) ?_
  refine lv_iconst (v := 1) hx hb dX5_isOperand_130 (by decide) ?_
  exact e_zret hx hb hr hlk hK hH hS dX5_isOperand_131 (by rfl) (by simp only [f_X5_isOperand, if_neg c_1_1, if_neg c_1_4, if_neg c_1_7, if_neg c_1_8, if_neg c_1_9, if_neg c_1_10, if_neg c_1_11, if_neg c_1_14, if_neg c_1_17, if_neg c_1_20, if_neg c_1_23, if_neg c_1_24, if_neg c_1_25]) rfl
theorem vin_isProc {σ : St} {x : Int32} (h : ¬ f_X5_isProcess σ x = 0) : vp_in x 8 := by
  unfold f_X5_isProcess at h
  split at h
  · exact absurd rfl h
  · split at h
    · exact absurd rfl h
    · exact vin_nle 8 (by assumption) (by assumption) (by decide)
theorem vin_isProc' {σ : St} {x : Int32} (h : f_X5_isProcess σ x ≠ 0) : vp_in x 8 := vin_isProc h
def f_X5_rowOf (σ : St) (x : Int32) : Nat := (if x = 0 then 0 else 1)
set_option maxRecDepth 100000 in
set_option maxHeartbeats 4000000 in
theorem k_X5_rowOf (l : Launch) (D : va_G) (cs : Nat → ClassId) (b : Nat) (σ : St) (x : Int32)  : Met l yX5_rowOf (Cond.code yX5_rowOf cX5_rowOf 2 (some (FieldType.object "ProcessTurns$Row")) :: T0) { frames := 0, cells := 0, slots := 0, locals := 0 } (Pe D (tyx cs) b 43 (Ex cs b σ) [.ref (b + xo 0 0), .int (x)]) (Qq D (tyx cs) b 43 (Ex cs b σ) (some (b + xo 9 (f_X5_rowOf σ x)))) 0 0 (fun a => b ≤ a) := by
  refine e_met (by decide) rfl (Nat.le_of_ble_eq_true rfl) (fun pg e s m below meth c ls hx hb hr hml hts0 hown hlk hnm hH hK hl hS => ?_)
  have hts : ∀ w ∈ T0, w.before _ s = true := fun w h => hts0 w (List.mem_cons_of_mem _ h)
  have hl : lv_has ls 2 [(0, .ref (b + xo 0 0)), (1, .int (x))] := hl
  refine lv_iload_n hx hb dX5_rowOf_0 rfl (lv_at hl 1 rfl) ?_
  refine lv_if_ne (tgt := 11) hx hb dX5_rowOf_1 (by decide) (fun c_1_1 => ?_) (fun c_1_1 => ?_)
  ·
    refine lv_aload_n hx hb dX5_rowOf_11 rfl (lv_at hl 0 rfl) ?_
    refine fgX5_39 hx hb hts hown hK hH 0 (by decide) dX5_rowOf_12 ?_
    exact e_qret (r := some (b + xo 9 _)) hx hb hr hlk hK hH hS dX5_rowOf_15 (by simp only [f_X5_rowOf, if_neg c_1_1]; rfl) rfl
  ·
    refine lv_aload_n hx hb dX5_rowOf_4 rfl (lv_at hl 0 rfl) ?_
    refine fgX5_35 hx hb hts hown hK hH 0 (by decide) dX5_rowOf_5 ?_
    refine lv_goto (tgt := 15) hx hb dX5_rowOf_8 (by decide) ?_
    exact e_qret (r := some (b + xo 9 _)) hx hb hr hlk hK hH hS dX5_rowOf_15 (by simp only [f_X5_rowOf, if_pos c_1_1]; rfl) rfl
theorem rowOf_lt (σ : St) (x : Int32) : f_X5_rowOf σ x < 2 := by
  unfold f_X5_rowOf
  split <;> decide
def f_X5_channelAt (σ : St) (x : Int32) : Option Nat := (if x < 0 then none else (if 4 ≤ x then none else some ((x.toNatClampNeg))))
set_option maxRecDepth 100000 in
set_option maxHeartbeats 4000000 in
theorem k_X5_channelAt (l : Launch) (D : va_G) (cs : Nat → ClassId) (b : Nat) (σ : St) (x : Int32)  : Met l yX5_channelAt (Cond.code yX5_channelAt cX5_channelAt 2 (some (FieldType.object "ProcessTurns$Channel")) :: T0) { frames := 0, cells := 0, slots := 0, locals := 0 } (Pe D (tyx cs) b 43 (Ex cs b σ) [.ref (b + xo 0 0), .int (x)]) (Qq D (tyx cs) b 43 (Ex cs b σ) ((f_X5_channelAt σ x).map (fun j => b + xo 8 j))) 0 0 (fun a => b ≤ a) := by
  refine e_met (by decide) rfl (Nat.le_of_ble_eq_true rfl) (fun pg e s m below meth c ls hx hb hr hml hts0 hown hlk hnm hH hK hl hS => ?_)
  have hts : ∀ w ∈ T0, w.before _ s = true := fun w h => hts0 w (List.mem_cons_of_mem _ h)
  have hl : lv_has ls 2 [(0, .ref (b + xo 0 0)), (1, .int (x))] := hl
  refine lv_iload_n hx hb dX5_channelAt_0 rfl (lv_at hl 1 rfl) ?_
  refine lv_if_lt (tgt := 18) hx hb dX5_channelAt_1 (by decide) (fun c_1_1 => ?_) (fun c_1_1 => ?_)
  ·
    refine lv_null hx hb dX5_channelAt_18 ?_
    exact e_qret hx hb hr hlk hK hH hS dX5_channelAt_19 (by simp only [f_X5_channelAt, if_pos c_1_1]; rfl) rfl
  ·
    refine lv_iload_n hx hb dX5_channelAt_4 rfl (lv_at hl 1 rfl) ?_
    refine lv_iconst (v := 4) hx hb dX5_channelAt_5 (by decide) ?_
    refine lv_icmp_ge (tgt := 18) hx hb dX5_channelAt_6 (by decide) (fun c_6_2 => ?_) (fun c_6_2 => ?_)
    ·
      refine lv_null hx hb dX5_channelAt_18 ?_
      exact e_qret hx hb hr hlk hK hH hS dX5_channelAt_19 (by simp only [f_X5_channelAt, if_neg c_1_1, if_pos c_6_2]; rfl) rfl
    ·
      refine lv_aload_n hx hb dX5_channelAt_9 rfl (lv_at hl 0 rfl) ?_
      refine fgX5_27 hx hb hts hown hK hH 0 (by decide) dX5_channelAt_10 ?_
      refine lv_iload_n hx hb dX5_channelAt_13 rfl (lv_at hl 1 rfl) ?_
      refine x_chans hx hb hK hH x.toNatClampNeg (cl_of (vin_nle 4 (by assumption) (by assumption) (by decide))) (cl_lt (vin_nle 4 (by assumption) (by assumption) (by decide))) dX5_channelAt_14 ?_
      refine lv_goto (tgt := 19) hx hb dX5_channelAt_15 (by decide) ?_
      exact e_qret hx hb hr hlk hK hH hS dX5_channelAt_19 (by simp only [f_X5_channelAt, if_neg c_1_1, if_neg c_6_2]; rfl) rfl
theorem channelAt_lt {σ : St} {x : Int32} {k : Nat} (h : f_X5_channelAt σ x = some k) : k < 4 := by
  unfold f_X5_channelAt at h
  split at h
  · cases h
  · split at h
    · cases h
    · cases h
      exact cl_lt (vin_nle 4 (by assumption) (by assumption) (by decide))
def lp_X5_leastFree_2 : Nat → St → Nat → Option Nat
  | 0, _, _ => none
  | n + 1, σ, j => (if 8 ≤ nI j then none else (if gI σ 5 j 2 = 0 then some j else lp_X5_leastFree_2 n σ ((j + 1))))
def f_X5_leastFree (σ : St)  : Option Nat := lp_X5_leastFree_2 9 σ 0
set_option maxRecDepth 100000 in
set_option maxHeartbeats 4000000 in
theorem w_X5_leastFree_2 {l : Launch} {D : va_G} {cs : Nat → ClassId} {b : Nat} {pg : Program} {e : Env} {s : State} {m : MethodId} {below : List Frame} {meth : Method} {c : Code}    (hx : pg.tables.exec = Jvm.exec) (hb : c.code = cX5_leastFree) (hr : meth.sig.returnType = (some (FieldType.object "ProcessTurns$Proc"))) (hml : c.maxLocals = 2) {args : Array Value} (hts : ∀ w ∈ T0, w.before args s = true) (hown : s.vm.findClass RX5 = some m.cls) (hlk : meth.locks = false) (hK : va_K D vwCl (tyx cs) s) : ∀ (n : Nat) (σ : St) (j : Nat), 8 < j + n → j ≤ 8 → ∀ (H : Heap) (locs : List Loc) (ls : Array Slot), He D b 43 (Ex cs b σ) H → va_S (fun a => b ≤ a) s.heap H locs → lv_has ls 2 [(0, .ref (b + xo 0 0)), (1, .int (nI j))] → W pg l e { frames := 0, cells := 0, slots := 0, locals := 0 } s m args below meth c H locs 0 0 (MQ below (Qq D (tyx cs) b 43 (Ex cs b σ) ((lp_X5_leastFree_2 n σ j).map (fun j => b + xo 5 j))) args s 0 0 (fun a => b ≤ a)) (F0 m 2 ls []) := by
  intro n
  induction n with
  | zero =>
    intro σ j h0 h1
    exact absurd h0 (by omega)
  | succ n ih =>
    intro σ j h0 h1 H locs ls hH hS hl
    refine lv_iload_n hx hb dX5_leastFree_2 rfl (lv_at hl 1 rfl) ?_
    refine lv_bipush (v := 8) hx hb dX5_leastFree_3 (by decide) ?_
    refine lv_icmp_ge (tgt := 33) hx hb dX5_leastFree_5 (by decide) (fun c_5_1 => ?_) (fun c_5_1 => ?_)
    ·
      refine lv_null hx hb dX5_leastFree_33 ?_
      exact e_qret hx hb hr hlk hK hH hS dX5_leastFree_34 (by simp only [lp_X5_leastFree_2, if_pos c_5_1]; rfl) rfl
    ·
      have hj8 := ngt_8 (j := j) (by omega) 8 (by decide) (by assumption)
      refine lv_aload_n hx hb dX5_leastFree_8 rfl (lv_at hl 0 rfl) ?_
      refine fgX5_18 hx hb hts hown hK hH 0 (by decide) dX5_leastFree_9 ?_
      refine lv_iload_n hx hb dX5_leastFree_12 rfl (lv_at hl 1 rfl) ?_
      refine x_procs hx hb hK hH j rfl (by omega) dX5_leastFree_13 ?_
      refine fgX5_80 hx hb hts hown hK hH j (show j < 8 by first | assumption | omega) dX5_leastFree_14 ?_
      refine lv_if_ne (tgt := 27) hx hb dX5_leastFree_17 (by decide) (fun c_17_2 => ?_) (fun c_17_2 => ?_)
      ·
        refine lv_iinc (v := nI (j + 1)) (lv' := [(1, .int (nI (j + 1))), (0, .ref (b + xo 0 0))]) hx hb dX5_leastFree_27 hl (k := 1) rfl (nI_1 j) (by decide) rfl (fun ls hl => ?_)
        refine lv_goto (tgt := 2) hx hb dX5_leastFree_30 (by decide) ?_
        have e_ : lp_X5_leastFree_2 (n + 1) σ j = lp_X5_leastFree_2 n σ ((j + 1)) := by simp only [lp_X5_leastFree_2, if_neg c_5_1, if_neg c_17_2]
        rw [e_]
        exact ih σ ((j + 1)) (by omega) (by omega) _ _ _ hH hS (lv_sub hl [1, 0] rfl)
      ·
        refine lv_aload_n hx hb dX5_leastFree_20 rfl (lv_at hl 0 rfl) ?_
        refine fgX5_18 hx hb hts hown hK hH 0 (by decide) dX5_leastFree_21 ?_
        refine lv_iload_n hx hb dX5_leastFree_24 rfl (lv_at hl 1 rfl) ?_
        refine x_procs hx hb hK hH j rfl (by omega) dX5_leastFree_25 ?_
        exact e_qret hx hb hr hlk hK hH hS dX5_leastFree_26 (by simp only [lp_X5_leastFree_2, if_neg c_5_1, if_pos c_17_2]; rfl) rfl
set_option maxRecDepth 100000 in
set_option maxHeartbeats 4000000 in
theorem k_X5_leastFree (l : Launch) (D : va_G) (cs : Nat → ClassId) (b : Nat) (σ : St)   : Met l yX5_leastFree (Cond.code yX5_leastFree cX5_leastFree 2 (some (FieldType.object "ProcessTurns$Proc")) :: T0) { frames := 0, cells := 0, slots := 0, locals := 0 } (Pe D (tyx cs) b 43 (Ex cs b σ) [.ref (b + xo 0 0)]) (Qq D (tyx cs) b 43 (Ex cs b σ) ((f_X5_leastFree σ).map (fun j => b + xo 5 j))) 0 0 (fun a => b ≤ a) := by
  refine e_met (by decide) rfl (Nat.le_of_ble_eq_true rfl) (fun pg e s m below meth c ls hx hb hr hml hts0 hown hlk hnm hH hK hl hS => ?_)
  have hts : ∀ w ∈ T0, w.before _ s = true := fun w h => hts0 w (List.mem_cons_of_mem _ h)
  have hl : lv_has ls 2 [(0, .ref (b + xo 0 0))] := hl
  refine lv_iconst (v := 0) hx hb dX5_leastFree_0 (by decide) ?_
  refine lv_istore_n (lv' := [(1, .int (0)), (0, .ref (b + xo 0 0))]) hx hb dX5_leastFree_1 rfl hl (by decide) rfl (fun ls hl => ?_)
  have e_ : f_X5_leastFree σ = lp_X5_leastFree_2 9 σ 0 := by simp only [f_X5_leastFree]
  rw [e_]
  exact w_X5_leastFree_2  hx hb hr hml hts hown hlk hK 9 σ 0 (by omega) (by omega) _ _ _ hH hS (lv_sub hl [1, 0] rfl)
theorem lf_lt0 : ∀ (n : Nat) (σ : St) (j : Nat) (k : Nat), j ≤ 8 → lp_X5_leastFree_2 n σ j = some k → k < 8 := by
  intro n
  induction n with
  | zero => intro σ j k hj h; cases h
  | succ n ih =>
    intro σ j k hj h
    unfold lp_X5_leastFree_2 at h
    split at h
    · cases h
    · have hj8 := ngt_8 (j := j) (by omega) 8 (by decide) (by assumption)
      split at h
      · cases h; omega
      · exact ih σ (j + 1) k (by omega) h
theorem lf_lt {σ : St} {k : Nat} (h : f_X5_leastFree σ = some k) : k < 8 := lf_lt0 9 σ 0 k (by decide) h
end
section
def f_X5_becomeReady (σ : St) (q : Nat) : St := f_X4_putLast (sI σ 5 q 2 1) ((f_X5_rowOf (sI σ 5 q 2 1) (gI (sI σ 5 q 2 1) 5 q 3))) q
set_option maxRecDepth 100000 in
set_option maxHeartbeats 4000000 in
theorem k_X5_becomeReady (l : Launch) (D : va_G) (cs : Nat → ClassId) (b : Nat) (σ : St) (q : Nat) (hq : q < 8) : Met l yX5_becomeReady (Cond.code yX5_becomeReady cX5_becomeReady 2 (none : Option FieldType) :: T0) { frames := 1, cells := 0, slots := 0, locals := 21 } (Pe D (tyx cs) b 43 (Ex cs b σ) [.ref (b + xo 0 0), .ref (b + xo 5 q)]) (Qv D (tyx cs) b 43 (Ex cs b (f_X5_becomeReady σ q))) 0 0 (fun a => b ≤ a) := by
  refine e_met (by decide) rfl (Nat.le_of_ble_eq_true rfl) (fun pg e s m below meth c ls hx hb hr hml hts0 hown hlk hnm hH hK hl hS => ?_)
  have hts : ∀ w ∈ T0, w.before _ s = true := fun w h => hts0 w (List.mem_cons_of_mem _ h)
  have hl : lv_has ls 2 [(0, .ref (b + xo 0 0)), (1, .ref (b + xo 5 q))] := hl
  refine lv_aload_n hx hb dX5_becomeReady_0 rfl (lv_at hl 1 rfl) ?_
  refine lv_iconst (v := 1) hx hb dX5_becomeReady_1 (by decide) ?_
  refine fpX5_80 hx hb hts hown hK hH hS q (show q < 8 by first | assumption | omega) dX5_becomeReady_2 (fun H locs hH hS => ?_)
  refine lv_aload_n hx hb dX5_becomeReady_5 rfl (lv_at hl 0 rfl) ?_
  refine lv_aload_n hx hb dX5_becomeReady_6 rfl (lv_at hl 1 rfl) ?_
  refine fgX5_133 hx hb hts hown hK hH q (show q < 8 by first | assumption | omega) dX5_becomeReady_7 ?_
  refine e_cq (e_runV (C := RX5) (ci := 5) (As := [.int (gI (sI σ 5 q 2 1) 5 q 3)]) (rest := []) ⟨hx, hb, hml, hown, hts⟩ (k_X5_rowOf l D cs b (sI σ 5 q 2 1) (gI (sI σ 5 q 2 1) 5 q 3) ) ⟨callB_of 1 hts (gC wC_X5_rowOf) rfl rfl rfl (hts _ wi_X5) (hts _ wM_X5_99) (by decide +kernel) (by decide), hts _ wN_X5_rowOf, hts _ wS_X5_rowOf⟩ hK hH (xo_ok (by decide)).2.2 (Ex_at cs b (sI σ 5 q 2 1) (by decide)) rfl rfl rfl hl.1 rfl (Nat.le_of_ble_eq_true rfl) dX5_becomeReady_10 (by decide)) hS (fun H locs hH hS => ?_)
  refine W.eq (g2 := F0 m 13 ls [.ref (b + xo 9 (f_X5_rowOf (sI σ 5 q 2 1) (gI (sI σ 5 q 2 1) 5 q 3)))]) rfl ?_
  have hrw : f_X5_rowOf (sI σ 5 q 2 1) (gI (sI σ 5 q 2 1) 5 q 3) < 2 := rowOf_lt _ _
  refine lv_aload_n hx hb dX5_becomeReady_13 rfl (lv_at hl 1 rfl) ?_
  refine e_cv (e_runV (C := RX4) (ci := 4) (As := [.ref (b + xo 5 q)]) (rest := []) ⟨hx, hb, hml, hown, hts⟩ (k_X4_putLast l D cs b (sI σ 5 q 2 1) ((f_X5_rowOf (sI σ 5 q 2 1) (gI (sI σ 5 q 2 1) 5 q 3))) q (by first | assumption | omega | decide) (by first | assumption | omega | decide)) ⟨callB_of 1 hts (gC wC_X4_putLast) rfl rfl rfl (hts _ wi_X4) (hts _ wM_X5_136) (by decide +kernel) (by decide), hts _ wN_X4_putLast, hts _ wS_X4_putLast⟩ hK hH (xo_ok (show (f_X5_rowOf (sI σ 5 q 2 1) (gI (sI σ 5 q 2 1) 5 q 3)) < xn 9 by first | assumption | (show (f_X5_rowOf (sI σ 5 q 2 1) (gI (sI σ 5 q 2 1) 5 q 3)) < 2; first | assumption | omega))).2.2 (Ex_at cs b (sI σ 5 q 2 1) (show (f_X5_rowOf (sI σ 5 q 2 1) (gI (sI σ 5 q 2 1) 5 q 3)) < xn 9 by first | assumption | (show (f_X5_rowOf (sI σ 5 q 2 1) (gI (sI σ 5 q 2 1) 5 q 3)) < 2; first | assumption | omega))) rfl rfl rfl hl.1 rfl (Nat.le_of_ble_eq_true rfl) dX5_becomeReady_14 (by decide)) hS (fun H locs hH hS => ?_)
  exact e_vret hx hb hr hlk hK hH hS dX5_becomeReady_17 (congrArg (Ex cs b) (by simp only [f_X5_becomeReady]))
def f_X5_startLeastFree (σ : St) (x : Int32) (y : Int32) (z : Int32) : Int32 × St := (oC (f_X5_leastFree σ) (((-1), σ)) (fun q1_1 => (nI q1_1, f_X5_becomeReady (f_X2_begin σ q1_1 x y z) q1_1)))
set_option maxRecDepth 100000 in
set_option maxHeartbeats 4000000 in
theorem k_X5_startLeastFree (l : Launch) (D : va_G) (cs : Nat → ClassId) (b : Nat) (σ : St) (x : Int32) (y : Int32) (z : Int32)  : Met l yX5_startLeastFree (Cond.code yX5_startLeastFree cX5_startLeastFree 5 (some FieldType.int) :: T0) { frames := 2, cells := 0, slots := 0, locals := 42 } (Pe D (tyx cs) b 43 (Ex cs b σ) [.ref (b + xo 0 0), .int (x), .int (y), .int (z)]) (Qi D (tyx cs) b 43 (Ex cs b (f_X5_startLeastFree σ x y z).2) (f_X5_startLeastFree σ x y z).1) 0 0 (fun a => b ≤ a) := by
  refine e_met (by decide) rfl (Nat.le_of_ble_eq_true rfl) (fun pg e s m below meth c ls hx hb hr hml hts0 hown hlk hnm hH hK hl hS => ?_)
  have hts : ∀ w ∈ T0, w.before _ s = true := fun w h => hts0 w (List.mem_cons_of_mem _ h)
  have hl : lv_has ls 5 [(0, .ref (b + xo 0 0)), (1, .int (x)), (2, .int (y)), (3, .int (z))] := hl
  refine lv_aload_n hx hb dX5_startLeastFree_0 rfl (lv_at hl 0 rfl) ?_
  refine e_cq (e_runV (C := RX5) (ci := 5) (As := []) (rest := []) ⟨hx, hb, hml, hown, hts⟩ (k_X5_leastFree l D cs b σ  ) ⟨callB_of 0 hts (gC wC_X5_leastFree) rfl rfl rfl (hts _ wi_X5) (hts _ wM_X5_121) (by decide +kernel) (by decide), hts _ wN_X5_leastFree, hts _ wS_X5_leastFree⟩ hK hH (xo_ok (by decide)).2.2 (Ex_at cs b σ (by decide)) rfl rfl rfl hl.1 rfl (Nat.le_of_ble_eq_true rfl) dX5_startLeastFree_1 (by decide)) hS (fun H locs hH hS => ?_)
  rcases hq_1_1 : f_X5_leastFree σ with _ | q1_1
  ·
    refine W.eq (g2 := F0 m 4 ls [.null]) rfl ?_
    refine lv_astoreN (lv' := [(4, .null), (0, .ref (b + xo 0 0)), (1, .int (x)), (2, .int (y)), (3, .int (z))]) hx hb dX5_startLeastFree_4 hl (by decide) rfl (fun ls hl => ?_)
    refine lv_aloadN hx hb dX5_startLeastFree_6 (lv_at hl 0 rfl) ?_
    refine lv_ifnonnullN hx hb dX5_startLeastFree_8 ?_
    refine lv_iconst (v := (-1)) hx hb dX5_startLeastFree_11 (by decide) ?_
    exact e_iret hx hb hr hlk hK hH hS dX5_startLeastFree_12 (by simp only [f_X5_startLeastFree, hq_1_1, oC_none]) (congrArg (Ex cs b) (by simp only [f_X5_startLeastFree, hq_1_1, oC_none]))
  ·
    have q1_1b := lf_lt hq_1_1
    refine W.eq (g2 := F0 m 4 ls [.ref (b + xo 5 q1_1)]) rfl ?_
    refine lv_astore (lv' := [(4, .ref (b + xo 5 q1_1)), (0, .ref (b + xo 0 0)), (1, .int (x)), (2, .int (y)), (3, .int (z))]) hx hb dX5_startLeastFree_4 hl (by decide) rfl (fun ls hl => ?_)
    refine lv_aload hx hb dX5_startLeastFree_6 (lv_at hl 0 rfl) ?_
    refine lv_ifnonnull (tgt := 13) hx hb dX5_startLeastFree_8 (by decide) ?_
    refine lv_aload hx hb dX5_startLeastFree_13 (lv_at hl 0 rfl) ?_
    refine lv_iload_n hx hb dX5_startLeastFree_15 rfl (lv_at hl 2 rfl) ?_
    refine lv_iload_n hx hb dX5_startLeastFree_16 rfl (lv_at hl 3 rfl) ?_
    refine lv_iload_n hx hb dX5_startLeastFree_17 rfl (lv_at hl 4 rfl) ?_
    refine e_cv (e_runV (C := RX2) (ci := 2) (As := [.int (x), .int (y), .int (z)]) (rest := []) ⟨hx, hb, hml, hown, hts⟩ (k_X2_begin l D cs b σ q1_1 x y z (by first | assumption | omega | decide)) ⟨callB_of 3 hts (gC wC_X2_begin) rfl rfl rfl (hts _ wi_X2) (hts _ wM_X5_125) (by decide +kernel) (by decide), hts _ wN_X2_begin, hts _ wS_X2_begin⟩ hK hH (xo_ok (show q1_1 < xn 5 by first | assumption | (show q1_1 < 8; first | assumption | omega))).2.2 (Ex_at cs b σ (show q1_1 < xn 5 by first | assumption | (show q1_1 < 8; first | assumption | omega))) rfl rfl rfl hl.1 rfl (Nat.le_of_ble_eq_true rfl) dX5_startLeastFree_18 (by decide)) hS (fun H locs hH hS => ?_)
    refine lv_aload_n hx hb dX5_startLeastFree_21 rfl (lv_at hl 1 rfl) ?_
    refine lv_aload hx hb dX5_startLeastFree_22 (lv_at hl 0 rfl) ?_
    refine e_cv (e_runV (C := RX5) (ci := 5) (As := [.ref (b + xo 5 q1_1)]) (rest := []) ⟨hx, hb, hml, hown, hts⟩ (k_X5_becomeReady l D cs b (f_X2_begin σ q1_1 x y z) q1_1 (by first | assumption | omega | decide)) ⟨callB_of 1 hts (gC wC_X5_becomeReady) rfl rfl rfl (hts _ wi_X5) (hts _ wM_X5_129) (by decide +kernel) (by decide), hts _ wN_X5_becomeReady, hts _ wS_X5_becomeReady⟩ hK hH (xo_ok (by decide)).2.2 (Ex_at cs b (f_X2_begin σ q1_1 x y z) (by decide)) rfl rfl rfl hl.1 rfl (Nat.le_of_ble_eq_true rfl) dX5_startLeastFree_24 (by decide)) hS (fun H locs hH hS => ?_)
    refine lv_aload hx hb dX5_startLeastFree_27 (lv_at hl 0 rfl) ?_
    refine fgX5_87 hx hb hts hown hK hH q1_1 (show q1_1 < 8 by first | assumption | omega) dX5_startLeastFree_29 ?_
    exact e_iret hx hb hr hlk hK hH hS dX5_startLeastFree_32 (by simp only [f_X5_startLeastFree, hq_1_1, oC_some]) (congrArg (Ex cs b) (by simp only [f_X5_startLeastFree, hq_1_1, oC_some]))
def f_X5_hasCome (σ : St) (x : Int32) : Int32 := (if 0 < x - (gI σ 0 0 7) then 0 else 1)
set_option maxRecDepth 100000 in
set_option maxHeartbeats 4000000 in
theorem k_X5_hasCome (l : Launch) (D : va_G) (cs : Nat → ClassId) (b : Nat) (σ : St) (x : Int32)  : Met l yX5_hasCome (Cond.code yX5_hasCome cX5_hasCome 2 (some FieldType.boolean) :: T0) { frames := 0, cells := 0, slots := 0, locals := 0 } (Pe D (tyx cs) b 43 (Ex cs b σ) [.ref (b + xo 0 0), .int (x)]) (Qi D (tyx cs) b 43 (Ex cs b σ) (f_X5_hasCome σ x)) 0 0 (fun a => b ≤ a) := by
  refine e_met (by decide) rfl (Nat.le_of_ble_eq_true rfl) (fun pg e s m below meth c ls hx hb hr hml hts0 hown hlk hnm hH hK hl hS => ?_)
  have hts : ∀ w ∈ T0, w.before _ s = true := fun w h => hts0 w (List.mem_cons_of_mem _ h)
  have hl : lv_has ls 2 [(0, .ref (b + xo 0 0)), (1, .int (x))] := hl
  refine lv_iload_n hx hb dX5_hasCome_0 rfl (lv_at hl 1 rfl) ?_
  refine lv_aload_n hx hb dX5_hasCome_1 rfl (lv_at hl 0 rfl) ?_
  refine fgX5_53 hx hb hts hown hK hH 0 (by decide) dX5_hasCome_2 ?_
  refine lv_isub hx hb dX5_hasCome_5 ?_
  refine lv_if_gt (tgt := 13) hx hb dX5_hasCome_6 (by decide) (fun c_6_1 => ?_) (fun c_6_1 => ?_)
  ·
    refine lv_iconst (v := 0) hx hb dX5_hasCome_13 (by decide) ?_
    exact e_zret hx hb hr hlk hK hH hS dX5_hasCome_14 (by rfl) (by simp only [f_X5_hasCome, if_pos c_6_1]) rfl
  ·
    refine lv_iconst (v := 1) hx hb dX5_hasCome_9 (by decide) ?_
    refine lv_goto (tgt := 14) hx hb dX5_hasCome_10 (by decide) ?_
    exact e_zret hx hb hr hlk hK hH hS dX5_hasCome_14 (by rfl) (by simp only [f_X5_hasCome, if_neg c_6_1]) rfl
def lp_X5_wakeThoseWhoseTimeHasCome_2 : Nat → St → Nat → St
  | 0, σ, _ => σ
  | n + 1, σ, j => (if 8 ≤ nI j then σ else (if gI σ 5 j 2 = 4 then (if f_X5_hasCome σ (gI σ 5 j 8) = 0 then lp_X5_wakeThoseWhoseTimeHasCome_2 n σ ((j + 1)) else lp_X5_wakeThoseWhoseTimeHasCome_2 n (f_X5_becomeReady σ j) ((j + 1))) else lp_X5_wakeThoseWhoseTimeHasCome_2 n σ ((j + 1))))
def f_X5_wakeThoseWhoseTimeHasCome (σ : St)  : St := lp_X5_wakeThoseWhoseTimeHasCome_2 9 σ 0
set_option maxRecDepth 100000 in
set_option maxHeartbeats 4000000 in
theorem w_X5_wakeThoseWhoseTimeHasCome_2 {l : Launch} {D : va_G} {cs : Nat → ClassId} {b : Nat} {pg : Program} {e : Env} {s : State} {m : MethodId} {below : List Frame} {meth : Method} {c : Code}    (hx : pg.tables.exec = Jvm.exec) (hb : c.code = cX5_wakeThoseWhoseTimeHasCome) (hml : c.maxLocals = 2) {args : Array Value} {H0 : Heap} {Q : State → Prop} (hts : ∀ w ∈ T0, w.before args s = true) (hown : s.vm.findClass RX5 = some m.cls) (hK : va_K D vwCl (tyx cs) s) : ∀ (n : Nat) (σ : St) (j : Nat), 8 < j + n → j ≤ 8 → ∀ (H : Heap) (locs : List Loc) (ls : Array Slot), (∀ (H : Heap) (locs : List Loc) (ls : Array Slot), He D b 43 (Ex cs b (lp_X5_wakeThoseWhoseTimeHasCome_2 n σ j)) H → va_S (fun a => b ≤ a) H0 H locs → lv_has ls 2 [(0, .ref (b + xo 0 0))] → W pg l e { frames := 2, cells := 0, slots := 0, locals := 42 } s m args below meth c H locs 0 0 Q (F0 m 53 ls [])) → He D b 43 (Ex cs b σ) H → va_S (fun a => b ≤ a) H0 H locs → lv_has ls 2 [(0, .ref (b + xo 0 0)), (1, .int (nI j))] → W pg l e { frames := 2, cells := 0, slots := 0, locals := 42 } s m args below meth c H locs 0 0 Q (F0 m 2 ls []) := by
  intro n
  induction n with
  | zero =>
    intro σ j h0 h1
    exact absurd h0 (by omega)
  | succ n ih =>
    intro σ j h0 h1 H locs ls kk hH hS hl
    refine lv_iload_n hx hb dX5_wakeThoseWhoseTimeHasCome_2 rfl (lv_at hl 1 rfl) ?_
    refine lv_bipush (v := 8) hx hb dX5_wakeThoseWhoseTimeHasCome_3 (by decide) ?_
    refine lv_icmp_ge (tgt := 53) hx hb dX5_wakeThoseWhoseTimeHasCome_5 (by decide) (fun c_5_1 => ?_) (fun c_5_1 => ?_)
    ·
      have e_ : lp_X5_wakeThoseWhoseTimeHasCome_2 (n + 1) σ j = σ := by simp only [lp_X5_wakeThoseWhoseTimeHasCome_2, if_pos c_5_1]
      rw [e_] at kk
      exact kk _ _ _ hH hS (lv_sub hl [0] rfl)
    ·
      have hj8 := ngt_8 (j := j) (by omega) 8 (by decide) (by assumption)
      refine lv_aload_n hx hb dX5_wakeThoseWhoseTimeHasCome_8 rfl (lv_at hl 0 rfl) ?_
      refine fgX5_18 hx hb hts hown hK hH 0 (by decide) dX5_wakeThoseWhoseTimeHasCome_9 ?_
      refine lv_iload_n hx hb dX5_wakeThoseWhoseTimeHasCome_12 rfl (lv_at hl 1 rfl) ?_
      refine x_procs hx hb hK hH j rfl (by omega) dX5_wakeThoseWhoseTimeHasCome_13 ?_
      refine fgX5_80 hx hb hts hown hK hH j (show j < 8 by first | assumption | omega) dX5_wakeThoseWhoseTimeHasCome_14 ?_
      refine lv_iconst (v := 4) hx hb dX5_wakeThoseWhoseTimeHasCome_17 (by decide) ?_
      refine lv_icmp_ne (tgt := 47) hx hb dX5_wakeThoseWhoseTimeHasCome_18 (by decide) (fun c_18_2 => ?_) (fun c_18_2 => ?_)
      ·
        refine lv_iinc (v := nI (j + 1)) (lv' := [(1, .int (nI (j + 1))), (0, .ref (b + xo 0 0))]) hx hb dX5_wakeThoseWhoseTimeHasCome_47 hl (k := 1) rfl (nI_1 j) (by decide) rfl (fun ls hl => ?_)
        refine lv_goto (tgt := 2) hx hb dX5_wakeThoseWhoseTimeHasCome_50 (by decide) ?_
        have e_ : lp_X5_wakeThoseWhoseTimeHasCome_2 (n + 1) σ j = lp_X5_wakeThoseWhoseTimeHasCome_2 n σ ((j + 1)) := by simp only [lp_X5_wakeThoseWhoseTimeHasCome_2, if_neg c_5_1, if_neg c_18_2]
        rw [e_] at kk
        exact ih σ ((j + 1)) (by omega) (by omega) _ _ _ kk hH hS (lv_sub hl [1, 0] rfl)
      ·
        refine lv_aload_n hx hb dX5_wakeThoseWhoseTimeHasCome_21 rfl (lv_at hl 0 rfl) ?_
        refine lv_aload_n hx hb dX5_wakeThoseWhoseTimeHasCome_22 rfl (lv_at hl 0 rfl) ?_
        refine fgX5_18 hx hb hts hown hK hH 0 (by decide) dX5_wakeThoseWhoseTimeHasCome_23 ?_
        refine lv_iload_n hx hb dX5_wakeThoseWhoseTimeHasCome_26 rfl (lv_at hl 1 rfl) ?_
        refine x_procs hx hb hK hH j rfl (by omega) dX5_wakeThoseWhoseTimeHasCome_27 ?_
        refine fgX5_151 hx hb hts hown hK hH j (show j < 8 by first | assumption | omega) dX5_wakeThoseWhoseTimeHasCome_28 ?_
        refine e_ci (e_runV (C := RX5) (ci := 5) (As := [.int (gI σ 5 j 8)]) (rest := []) ⟨hx, hb, hml, hown, hts⟩ (k_X5_hasCome l D cs b σ (gI σ 5 j 8) ) ⟨callB_of 1 hts (gC wC_X5_hasCome) rfl rfl rfl (hts _ wi_X5) (hts _ wM_X5_154) (by decide +kernel) (by decide), hts _ wN_X5_hasCome, hts _ wS_X5_hasCome⟩ hK hH (xo_ok (by decide)).2.2 (Ex_at cs b σ (by decide)) rfl rfl rfl hl.1 rfl (Nat.le_of_ble_eq_true rfl) dX5_wakeThoseWhoseTimeHasCome_31 (by decide)) hS (fun H locs hH hS => ?_)
        refine lv_if_eq (tgt := 47) hx hb dX5_wakeThoseWhoseTimeHasCome_34 (by decide) (fun c_34_3 => ?_) (fun c_34_3 => ?_)
        ·
          refine lv_iinc (v := nI (j + 1)) (lv' := [(1, .int (nI (j + 1))), (0, .ref (b + xo 0 0))]) hx hb dX5_wakeThoseWhoseTimeHasCome_47 hl (k := 1) rfl (nI_1 j) (by decide) rfl (fun ls hl => ?_)
          refine lv_goto (tgt := 2) hx hb dX5_wakeThoseWhoseTimeHasCome_50 (by decide) ?_
          have e_ : lp_X5_wakeThoseWhoseTimeHasCome_2 (n + 1) σ j = lp_X5_wakeThoseWhoseTimeHasCome_2 n σ ((j + 1)) := by simp only [lp_X5_wakeThoseWhoseTimeHasCome_2, if_neg c_5_1, if_pos c_18_2, if_pos c_34_3]
          rw [e_] at kk
          exact ih σ ((j + 1)) (by omega) (by omega) _ _ _ kk hH hS (lv_sub hl [1, 0] rfl)
        ·
          refine lv_aload_n hx hb dX5_wakeThoseWhoseTimeHasCome_37 rfl (lv_at hl 0 rfl) ?_
          refine lv_aload_n hx hb dX5_wakeThoseWhoseTimeHasCome_38 rfl (lv_at hl 0 rfl) ?_
          refine fgX5_18 hx hb hts hown hK hH 0 (by decide) dX5_wakeThoseWhoseTimeHasCome_39 ?_
          refine lv_iload_n hx hb dX5_wakeThoseWhoseTimeHasCome_42 rfl (lv_at hl 1 rfl) ?_
          refine x_procs hx hb hK hH j rfl (by omega) dX5_wakeThoseWhoseTimeHasCome_43 ?_
          refine e_cv (e_runV (C := RX5) (ci := 5) (As := [.ref (b + xo 5 j)]) (rest := []) ⟨hx, hb, hml, hown, hts⟩ (k_X5_becomeReady l D cs b σ j (by first | assumption | omega | decide)) ⟨callB_of 1 hts (gC wC_X5_becomeReady) rfl rfl rfl (hts _ wi_X5) (hts _ wM_X5_129) (by decide +kernel) (by decide), hts _ wN_X5_becomeReady, hts _ wS_X5_becomeReady⟩ hK hH (xo_ok (by decide)).2.2 (Ex_at cs b σ (by decide)) rfl rfl rfl hl.1 rfl (Nat.le_of_ble_eq_true rfl) dX5_wakeThoseWhoseTimeHasCome_44 (by decide)) hS (fun H locs hH hS => ?_)
          refine lv_iinc (v := nI (j + 1)) (lv' := [(1, .int (nI (j + 1))), (0, .ref (b + xo 0 0))]) hx hb dX5_wakeThoseWhoseTimeHasCome_47 hl (k := 1) rfl (nI_1 j) (by decide) rfl (fun ls hl => ?_)
          refine lv_goto (tgt := 2) hx hb dX5_wakeThoseWhoseTimeHasCome_50 (by decide) ?_
          have e_ : lp_X5_wakeThoseWhoseTimeHasCome_2 (n + 1) σ j = lp_X5_wakeThoseWhoseTimeHasCome_2 n (f_X5_becomeReady σ j) ((j + 1)) := by simp only [lp_X5_wakeThoseWhoseTimeHasCome_2, if_neg c_5_1, if_pos c_18_2, if_neg c_34_3]
          rw [e_] at kk
          exact ih (f_X5_becomeReady σ j) ((j + 1)) (by omega) (by omega) _ _ _ kk hH hS (lv_sub hl [1, 0] rfl)
set_option maxRecDepth 100000 in
set_option maxHeartbeats 4000000 in
theorem k_X5_wakeThoseWhoseTimeHasCome (l : Launch) (D : va_G) (cs : Nat → ClassId) (b : Nat) (σ : St)   : Met l yX5_wakeThoseWhoseTimeHasCome (Cond.code yX5_wakeThoseWhoseTimeHasCome cX5_wakeThoseWhoseTimeHasCome 2 (none : Option FieldType) :: T0) { frames := 2, cells := 0, slots := 0, locals := 42 } (Pe D (tyx cs) b 43 (Ex cs b σ) [.ref (b + xo 0 0)]) (Qv D (tyx cs) b 43 (Ex cs b (f_X5_wakeThoseWhoseTimeHasCome σ))) 0 0 (fun a => b ≤ a) := by
  refine e_met (by decide) rfl (Nat.le_of_ble_eq_true rfl) (fun pg e s m below meth c ls hx hb hr hml hts0 hown hlk hnm hH hK hl hS => ?_)
  have hts : ∀ w ∈ T0, w.before _ s = true := fun w h => hts0 w (List.mem_cons_of_mem _ h)
  have hl : lv_has ls 2 [(0, .ref (b + xo 0 0))] := hl
  refine lv_iconst (v := 0) hx hb dX5_wakeThoseWhoseTimeHasCome_0 (by decide) ?_
  refine lv_istore_n (lv' := [(1, .int (0)), (0, .ref (b + xo 0 0))]) hx hb dX5_wakeThoseWhoseTimeHasCome_1 rfl hl (by decide) rfl (fun ls hl => ?_)
  refine w_X5_wakeThoseWhoseTimeHasCome_2  hx hb hml hts hown hK 9 σ 0 (by omega) (by omega) _ _ _ (fun H locs ls hH hS hl => ?_) hH hS (lv_sub hl [1, 0] rfl)
  exact e_vret hx hb hr hlk hK hH hS dX5_wakeThoseWhoseTimeHasCome_53 (congrArg (Ex cs b) (by simp only [f_X5_wakeThoseWhoseTimeHasCome]))
end
section
theorem okR_sI {σ : St} {r g i k : Nat} {v : Int32} (hg : g ≠ 9) (h : okR σ r) : okR (sI σ g i k v) r := by
  have e : gI (sI σ g i k v) 9 r 1 = gI σ 9 r 1 := by rw [gI_sI, if_neg (fun q => hg q.1.symm)]
  have z : zN (sI σ g i k v) r = zN σ r := by unfold zN; rw [e]
  exact ⟨by rw [e, z]; exact h.1, by rw [z]; exact h.2.1, h.2.2⟩
theorem okR_sR {σ : St} {r g i k : Nat} {v : Option Nat} (hv : ∀ p, v = some p → p < 8) (h : okR σ r) : okR (sR σ g i k v) r := by
  refine ⟨h.1, h.2.1, fun j p hp => ?_⟩
  rw [gR_sR] at hp
  split at hp
  · exact hv p hp
  · exact h.2.2 j p hp
def ok (σ : St) : Prop := okR σ 0 ∧ okR σ 1 ∧ (∀ p, gR σ 0 0 6 = some p → p < 8) ∧ ∀ k p, gR σ 8 k 1 = some p → p < 8
def f_X5_giveWayToHigh (σ : St)  : St := (oC (gR σ 0 0 6) σ (fun q1_1 => (if gI σ 5 q1_1 3 = 1 then (if gI σ 9 0 1 ≤ 0 then σ else sR (f_X4_putFirst (sI σ 5 q1_1 2 1) 1 q1_1) 0 0 6 (none)) else σ)))
set_option maxRecDepth 100000 in
set_option maxHeartbeats 4000000 in
theorem k_X5_giveWayToHigh (l : Launch) (D : va_G) (cs : Nat → ClassId) (b : Nat) (σ : St)  (ho : ok σ) : Met l yX5_giveWayToHigh (Cond.code yX5_giveWayToHigh cX5_giveWayToHigh 1 (none : Option FieldType) :: T0) { frames := 1, cells := 0, slots := 0, locals := 22 } (Pe D (tyx cs) b 43 (Ex cs b σ) [.ref (b + xo 0 0)]) (Qv D (tyx cs) b 43 (Ex cs b (f_X5_giveWayToHigh σ))) 0 0 (fun a => b ≤ a) := by
  refine e_met (by decide) rfl (Nat.le_of_ble_eq_true rfl) (fun pg e s m below meth c ls hx hb hr hml hts0 hown hlk hnm hH hK hl hS => ?_)
  have hts : ∀ w ∈ T0, w.before _ s = true := fun w h => hts0 w (List.mem_cons_of_mem _ h)
  have hl : lv_has ls 1 [(0, .ref (b + xo 0 0))] := hl
  refine lv_aload_n hx hb dX5_giveWayToHigh_0 rfl (lv_at hl 0 rfl) ?_
  refine fgX5_49 hx hb hts hown hK hH 0 (by decide) _ rfl dX5_giveWayToHigh_1 ?_
  rcases hq_1_1 : gR σ 0 0 6 with _ | q1_1
  ·
    refine W.eq (g2 := F0 m 4 ls [.null]) rfl ?_
    refine lv_ifnullN (tgt := 52) hx hb dX5_giveWayToHigh_4 (by decide) ?_
    exact e_vret hx hb hr hlk hK hH hS dX5_giveWayToHigh_52 (congrArg (Ex cs b) (by simp only [f_X5_giveWayToHigh, hq_1_1, oC_none]))
  ·
    have q1_1b := ho.2.2.1 _ hq_1_1
    refine W.eq (g2 := F0 m 4 ls [.ref (b + xo 5 q1_1)]) rfl ?_
    refine lv_ifnull hx hb dX5_giveWayToHigh_4 ?_
    refine lv_aload_n hx hb dX5_giveWayToHigh_7 rfl (lv_at hl 0 rfl) ?_
    refine fgX5_49 hx hb hts hown hK hH 0 (by decide) (some q1_1) (hq_1_1) dX5_giveWayToHigh_8 ?_
    refine W.eq (g2 := F0 m 11 ls [.ref (b + xo 5 q1_1)]) rfl ?_
    refine fgX5_133 hx hb hts hown hK hH q1_1 (show q1_1 < 8 by first | assumption | omega) dX5_giveWayToHigh_11 ?_
    refine lv_iconst (v := 1) hx hb dX5_giveWayToHigh_14 (by decide) ?_
    refine lv_icmp_ne (tgt := 52) hx hb dX5_giveWayToHigh_15 (by decide) (fun c_15_2 => ?_) (fun c_15_2 => ?_)
    ·
      exact e_vret hx hb hr hlk hK hH hS dX5_giveWayToHigh_52 (congrArg (Ex cs b) (by simp only [f_X5_giveWayToHigh, hq_1_1, oC_some, if_neg c_15_2]))
    ·
      refine lv_aload_n hx hb dX5_giveWayToHigh_18 rfl (lv_at hl 0 rfl) ?_
      refine fgX5_35 hx hb hts hown hK hH 0 (by decide) dX5_giveWayToHigh_19 ?_
      refine fgX5_157 hx hb hts hown hK hH 0 (by decide) dX5_giveWayToHigh_22 ?_
      refine lv_if_le (tgt := 52) hx hb dX5_giveWayToHigh_25 (by decide) (fun c_25_3 => ?_) (fun c_25_3 => ?_)
      ·
        exact e_vret hx hb hr hlk hK hH hS dX5_giveWayToHigh_52 (congrArg (Ex cs b) (by simp only [f_X5_giveWayToHigh, hq_1_1, oC_some, if_pos c_15_2, if_pos c_25_3]))
      ·
        refine lv_aload_n hx hb dX5_giveWayToHigh_28 rfl (lv_at hl 0 rfl) ?_
        refine fgX5_49 hx hb hts hown hK hH 0 (by decide) (some q1_1) (hq_1_1) dX5_giveWayToHigh_29 ?_
        refine W.eq (g2 := F0 m 32 ls [.ref (b + xo 5 q1_1)]) rfl ?_
        refine lv_iconst (v := 1) hx hb dX5_giveWayToHigh_32 (by decide) ?_
        refine fpX5_80 hx hb hts hown hK hH hS q1_1 (show q1_1 < 8 by first | assumption | omega) dX5_giveWayToHigh_33 (fun H locs hH hS => ?_)
        refine lv_aload_n hx hb dX5_giveWayToHigh_36 rfl (lv_at hl 0 rfl) ?_
        refine fgX5_39 hx hb hts hown hK hH 0 (by decide) dX5_giveWayToHigh_37 ?_
        refine lv_aload_n hx hb dX5_giveWayToHigh_40 rfl (lv_at hl 0 rfl) ?_
        refine fgX5_49 hx hb hts hown hK hH 0 (by decide) (some q1_1) (hq_1_1) dX5_giveWayToHigh_41 ?_
        refine W.eq (g2 := F0 m 44 ls [.ref (b + xo 5 q1_1), .ref (b + xo 9 1)]) rfl ?_
        refine e_cv (e_runV (C := RX4) (ci := 4) (As := [.ref (b + xo 5 q1_1)]) (rest := []) ⟨hx, hb, hml, hown, hts⟩ (k_X4_putFirst l D cs b (sI σ 5 q1_1 2 1) 1 q1_1 (by decide) (by assumption) (okR_sI (by decide) ho.2.1)) ⟨callB_of 1 hts (gC wC_X4_putFirst) rfl rfl rfl (hts _ wi_X4) (hts _ wM_X5_158) (by decide +kernel) (by decide), hts _ wN_X4_putFirst, hts _ wS_X4_putFirst⟩ hK hH (xo_ok (by decide)).2.2 (Ex_at cs b (sI σ 5 q1_1 2 1) (by decide)) rfl rfl rfl hl.1 rfl (Nat.le_of_ble_eq_true rfl) dX5_giveWayToHigh_44 (by decide)) hS (fun H locs hH hS => ?_)
        refine lv_aload_n hx hb dX5_giveWayToHigh_47 rfl (lv_at hl 0 rfl) ?_
        refine lv_null hx hb dX5_giveWayToHigh_48 ?_
        refine fpX5_49 hx hb hts hown hK hH hS 0 (by decide) (none) rfl dX5_giveWayToHigh_49 (fun H locs hH hS => ?_)
        exact e_vret hx hb hr hlk hK hH hS dX5_giveWayToHigh_52 (congrArg (Ex cs b) (by simp only [f_X5_giveWayToHigh, hq_1_1, oC_some, if_pos c_15_2, if_neg c_25_3]))
theorem take_lt {σ : St} {r p : Nat} (hk : okR σ r) (h : (f_X4_takeFirst σ r).1 = some p) : p < 8 := by
  unfold f_X4_takeFirst at h
  split at h
  · rcases hq : gR σ 10 r 0 with _ | q
    · rw [hq, oC_none] at h; cases h
    · rw [hq, oC_some] at h; cases h; exact hk.2.2 _ _ hq
  · cases h
def f_X5_takeNext (σ : St)  : St := (if gI σ 9 0 1 ≤ 0 then (oC ((f_X4_takeFirst σ 1).1) (sR ((f_X4_takeFirst σ 1).2) 0 0 6 (none)) (fun q25_2 => sI (sI (sR ((f_X4_takeFirst σ 1).2) 0 0 6 (some q25_2)) 5 q25_2 2 2) 5 q25_2 9 0)) else (oC ((f_X4_takeFirst σ 0).1) (sR ((f_X4_takeFirst σ 0).2) 0 0 6 (none)) (fun q15_3 => sI (sI (sR ((f_X4_takeFirst σ 0).2) 0 0 6 (some q15_3)) 5 q15_3 2 2) 5 q15_3 9 0)))
set_option maxRecDepth 100000 in
set_option maxHeartbeats 4000000 in
theorem k_X5_takeNext (l : Launch) (D : va_G) (cs : Nat → ClassId) (b : Nat) (σ : St)  (ho : ok σ) : Met l yX5_takeNext (Cond.code yX5_takeNext cX5_takeNext 1 (none : Option FieldType) :: T0) { frames := 1, cells := 0, slots := 0, locals := 22 } (Pe D (tyx cs) b 43 (Ex cs b σ) [.ref (b + xo 0 0)]) (Qv D (tyx cs) b 43 (Ex cs b (f_X5_takeNext σ))) 0 0 (fun a => b ≤ a) := by
  refine e_met (by decide) rfl (Nat.le_of_ble_eq_true rfl) (fun pg e s m below meth c ls hx hb hr hml hts0 hown hlk hnm hH hK hl hS => ?_)
  have hts : ∀ w ∈ T0, w.before _ s = true := fun w h => hts0 w (List.mem_cons_of_mem _ h)
  have hl : lv_has ls 1 [(0, .ref (b + xo 0 0))] := hl
  refine lv_aload_n hx hb dX5_takeNext_0 rfl (lv_at hl 0 rfl) ?_
  refine lv_aload_n hx hb dX5_takeNext_1 rfl (lv_at hl 0 rfl) ?_
  refine fgX5_35 hx hb hts hown hK hH 0 (by decide) dX5_takeNext_2 ?_
  refine fgX5_157 hx hb hts hown hK hH 0 (by decide) dX5_takeNext_5 ?_
  refine lv_if_le (tgt := 21) hx hb dX5_takeNext_8 (by decide) (fun c_8_1 => ?_) (fun c_8_1 => ?_)
  ·
    refine lv_aload_n hx hb dX5_takeNext_21 rfl (lv_at hl 0 rfl) ?_
    refine fgX5_39 hx hb hts hown hK hH 0 (by decide) dX5_takeNext_22 ?_
    refine e_cq (e_runV (C := RX4) (ci := 4) (As := []) (rest := [.ref (b + xo 0 0)]) ⟨hx, hb, hml, hown, hts⟩ (k_X4_takeFirst l D cs b σ 1 (by decide) ho.2.1) ⟨callB_of 0 hts (gC wC_X4_takeFirst) rfl rfl rfl (hts _ wi_X4) (hts _ wM_X5_161) (by decide +kernel) (by decide), hts _ wN_X4_takeFirst, hts _ wS_X4_takeFirst⟩ hK hH (xo_ok (by decide)).2.2 (Ex_at cs b σ (by decide)) rfl rfl rfl hl.1 rfl (Nat.le_of_ble_eq_true rfl) dX5_takeNext_25 (by decide)) hS (fun H locs hH hS => ?_)
    rcases hq_25_2 : (f_X4_takeFirst σ 1).1 with _ | q25_2
    ·
      refine W.eq (g2 := F0 m 28 ls [.null, .ref (b + xo 0 0)]) rfl ?_
      refine fpX5_49 hx hb hts hown hK hH hS 0 (by decide) (none) rfl dX5_takeNext_28 (fun H locs hH hS => ?_)
      refine lv_aload_n hx hb dX5_takeNext_31 rfl (lv_at hl 0 rfl) ?_
      refine fgX5_49 hx hb hts hown hK hH 0 (by decide) (none) (rfl) dX5_takeNext_32 ?_
      refine W.eq (g2 := F0 m 35 ls [.null]) rfl ?_
      refine lv_ifnullN (tgt := 54) hx hb dX5_takeNext_35 (by decide) ?_
      exact e_vret hx hb hr hlk hK hH hS dX5_takeNext_54 (congrArg (Ex cs b) (by simp only [f_X5_takeNext, if_pos c_8_1, hq_25_2, oC_none]))
    ·
      have q25_2b := take_lt ho.2.1 hq_25_2
      refine W.eq (g2 := F0 m 28 ls [.ref (b + xo 5 q25_2), .ref (b + xo 0 0)]) rfl ?_
      refine fpX5_49 hx hb hts hown hK hH hS 0 (by decide) (some q25_2) rfl dX5_takeNext_28 (fun H locs hH hS => ?_)
      refine lv_aload_n hx hb dX5_takeNext_31 rfl (lv_at hl 0 rfl) ?_
      refine fgX5_49 hx hb hts hown hK hH 0 (by decide) (some q25_2) (rfl) dX5_takeNext_32 ?_
      refine W.eq (g2 := F0 m 35 ls [.ref (b + xo 5 q25_2)]) rfl ?_
      refine lv_ifnull hx hb dX5_takeNext_35 ?_
      refine lv_aload_n hx hb dX5_takeNext_38 rfl (lv_at hl 0 rfl) ?_
      refine fgX5_49 hx hb hts hown hK hH 0 (by decide) (some q25_2) (rfl) dX5_takeNext_39 ?_
      refine W.eq (g2 := F0 m 42 ls [.ref (b + xo 5 q25_2)]) rfl ?_
      refine lv_iconst (v := 2) hx hb dX5_takeNext_42 (by decide) ?_
      refine fpX5_80 hx hb hts hown hK hH hS q25_2 (show q25_2 < 8 by first | assumption | omega) dX5_takeNext_43 (fun H locs hH hS => ?_)
      refine lv_aload_n hx hb dX5_takeNext_46 rfl (lv_at hl 0 rfl) ?_
      refine fgX5_49 hx hb hts hown hK hH 0 (by decide) (some q25_2) (rfl) dX5_takeNext_47 ?_
      refine W.eq (g2 := F0 m 50 ls [.ref (b + xo 5 q25_2)]) rfl ?_
      refine lv_iconst (v := 0) hx hb dX5_takeNext_50 (by decide) ?_
      refine fpX5_164 hx hb hts hown hK hH hS q25_2 (show q25_2 < 8 by first | assumption | omega) dX5_takeNext_51 (fun H locs hH hS => ?_)
      exact e_vret hx hb hr hlk hK hH hS dX5_takeNext_54 (congrArg (Ex cs b) (by simp only [f_X5_takeNext, if_pos c_8_1, hq_25_2, oC_some]))
  ·
    refine lv_aload_n hx hb dX5_takeNext_11 rfl (lv_at hl 0 rfl) ?_
    refine fgX5_35 hx hb hts hown hK hH 0 (by decide) dX5_takeNext_12 ?_
    refine e_cq (e_runV (C := RX4) (ci := 4) (As := []) (rest := [.ref (b + xo 0 0)]) ⟨hx, hb, hml, hown, hts⟩ (k_X4_takeFirst l D cs b σ 0 (by decide) ho.1) ⟨callB_of 0 hts (gC wC_X4_takeFirst) rfl rfl rfl (hts _ wi_X4) (hts _ wM_X5_161) (by decide +kernel) (by decide), hts _ wN_X4_takeFirst, hts _ wS_X4_takeFirst⟩ hK hH (xo_ok (by decide)).2.2 (Ex_at cs b σ (by decide)) rfl rfl rfl hl.1 rfl (Nat.le_of_ble_eq_true rfl) dX5_takeNext_15 (by decide)) hS (fun H locs hH hS => ?_)
    rcases hq_15_3 : (f_X4_takeFirst σ 0).1 with _ | q15_3
    ·
      refine W.eq (g2 := F0 m 18 ls [.null, .ref (b + xo 0 0)]) rfl ?_
      refine lv_goto (tgt := 28) hx hb dX5_takeNext_18 (by decide) ?_
      refine fpX5_49 hx hb hts hown hK hH hS 0 (by decide) (none) rfl dX5_takeNext_28 (fun H locs hH hS => ?_)
      refine lv_aload_n hx hb dX5_takeNext_31 rfl (lv_at hl 0 rfl) ?_
      refine fgX5_49 hx hb hts hown hK hH 0 (by decide) (none) (rfl) dX5_takeNext_32 ?_
      refine W.eq (g2 := F0 m 35 ls [.null]) rfl ?_
      refine lv_ifnullN (tgt := 54) hx hb dX5_takeNext_35 (by decide) ?_
      exact e_vret hx hb hr hlk hK hH hS dX5_takeNext_54 (congrArg (Ex cs b) (by simp only [f_X5_takeNext, if_neg c_8_1, hq_15_3, oC_none]))
    ·
      have q15_3b := take_lt ho.1 hq_15_3
      refine W.eq (g2 := F0 m 18 ls [.ref (b + xo 5 q15_3), .ref (b + xo 0 0)]) rfl ?_
      refine lv_goto (tgt := 28) hx hb dX5_takeNext_18 (by decide) ?_
      refine fpX5_49 hx hb hts hown hK hH hS 0 (by decide) (some q15_3) rfl dX5_takeNext_28 (fun H locs hH hS => ?_)
      refine lv_aload_n hx hb dX5_takeNext_31 rfl (lv_at hl 0 rfl) ?_
      refine fgX5_49 hx hb hts hown hK hH 0 (by decide) (some q15_3) (rfl) dX5_takeNext_32 ?_
      refine W.eq (g2 := F0 m 35 ls [.ref (b + xo 5 q15_3)]) rfl ?_
      refine lv_ifnull hx hb dX5_takeNext_35 ?_
      refine lv_aload_n hx hb dX5_takeNext_38 rfl (lv_at hl 0 rfl) ?_
      refine fgX5_49 hx hb hts hown hK hH 0 (by decide) (some q15_3) (rfl) dX5_takeNext_39 ?_
      refine W.eq (g2 := F0 m 42 ls [.ref (b + xo 5 q15_3)]) rfl ?_
      refine lv_iconst (v := 2) hx hb dX5_takeNext_42 (by decide) ?_
      refine fpX5_80 hx hb hts hown hK hH hS q15_3 (show q15_3 < 8 by first | assumption | omega) dX5_takeNext_43 (fun H locs hH hS => ?_)
      refine lv_aload_n hx hb dX5_takeNext_46 rfl (lv_at hl 0 rfl) ?_
      refine fgX5_49 hx hb hts hown hK hH 0 (by decide) (some q15_3) (rfl) dX5_takeNext_47 ?_
      refine W.eq (g2 := F0 m 50 ls [.ref (b + xo 5 q15_3)]) rfl ?_
      refine lv_iconst (v := 0) hx hb dX5_takeNext_50 (by decide) ?_
      refine fpX5_164 hx hb hts hown hK hH hS q15_3 (show q15_3 < 8 by first | assumption | omega) dX5_takeNext_51 (fun H locs hH hS => ?_)
      exact e_vret hx hb hr hlk hK hH hS dX5_takeNext_54 (congrArg (Ex cs b) (by simp only [f_X5_takeNext, if_neg c_8_1, hq_15_3, oC_some]))
end
section
def f_X5_jump (σ : St) (q : Nat) (x : Int32) : St := (if gI (sI σ 5 q 4 x) 5 q 3 = 1 then (if gI (sI σ 5 q 4 x) 5 q 9 < 8 then sI σ 5 q 4 x else f_X5_becomeReady (sI σ 5 q 4 x) q) else sI σ 5 q 4 x)
set_option maxRecDepth 100000 in
set_option maxHeartbeats 4000000 in
theorem k_X5_jump (l : Launch) (D : va_G) (cs : Nat → ClassId) (b : Nat) (σ : St) (q : Nat) (x : Int32) (hq : q < 8) : Met l yX5_jump (Cond.code yX5_jump cX5_jump 3 (none : Option FieldType) :: T0) { frames := 2, cells := 0, slots := 0, locals := 42 } (Pe D (tyx cs) b 43 (Ex cs b σ) [.ref (b + xo 0 0), .ref (b + xo 5 q), .int (x)]) (Qv D (tyx cs) b 43 (Ex cs b (f_X5_jump σ q x))) 0 0 (fun a => b ≤ a) := by
  refine e_met (by decide) rfl (Nat.le_of_ble_eq_true rfl) (fun pg e s m below meth c ls hx hb hr hml hts0 hown hlk hnm hH hK hl hS => ?_)
  have hts : ∀ w ∈ T0, w.before _ s = true := fun w h => hts0 w (List.mem_cons_of_mem _ h)
  have hl : lv_has ls 3 [(0, .ref (b + xo 0 0)), (1, .ref (b + xo 5 q)), (2, .int (x))] := hl
  refine lv_aload_n hx hb dX5_jump_0 rfl (lv_at hl 1 rfl) ?_
  refine lv_iload_n hx hb dX5_jump_1 rfl (lv_at hl 2 rfl) ?_
  refine fpX5_167 hx hb hts hown hK hH hS q (show q < 8 by first | assumption | omega) dX5_jump_2 (fun H locs hH hS => ?_)
  refine lv_aload_n hx hb dX5_jump_5 rfl (lv_at hl 1 rfl) ?_
  refine fgX5_133 hx hb hts hown hK hH q (show q < 8 by first | assumption | omega) dX5_jump_6 ?_
  refine lv_iconst (v := 1) hx hb dX5_jump_9 (by decide) ?_
  refine lv_icmp_ne (tgt := 27) hx hb dX5_jump_10 (by decide) (fun c_10_1 => ?_) (fun c_10_1 => ?_)
  ·
    exact e_vret hx hb hr hlk hK hH hS dX5_jump_27 (congrArg (Ex cs b) (by simp only [f_X5_jump, if_neg c_10_1]))
  ·
    refine lv_aload_n hx hb dX5_jump_13 rfl (lv_at hl 1 rfl) ?_
    refine fgX5_164 hx hb hts hown hK hH q (show q < 8 by first | assumption | omega) dX5_jump_14 ?_
    refine lv_bipush (v := 8) hx hb dX5_jump_17 (by decide) ?_
    refine lv_icmp_lt (tgt := 27) hx hb dX5_jump_19 (by decide) (fun c_19_2 => ?_) (fun c_19_2 => ?_)
    ·
      exact e_vret hx hb hr hlk hK hH hS dX5_jump_27 (congrArg (Ex cs b) (by simp only [f_X5_jump, if_pos c_10_1, if_pos c_19_2]))
    ·
      refine lv_aload_n hx hb dX5_jump_22 rfl (lv_at hl 0 rfl) ?_
      refine lv_aload_n hx hb dX5_jump_23 rfl (lv_at hl 1 rfl) ?_
      refine e_cv (e_runV (C := RX5) (ci := 5) (As := [.ref (b + xo 5 q)]) (rest := []) ⟨hx, hb, hml, hown, hts⟩ (k_X5_becomeReady l D cs b (sI σ 5 q 4 x) q (by first | assumption | omega | decide)) ⟨callB_of 1 hts (gC wC_X5_becomeReady) rfl rfl rfl (hts _ wi_X5) (hts _ wM_X5_129) (by decide +kernel) (by decide), hts _ wN_X5_becomeReady, hts _ wS_X5_becomeReady⟩ hK hH (xo_ok (by decide)).2.2 (Ex_at cs b (sI σ 5 q 4 x) (by decide)) rfl rfl rfl hl.1 rfl (Nat.le_of_ble_eq_true rfl) dX5_jump_24 (by decide)) hS (fun H locs hH hS => ?_)
      exact e_vret hx hb hr hlk hK hH hS dX5_jump_27 (congrArg (Ex cs b) (by simp only [f_X5_jump, if_pos c_10_1, if_neg c_19_2]))
def f_X5_jumpIfZero (σ : St) (q : Nat) (x : Int32) : St := (if gI σ 5 q 5 = 0 then sI σ 5 q 4 x else sI (f_X2_drop σ q) 5 q 4 ((gI (f_X2_drop σ q) 5 q 4) + 1))
set_option maxRecDepth 100000 in
set_option maxHeartbeats 4000000 in
theorem k_X5_jumpIfZero (l : Launch) (D : va_G) (cs : Nat → ClassId) (b : Nat) (σ : St) (q : Nat) (x : Int32) (hq : q < 8) : Met l yX5_jumpIfZero (Cond.code yX5_jumpIfZero cX5_jumpIfZero 3 (none : Option FieldType) :: T0) { frames := 1, cells := 0, slots := 0, locals := 20 } (Pe D (tyx cs) b 43 (Ex cs b σ) [.ref (b + xo 0 0), .ref (b + xo 5 q), .int (x)]) (Qv D (tyx cs) b 43 (Ex cs b (f_X5_jumpIfZero σ q x))) 0 0 (fun a => b ≤ a) := by
  refine e_met (by decide) rfl (Nat.le_of_ble_eq_true rfl) (fun pg e s m below meth c ls hx hb hr hml hts0 hown hlk hnm hH hK hl hS => ?_)
  have hts : ∀ w ∈ T0, w.before _ s = true := fun w h => hts0 w (List.mem_cons_of_mem _ h)
  have hl : lv_has ls 3 [(0, .ref (b + xo 0 0)), (1, .ref (b + xo 5 q)), (2, .int (x))] := hl
  refine lv_aload_n hx hb dX5_jumpIfZero_0 rfl (lv_at hl 1 rfl) ?_
  refine fgX5_193 hx hb hts hown hK hH q (show q < 8 by first | assumption | omega) dX5_jumpIfZero_1 ?_
  refine lv_if_ne (tgt := 15) hx hb dX5_jumpIfZero_4 (by decide) (fun c_4_1 => ?_) (fun c_4_1 => ?_)
  ·
    refine lv_aload_n hx hb dX5_jumpIfZero_15 rfl (lv_at hl 1 rfl) ?_
    refine e_cv (e_runV (C := RX2) (ci := 2) (As := []) (rest := []) ⟨hx, hb, hml, hown, hts⟩ (k_X2_drop l D cs b σ q (by first | assumption | omega | decide)) ⟨callB_of 0 hts (gC wC_X2_drop) rfl rfl rfl (hts _ wi_X2) (hts _ wM_X5_210) (by decide +kernel) (by decide), hts _ wN_X2_drop, hts _ wS_X2_drop⟩ hK hH (xo_ok (show q < xn 5 by first | assumption | (show q < 8; first | assumption | omega))).2.2 (Ex_at cs b σ (show q < xn 5 by first | assumption | (show q < 8; first | assumption | omega))) rfl rfl rfl hl.1 rfl (Nat.le_of_ble_eq_true rfl) dX5_jumpIfZero_16 (by decide)) hS (fun H locs hH hS => ?_)
    refine lv_aload_n hx hb dX5_jumpIfZero_19 rfl (lv_at hl 1 rfl) ?_
    refine lv_dup hx hb dX5_jumpIfZero_20 rfl ?_
    refine fgX5_167 hx hb hts hown hK hH q (show q < 8 by first | assumption | omega) dX5_jumpIfZero_21 ?_
    refine lv_iconst (v := 1) hx hb dX5_jumpIfZero_24 (by decide) ?_
    refine lv_iadd hx hb dX5_jumpIfZero_25 ?_
    refine fpX5_167 hx hb hts hown hK hH hS q (show q < 8 by first | assumption | omega) dX5_jumpIfZero_26 (fun H locs hH hS => ?_)
    exact e_vret hx hb hr hlk hK hH hS dX5_jumpIfZero_29 (congrArg (Ex cs b) (by simp only [f_X5_jumpIfZero, if_neg c_4_1]))
  ·
    refine lv_aload_n hx hb dX5_jumpIfZero_7 rfl (lv_at hl 1 rfl) ?_
    refine lv_iload_n hx hb dX5_jumpIfZero_8 rfl (lv_at hl 2 rfl) ?_
    refine fpX5_167 hx hb hts hown hK hH hS q (show q < 8 by first | assumption | omega) dX5_jumpIfZero_9 (fun H locs hH hS => ?_)
    refine lv_goto (tgt := 29) hx hb dX5_jumpIfZero_12 (by decide) ?_
    exact e_vret hx hb hr hlk hK hH hS dX5_jumpIfZero_29 (congrArg (Ex cs b) (by simp only [f_X5_jumpIfZero, if_pos c_4_1]))
def f_X5_awaitTime (σ : St) (q : Nat) : St := (if f_X5_hasCome (sI (f_X2_drop σ q) 5 q 4 ((gI (f_X2_drop σ q) 5 q 4) + 1)) (gI σ 5 q 5) = 0 then sI (sI (sI (f_X2_drop σ q) 5 q 4 ((gI (f_X2_drop σ q) 5 q 4) + 1)) 5 q 8 (gI σ 5 q 5)) 5 q 2 4 else sI (f_X2_drop σ q) 5 q 4 ((gI (f_X2_drop σ q) 5 q 4) + 1))
set_option maxRecDepth 100000 in
set_option maxHeartbeats 4000000 in
theorem k_X5_awaitTime (l : Launch) (D : va_G) (cs : Nat → ClassId) (b : Nat) (σ : St) (q : Nat) (hq : q < 8) : Met l yX5_awaitTime (Cond.code yX5_awaitTime cX5_awaitTime 3 (none : Option FieldType) :: T0) { frames := 1, cells := 0, slots := 0, locals := 21 } (Pe D (tyx cs) b 43 (Ex cs b σ) [.ref (b + xo 0 0), .ref (b + xo 5 q)]) (Qv D (tyx cs) b 43 (Ex cs b (f_X5_awaitTime σ q))) 0 0 (fun a => b ≤ a) := by
  refine e_met (by decide) rfl (Nat.le_of_ble_eq_true rfl) (fun pg e s m below meth c ls hx hb hr hml hts0 hown hlk hnm hH hK hl hS => ?_)
  have hts : ∀ w ∈ T0, w.before _ s = true := fun w h => hts0 w (List.mem_cons_of_mem _ h)
  have hl : lv_has ls 3 [(0, .ref (b + xo 0 0)), (1, .ref (b + xo 5 q))] := hl
  refine lv_aload_n hx hb dX5_awaitTime_0 rfl (lv_at hl 1 rfl) ?_
  refine fgX5_193 hx hb hts hown hK hH q (show q < 8 by first | assumption | omega) dX5_awaitTime_1 ?_
  refine lv_istore_n (lv' := [(2, .int (gI σ 5 q 5)), (0, .ref (b + xo 0 0)), (1, .ref (b + xo 5 q))]) hx hb dX5_awaitTime_4 rfl hl (by decide) rfl (fun ls hl => ?_)
  refine lv_aload_n hx hb dX5_awaitTime_5 rfl (lv_at hl 2 rfl) ?_
  refine e_cv (e_runV (C := RX2) (ci := 2) (As := []) (rest := []) ⟨hx, hb, hml, hown, hts⟩ (k_X2_drop l D cs b σ q (by first | assumption | omega | decide)) ⟨callB_of 0 hts (gC wC_X2_drop) rfl rfl rfl (hts _ wi_X2) (hts _ wM_X5_210) (by decide +kernel) (by decide), hts _ wN_X2_drop, hts _ wS_X2_drop⟩ hK hH (xo_ok (show q < xn 5 by first | assumption | (show q < 8; first | assumption | omega))).2.2 (Ex_at cs b σ (show q < xn 5 by first | assumption | (show q < 8; first | assumption | omega))) rfl rfl rfl hl.1 rfl (Nat.le_of_ble_eq_true rfl) dX5_awaitTime_6 (by decide)) hS (fun H locs hH hS => ?_)
  refine lv_aload_n hx hb dX5_awaitTime_9 rfl (lv_at hl 2 rfl) ?_
  refine lv_dup hx hb dX5_awaitTime_10 rfl ?_
  refine fgX5_167 hx hb hts hown hK hH q (show q < 8 by first | assumption | omega) dX5_awaitTime_11 ?_
  refine lv_iconst (v := 1) hx hb dX5_awaitTime_14 (by decide) ?_
  refine lv_iadd hx hb dX5_awaitTime_15 ?_
  refine fpX5_167 hx hb hts hown hK hH hS q (show q < 8 by first | assumption | omega) dX5_awaitTime_16 (fun H locs hH hS => ?_)
  refine lv_aload_n hx hb dX5_awaitTime_19 rfl (lv_at hl 1 rfl) ?_
  refine lv_iload_n hx hb dX5_awaitTime_20 rfl (lv_at hl 0 rfl) ?_
  refine e_ci (e_runV (C := RX5) (ci := 5) (As := [.int (gI σ 5 q 5)]) (rest := []) ⟨hx, hb, hml, hown, hts⟩ (k_X5_hasCome l D cs b (sI (f_X2_drop σ q) 5 q 4 ((gI (f_X2_drop σ q) 5 q 4) + 1)) (gI σ 5 q 5) ) ⟨callB_of 1 hts (gC wC_X5_hasCome) rfl rfl rfl (hts _ wi_X5) (hts _ wM_X5_154) (by decide +kernel) (by decide), hts _ wN_X5_hasCome, hts _ wS_X5_hasCome⟩ hK hH (xo_ok (by decide)).2.2 (Ex_at cs b (sI (f_X2_drop σ q) 5 q 4 ((gI (f_X2_drop σ q) 5 q 4) + 1)) (by decide)) rfl rfl rfl hl.1 rfl (Nat.le_of_ble_eq_true rfl) dX5_awaitTime_21 (by decide)) hS (fun H locs hH hS => ?_)
  refine lv_if_ne (tgt := 37) hx hb dX5_awaitTime_24 (by decide) (fun c_24_1 => ?_) (fun c_24_1 => ?_)
  ·
    exact e_vret hx hb hr hlk hK hH hS dX5_awaitTime_37 (congrArg (Ex cs b) (by simp only [f_X5_awaitTime, if_neg c_24_1]))
  ·
    refine lv_aload_n hx hb dX5_awaitTime_27 rfl (lv_at hl 2 rfl) ?_
    refine lv_iload_n hx hb dX5_awaitTime_28 rfl (lv_at hl 0 rfl) ?_
    refine fpX5_151 hx hb hts hown hK hH hS q (show q < 8 by first | assumption | omega) dX5_awaitTime_29 (fun H locs hH hS => ?_)
    refine lv_aload_n hx hb dX5_awaitTime_32 rfl (lv_at hl 2 rfl) ?_
    refine lv_iconst (v := 4) hx hb dX5_awaitTime_33 (by decide) ?_
    refine fpX5_80 hx hb hts hown hK hH hS q (show q < 8 by first | assumption | omega) dX5_awaitTime_34 (fun H locs hH hS => ?_)
    exact e_vret hx hb hr hlk hK hH hS dX5_awaitTime_37 (congrArg (Ex cs b) (by simp only [f_X5_awaitTime, if_pos c_24_1]))
def f_X5_deliver (σ : St) (u : Int32) (q : Nat) (w : Nat) (x : Int32) : St := f_X1_append (f_X2_put σ w x) u (nI q) (nI w) x (gI (f_X2_put σ w x) 0 0 7)
set_option maxRecDepth 100000 in
set_option maxHeartbeats 4000000 in
theorem k_X5_deliver (l : Launch) (D : va_G) (cs : Nat → ClassId) (b : Nat) (σ : St) (u : Int32) (q : Nat) (w : Nat) (x : Int32) (hq : q < 8) (hw5 : w < 8) : Met l yX5_deliver (Cond.code yX5_deliver cX5_deliver 5 (none : Option FieldType) :: T0) { frames := 2, cells := 0, slots := 0, locals := 46 } (Pe D (tyx cs) b 43 (Ex cs b σ) [.ref (b + xo 0 0), .int (u), .ref (b + xo 5 q), .ref (b + xo 5 w), .int (x)]) (Qv D (tyx cs) b 43 (Ex cs b (f_X5_deliver σ u q w x))) 0 0 (fun a => b ≤ a) := by
  refine e_met (by decide) rfl (Nat.le_of_ble_eq_true rfl) (fun pg e s m below meth c ls hx hb hr hml hts0 hown hlk hnm hH hK hl hS => ?_)
  have hts : ∀ w ∈ T0, w.before _ s = true := fun w h => hts0 w (List.mem_cons_of_mem _ h)
  have hl : lv_has ls 5 [(0, .ref (b + xo 0 0)), (1, .int (u)), (2, .ref (b + xo 5 q)), (3, .ref (b + xo 5 w)), (4, .int (x))] := hl
  refine lv_aload_n hx hb dX5_deliver_0 rfl (lv_at hl 3 rfl) ?_
  refine lv_iload hx hb dX5_deliver_1 (lv_at hl 4 rfl) ?_
  refine e_cv (e_runV (C := RX2) (ci := 2) (As := [.int (x)]) (rest := []) ⟨hx, hb, hml, hown, hts⟩ (k_X2_put l D cs b σ w x (by first | assumption | omega | decide)) ⟨callB_of 1 hts (gC wC_X2_put) rfl rfl rfl (hts _ wi_X2) (hts _ wM_X5_196) (by decide +kernel) (by decide), hts _ wN_X2_put, hts _ wS_X2_put⟩ hK hH (xo_ok (show w < xn 5 by first | assumption | (show w < 8; first | assumption | omega))).2.2 (Ex_at cs b σ (show w < xn 5 by first | assumption | (show w < 8; first | assumption | omega))) rfl rfl rfl hl.1 rfl (Nat.le_of_ble_eq_true rfl) dX5_deliver_3 (by decide)) hS (fun H locs hH hS => ?_)
  refine lv_aload_n hx hb dX5_deliver_6 rfl (lv_at hl 0 rfl) ?_
  refine fgX5_45 hx hb hts hown hK hH 0 (by decide) dX5_deliver_7 ?_
  refine lv_iload_n hx hb dX5_deliver_10 rfl (lv_at hl 1 rfl) ?_
  refine lv_aload_n hx hb dX5_deliver_11 rfl (lv_at hl 2 rfl) ?_
  refine fgX5_87 hx hb hts hown hK hH q (show q < 8 by first | assumption | omega) dX5_deliver_12 ?_
  refine lv_aload_n hx hb dX5_deliver_15 rfl (lv_at hl 3 rfl) ?_
  refine fgX5_87 hx hb hts hown hK hH w (show w < 8 by first | assumption | omega) dX5_deliver_16 ?_
  refine lv_iload hx hb dX5_deliver_19 (lv_at hl 4 rfl) ?_
  refine lv_aload_n hx hb dX5_deliver_21 rfl (lv_at hl 0 rfl) ?_
  refine fgX5_53 hx hb hts hown hK hH 0 (by decide) dX5_deliver_22 ?_
  refine e_cv (e_runV (C := RX1) (ci := 1) (As := [.int (u), .int (nI q), .int (nI w), .int (x), .int (gI (f_X2_put σ w x) 0 0 7)]) (rest := []) ⟨hx, hb, hml, hown, hts⟩ (k_X1_append l D cs b (f_X2_put σ w x) u (nI q) (nI w) x (gI (f_X2_put σ w x) 0 0 7) ) ⟨callB_of 5 hts (gC wC_X1_append) rfl rfl rfl (hts _ wi_X1) (hts _ wM_X5_240) (by decide +kernel) (by decide), hts _ wN_X1_append, hts _ wS_X1_append⟩ hK hH (xo_ok (by decide)).2.2 (Ex_at cs b (f_X2_put σ w x) (by decide)) rfl rfl rfl hl.1 rfl (Nat.le_of_ble_eq_true rfl) dX5_deliver_25 (by decide)) hS (fun H locs hH hS => ?_)
  exact e_vret hx hb hr hlk hK hH hS dX5_deliver_28 (congrArg (Ex cs b) (by simp only [f_X5_deliver]))
def f_X5_send (σ : St) (q : Nat) (k : Nat) : St := (if f_X0_hasSender σ k = 0 then (oC (gR (sI (f_X2_drop σ q) 5 q 4 ((gI (f_X2_drop σ q) 5 q 4) + 1)) 8 k 1) (f_X0_hold (sI (f_X2_drop σ q) 5 q 4 ((gI (f_X2_drop σ q) 5 q 4) + 1)) k q 1 (gI σ 5 q 5)) (fun q37_2 => f_X5_becomeReady (f_X5_deliver (f_X0_clear (sI (f_X2_drop σ q) 5 q 4 ((gI (f_X2_drop σ q) 5 q 4) + 1)) k) (nI k) q q37_2 (gI σ 5 q 5)) q37_2)) else sI σ 5 q 2 5)
set_option maxRecDepth 100000 in
set_option maxHeartbeats 4000000 in
theorem k_X5_send (l : Launch) (D : va_G) (cs : Nat → ClassId) (b : Nat) (σ : St) (q : Nat) (k : Nat) (hq : q < 8) (hk : k < 4) (hwt : ∀ p, gR σ 8 k 1 = some p → p < 8) : Met l yX5_send (Cond.code yX5_send cX5_send 5 (none : Option FieldType) :: T0) { frames := 3, cells := 0, slots := 0, locals := 70 } (Pe D (tyx cs) b 43 (Ex cs b σ) [.ref (b + xo 0 0), .ref (b + xo 5 q), .ref (b + xo 8 k)]) (Qv D (tyx cs) b 43 (Ex cs b (f_X5_send σ q k))) 0 0 (fun a => b ≤ a) := by
  refine e_met (by decide) rfl (Nat.le_of_ble_eq_true rfl) (fun pg e s m below meth c ls hx hb hr hml hts0 hown hlk hnm hH hK hl hS => ?_)
  have hts : ∀ w ∈ T0, w.before _ s = true := fun w h => hts0 w (List.mem_cons_of_mem _ h)
  have hl : lv_has ls 5 [(0, .ref (b + xo 0 0)), (1, .ref (b + xo 5 q)), (2, .ref (b + xo 8 k))] := hl
  refine lv_aload_n hx hb dX5_send_0 rfl (lv_at hl 2 rfl) ?_
  refine lv_ifnull hx hb dX5_send_1 ?_
  refine lv_aload_n hx hb dX5_send_4 rfl (lv_at hl 2 rfl) ?_
  refine e_ci (e_runV (C := RX0) (ci := 0) (As := []) (rest := []) ⟨hx, hb, hml, hown, hts⟩ (k_X0_hasSender l D cs b σ k (by first | assumption | omega | decide)) ⟨callB_of 0 hts (gC wC_X0_hasSender) rfl rfl rfl (hts _ wi_X0) (hts _ wM_X5_219) (by decide +kernel) (by decide), hts _ wN_X0_hasSender, hts _ wS_X0_hasSender⟩ hK hH (xo_ok (show k < xn 8 by first | assumption | (show k < 4; first | assumption | omega))).2.2 (Ex_at cs b σ (show k < xn 8 by first | assumption | (show k < 4; first | assumption | omega))) rfl rfl rfl hl.1 rfl (Nat.le_of_ble_eq_true rfl) dX5_send_5 (by decide)) hS (fun H locs hH hS => ?_)
  refine lv_if_eq (tgt := 17) hx hb dX5_send_8 (by decide) (fun c_8_1 => ?_) (fun c_8_1 => ?_)
  ·
    refine lv_aload_n hx hb dX5_send_17 rfl (lv_at hl 1 rfl) ?_
    refine fgX5_193 hx hb hts hown hK hH q (show q < 8 by first | assumption | omega) dX5_send_18 ?_
    refine lv_istore_n (lv' := [(3, .int (gI σ 5 q 5)), (0, .ref (b + xo 0 0)), (1, .ref (b + xo 5 q)), (2, .ref (b + xo 8 k))]) hx hb dX5_send_21 rfl hl (by decide) rfl (fun ls hl => ?_)
    refine lv_aload_n hx hb dX5_send_22 rfl (lv_at hl 2 rfl) ?_
    refine e_cv (e_runV (C := RX2) (ci := 2) (As := []) (rest := []) ⟨hx, hb, hml, hown, hts⟩ (k_X2_drop l D cs b σ q (by first | assumption | omega | decide)) ⟨callB_of 0 hts (gC wC_X2_drop) rfl rfl rfl (hts _ wi_X2) (hts _ wM_X5_210) (by decide +kernel) (by decide), hts _ wN_X2_drop, hts _ wS_X2_drop⟩ hK hH (xo_ok (show q < xn 5 by first | assumption | (show q < 8; first | assumption | omega))).2.2 (Ex_at cs b σ (show q < xn 5 by first | assumption | (show q < 8; first | assumption | omega))) rfl rfl rfl hl.1 rfl (Nat.le_of_ble_eq_true rfl) dX5_send_23 (by decide)) hS (fun H locs hH hS => ?_)
    refine lv_aload_n hx hb dX5_send_26 rfl (lv_at hl 2 rfl) ?_
    refine lv_dup hx hb dX5_send_27 rfl ?_
    refine fgX5_167 hx hb hts hown hK hH q (show q < 8 by first | assumption | omega) dX5_send_28 ?_
    refine lv_iconst (v := 1) hx hb dX5_send_31 (by decide) ?_
    refine lv_iadd hx hb dX5_send_32 ?_
    refine fpX5_167 hx hb hts hown hK hH hS q (show q < 8 by first | assumption | omega) dX5_send_33 (fun H locs hH hS => ?_)
    refine lv_aload_n hx hb dX5_send_36 rfl (lv_at hl 3 rfl) ?_
    refine fgX5_222 hx hb hts hown hK hH k (show k < 4 by first | assumption | omega) _ rfl dX5_send_37 ?_
    rcases hq_37_2 : gR (sI (f_X2_drop σ q) 5 q 4 ((gI (f_X2_drop σ q) 5 q 4) + 1)) 8 k 1 with _ | q37_2
    ·
      refine W.eq (g2 := F0 m 40 ls [.null]) rfl ?_
      refine lv_astoreN (lv' := [(4, .null), (3, .int (gI σ 5 q 5)), (0, .ref (b + xo 0 0)), (1, .ref (b + xo 5 q)), (2, .ref (b + xo 8 k))]) hx hb dX5_send_40 hl (by decide) rfl (fun ls hl => ?_)
      refine lv_aloadN hx hb dX5_send_42 (lv_at hl 0 rfl) ?_
      refine lv_ifnonnullN hx hb dX5_send_44 ?_
      refine lv_aload_n hx hb dX5_send_47 rfl (lv_at hl 4 rfl) ?_
      refine lv_aload_n hx hb dX5_send_48 rfl (lv_at hl 3 rfl) ?_
      refine lv_iconst (v := 1) hx hb dX5_send_49 (by decide) ?_
      refine lv_iload_n hx hb dX5_send_50 rfl (lv_at hl 1 rfl) ?_
      refine e_cv (e_runV (C := RX0) (ci := 0) (As := [.ref (b + xo 5 q), .int (1), .int (gI σ 5 q 5)]) (rest := []) ⟨hx, hb, hml, hown, hts⟩ (k_X0_hold l D cs b (sI (f_X2_drop σ q) 5 q 4 ((gI (f_X2_drop σ q) 5 q 4) + 1)) k q 1 (gI σ 5 q 5) (by first | assumption | omega | decide) (by first | assumption | omega | decide) (by first | assumption | omega | decide)) ⟨callB_of 3 hts (gC wC_X0_hold) rfl rfl rfl (hts _ wi_X0) (hts _ wM_X5_225) (by decide +kernel) (by decide), hts _ wN_X0_hold, hts _ wS_X0_hold⟩ hK hH (xo_ok (show k < xn 8 by first | assumption | (show k < 4; first | assumption | omega))).2.2 (Ex_at cs b (sI (f_X2_drop σ q) 5 q 4 ((gI (f_X2_drop σ q) 5 q 4) + 1)) (show k < xn 8 by first | assumption | (show k < 4; first | assumption | omega))) rfl rfl rfl hl.1 rfl (Nat.le_of_ble_eq_true rfl) dX5_send_51 (by decide)) hS (fun H locs hH hS => ?_)
      exact e_vret hx hb hr hlk hK hH hS dX5_send_54 (congrArg (Ex cs b) (by simp only [f_X5_send, if_pos c_8_1, hq_37_2, oC_none]))
    ·
      have q37_2b : q37_2 < 8 := hwt _ hq_37_2
      refine W.eq (g2 := F0 m 40 ls [.ref (b + xo 5 q37_2)]) rfl ?_
      refine lv_astore (lv' := [(4, .ref (b + xo 5 q37_2)), (3, .int (gI σ 5 q 5)), (0, .ref (b + xo 0 0)), (1, .ref (b + xo 5 q)), (2, .ref (b + xo 8 k))]) hx hb dX5_send_40 hl (by decide) rfl (fun ls hl => ?_)
      refine lv_aload hx hb dX5_send_42 (lv_at hl 0 rfl) ?_
      refine lv_ifnonnull (tgt := 55) hx hb dX5_send_44 (by decide) ?_
      refine lv_aload_n hx hb dX5_send_55 rfl (lv_at hl 4 rfl) ?_
      refine e_cv (e_runV (C := RX0) (ci := 0) (As := []) (rest := []) ⟨hx, hb, hml, hown, hts⟩ (k_X0_clear l D cs b (sI (f_X2_drop σ q) 5 q 4 ((gI (f_X2_drop σ q) 5 q 4) + 1)) k (by first | assumption | omega | decide)) ⟨callB_of 0 hts (gC wC_X0_clear) rfl rfl rfl (hts _ wi_X0) (hts _ wM_X5_83) (by decide +kernel) (by decide), hts _ wN_X0_clear, hts _ wS_X0_clear⟩ hK hH (xo_ok (show k < xn 8 by first | assumption | (show k < 4; first | assumption | omega))).2.2 (Ex_at cs b (sI (f_X2_drop σ q) 5 q 4 ((gI (f_X2_drop σ q) 5 q 4) + 1)) (show k < xn 8 by first | assumption | (show k < 4; first | assumption | omega))) rfl rfl rfl hl.1 rfl (Nat.le_of_ble_eq_true rfl) dX5_send_56 (by decide)) hS (fun H locs hH hS => ?_)
      refine lv_aload_n hx hb dX5_send_59 rfl (lv_at hl 2 rfl) ?_
      refine lv_aload_n hx hb dX5_send_60 rfl (lv_at hl 4 rfl) ?_
      refine fgX5_229 hx hb hts hown hK hH k (show k < 4 by first | assumption | omega) dX5_send_61 ?_
      refine lv_aload_n hx hb dX5_send_64 rfl (lv_at hl 3 rfl) ?_
      refine lv_aload hx hb dX5_send_65 (lv_at hl 0 rfl) ?_
      refine lv_iload_n hx hb dX5_send_67 rfl (lv_at hl 1 rfl) ?_
      refine e_cv (e_runV (C := RX5) (ci := 5) (As := [.int (nI k), .ref (b + xo 5 q), .ref (b + xo 5 q37_2), .int (gI σ 5 q 5)]) (rest := []) ⟨hx, hb, hml, hown, hts⟩ (k_X5_deliver l D cs b (f_X0_clear (sI (f_X2_drop σ q) 5 q 4 ((gI (f_X2_drop σ q) 5 q 4) + 1)) k) (nI k) q q37_2 (gI σ 5 q 5) (by first | assumption | omega | decide) (by first | assumption | omega | decide)) ⟨callB_of 4 hts (gC wC_X5_deliver) rfl rfl rfl (hts _ wi_X5) (hts _ wM_X5_230) (by decide +kernel) (by decide), hts _ wN_X5_deliver, hts _ wS_X5_deliver⟩ hK hH (xo_ok (by decide)).2.2 (Ex_at cs b (f_X0_clear (sI (f_X2_drop σ q) 5 q 4 ((gI (f_X2_drop σ q) 5 q 4) + 1)) k) (by decide)) rfl rfl rfl hl.1 rfl (Nat.le_of_ble_eq_true rfl) dX5_send_68 (by decide)) hS (fun H locs hH hS => ?_)
      refine lv_aload_n hx hb dX5_send_71 rfl (lv_at hl 2 rfl) ?_
      refine lv_aload hx hb dX5_send_72 (lv_at hl 0 rfl) ?_
      refine e_cv (e_runV (C := RX5) (ci := 5) (As := [.ref (b + xo 5 q37_2)]) (rest := []) ⟨hx, hb, hml, hown, hts⟩ (k_X5_becomeReady l D cs b (f_X5_deliver (f_X0_clear (sI (f_X2_drop σ q) 5 q 4 ((gI (f_X2_drop σ q) 5 q 4) + 1)) k) (nI k) q q37_2 (gI σ 5 q 5)) q37_2 (by first | assumption | omega | decide)) ⟨callB_of 1 hts (gC wC_X5_becomeReady) rfl rfl rfl (hts _ wi_X5) (hts _ wM_X5_129) (by decide +kernel) (by decide), hts _ wN_X5_becomeReady, hts _ wS_X5_becomeReady⟩ hK hH (xo_ok (by decide)).2.2 (Ex_at cs b (f_X5_deliver (f_X0_clear (sI (f_X2_drop σ q) 5 q 4 ((gI (f_X2_drop σ q) 5 q 4) + 1)) k) (nI k) q q37_2 (gI σ 5 q 5)) (by decide)) rfl rfl rfl hl.1 rfl (Nat.le_of_ble_eq_true rfl) dX5_send_74 (by decide)) hS (fun H locs hH hS => ?_)
      exact e_vret hx hb hr hlk hK hH hS dX5_send_77 (congrArg (Ex cs b) (by simp only [f_X5_send, if_pos c_8_1, hq_37_2, oC_some]))
  ·
    refine lv_aload_n hx hb dX5_send_11 rfl (lv_at hl 1 rfl) ?_
    refine lv_iconst (v := 5) hx hb dX5_send_12 (by decide) ?_
    refine fpX5_80 hx hb hts hown hK hH hS q (show q < 8 by first | assumption | omega) dX5_send_13 (fun H locs hH hS => ?_)
    exact e_vret hx hb hr hlk hK hH hS dX5_send_16 (congrArg (Ex cs b) (by simp only [f_X5_send, if_neg c_8_1]))
def f_X5_sendN (σ : St) (q : Nat) : St := sI σ 5 q 2 5
set_option maxRecDepth 100000 in
set_option maxHeartbeats 4000000 in
theorem k_X5_sendN (l : Launch) (D : va_G) (cs : Nat → ClassId) (b : Nat) (σ : St) (q : Nat) (hq : q < 8) : Met l yX5_send (Cond.code yX5_send cX5_send 5 (none : Option FieldType) :: T0) { frames := 0, cells := 0, slots := 0, locals := 0 } (Pe D (tyx cs) b 43 (Ex cs b σ) [.ref (b + xo 0 0), .ref (b + xo 5 q), .null]) (Qv D (tyx cs) b 43 (Ex cs b (f_X5_sendN σ q))) 0 0 (fun a => b ≤ a) := by
  refine e_met (by decide) rfl (Nat.le_of_ble_eq_true rfl) (fun pg e s m below meth c ls hx hb hr hml hts0 hown hlk hnm hH hK hl hS => ?_)
  have hts : ∀ w ∈ T0, w.before _ s = true := fun w h => hts0 w (List.mem_cons_of_mem _ h)
  have hl : lv_has ls 5 [(0, .ref (b + xo 0 0)), (1, .ref (b + xo 5 q)), (2, .null)] := hl
  refine lv_aload_nN hx hb dX5_send_0 rfl (lv_at hl 2 rfl) ?_
  refine lv_ifnullN (tgt := 11) hx hb dX5_send_1 (by decide) ?_
  refine lv_aload_n hx hb dX5_send_11 rfl (lv_at hl 1 rfl) ?_
  refine lv_iconst (v := 5) hx hb dX5_send_12 (by decide) ?_
  refine fpX5_80 hx hb hts hown hK hH hS q (show q < 8 by first | assumption | omega) dX5_send_13 (fun H locs hH hS => ?_)
  exact e_vret hx hb hr hlk hK hH hS dX5_send_16 (congrArg (Ex cs b) (by simp only [f_X5_sendN]))
def f_X5_receive (σ : St) (q : Nat) (k : Nat) : St := (if f_X0_hasReceiver σ k = 0 then (oC (gR (sI σ 5 q 4 ((gI σ 5 q 4) + 1)) 8 k 1) (f_X0_hold (sI σ 5 q 4 ((gI σ 5 q 4) + 1)) k q 0 0) (fun q28_2 => f_X5_becomeReady (f_X5_deliver (f_X0_clear (sI σ 5 q 4 ((gI σ 5 q 4) + 1)) k) (nI k) q28_2 q (gI (sI σ 5 q 4 ((gI σ 5 q 4) + 1)) 8 k 3)) q28_2)) else sI σ 5 q 2 5)
set_option maxRecDepth 100000 in
set_option maxHeartbeats 4000000 in
theorem k_X5_receive (l : Launch) (D : va_G) (cs : Nat → ClassId) (b : Nat) (σ : St) (q : Nat) (k : Nat) (hq : q < 8) (hk : k < 4) (hwt : ∀ p, gR σ 8 k 1 = some p → p < 8) : Met l yX5_receive (Cond.code yX5_receive cX5_receive 5 (none : Option FieldType) :: T0) { frames := 3, cells := 0, slots := 0, locals := 70 } (Pe D (tyx cs) b 43 (Ex cs b σ) [.ref (b + xo 0 0), .ref (b + xo 5 q), .ref (b + xo 8 k)]) (Qv D (tyx cs) b 43 (Ex cs b (f_X5_receive σ q k))) 0 0 (fun a => b ≤ a) := by
  refine e_met (by decide) rfl (Nat.le_of_ble_eq_true rfl) (fun pg e s m below meth c ls hx hb hr hml hts0 hown hlk hnm hH hK hl hS => ?_)
  have hts : ∀ w ∈ T0, w.before _ s = true := fun w h => hts0 w (List.mem_cons_of_mem _ h)
  have hl : lv_has ls 5 [(0, .ref (b + xo 0 0)), (1, .ref (b + xo 5 q)), (2, .ref (b + xo 8 k))] := hl
  refine lv_aload_n hx hb dX5_receive_0 rfl (lv_at hl 2 rfl) ?_
  refine lv_ifnull hx hb dX5_receive_1 ?_
  refine lv_aload_n hx hb dX5_receive_4 rfl (lv_at hl 2 rfl) ?_
  refine e_ci (e_runV (C := RX0) (ci := 0) (As := []) (rest := []) ⟨hx, hb, hml, hown, hts⟩ (k_X0_hasReceiver l D cs b σ k (by first | assumption | omega | decide)) ⟨callB_of 0 hts (gC wC_X0_hasReceiver) rfl rfl rfl (hts _ wi_X0) (hts _ wM_X5_234) (by decide +kernel) (by decide), hts _ wN_X0_hasReceiver, hts _ wS_X0_hasReceiver⟩ hK hH (xo_ok (show k < xn 8 by first | assumption | (show k < 4; first | assumption | omega))).2.2 (Ex_at cs b σ (show k < xn 8 by first | assumption | (show k < 4; first | assumption | omega))) rfl rfl rfl hl.1 rfl (Nat.le_of_ble_eq_true rfl) dX5_receive_5 (by decide)) hS (fun H locs hH hS => ?_)
  refine lv_if_eq (tgt := 17) hx hb dX5_receive_8 (by decide) (fun c_8_1 => ?_) (fun c_8_1 => ?_)
  ·
    refine lv_aload_n hx hb dX5_receive_17 rfl (lv_at hl 1 rfl) ?_
    refine lv_dup hx hb dX5_receive_18 rfl ?_
    refine fgX5_167 hx hb hts hown hK hH q (show q < 8 by first | assumption | omega) dX5_receive_19 ?_
    refine lv_iconst (v := 1) hx hb dX5_receive_22 (by decide) ?_
    refine lv_iadd hx hb dX5_receive_23 ?_
    refine fpX5_167 hx hb hts hown hK hH hS q (show q < 8 by first | assumption | omega) dX5_receive_24 (fun H locs hH hS => ?_)
    refine lv_aload_n hx hb dX5_receive_27 rfl (lv_at hl 2 rfl) ?_
    refine fgX5_222 hx hb hts hown hK hH k (show k < 4 by first | assumption | omega) _ rfl dX5_receive_28 ?_
    rcases hq_28_2 : gR (sI σ 5 q 4 ((gI σ 5 q 4) + 1)) 8 k 1 with _ | q28_2
    ·
      refine W.eq (g2 := F0 m 31 ls [.null]) rfl ?_
      refine lv_astore_nN (lv' := [(3, .null), (0, .ref (b + xo 0 0)), (1, .ref (b + xo 5 q)), (2, .ref (b + xo 8 k))]) hx hb dX5_receive_31 rfl hl (by decide) rfl (fun ls hl => ?_)
      refine lv_aload_nN hx hb dX5_receive_32 rfl (lv_at hl 0 rfl) ?_
      refine lv_ifnonnullN hx hb dX5_receive_33 ?_
      refine lv_aload_n hx hb dX5_receive_36 rfl (lv_at hl 3 rfl) ?_
      refine lv_aload_n hx hb dX5_receive_37 rfl (lv_at hl 2 rfl) ?_
      refine lv_iconst (v := 0) hx hb dX5_receive_38 (by decide) ?_
      refine lv_iconst (v := 0) hx hb dX5_receive_39 (by decide) ?_
      refine e_cv (e_runV (C := RX0) (ci := 0) (As := [.ref (b + xo 5 q), .int (0), .int (0)]) (rest := []) ⟨hx, hb, hml, hown, hts⟩ (k_X0_hold l D cs b (sI σ 5 q 4 ((gI σ 5 q 4) + 1)) k q 0 0 (by first | assumption | omega | decide) (by first | assumption | omega | decide) (by first | assumption | omega | decide)) ⟨callB_of 3 hts (gC wC_X0_hold) rfl rfl rfl (hts _ wi_X0) (hts _ wM_X5_225) (by decide +kernel) (by decide), hts _ wN_X0_hold, hts _ wS_X0_hold⟩ hK hH (xo_ok (show k < xn 8 by first | assumption | (show k < 4; first | assumption | omega))).2.2 (Ex_at cs b (sI σ 5 q 4 ((gI σ 5 q 4) + 1)) (show k < xn 8 by first | assumption | (show k < 4; first | assumption | omega))) rfl rfl rfl hl.1 rfl (Nat.le_of_ble_eq_true rfl) dX5_receive_40 (by decide)) hS (fun H locs hH hS => ?_)
      exact e_vret hx hb hr hlk hK hH hS dX5_receive_43 (congrArg (Ex cs b) (by simp only [f_X5_receive, if_pos c_8_1, hq_28_2, oC_none]))
    ·
      have q28_2b : q28_2 < 8 := hwt _ hq_28_2
      refine W.eq (g2 := F0 m 31 ls [.ref (b + xo 5 q28_2)]) rfl ?_
      refine lv_astore_n (lv' := [(3, .ref (b + xo 5 q28_2)), (0, .ref (b + xo 0 0)), (1, .ref (b + xo 5 q)), (2, .ref (b + xo 8 k))]) hx hb dX5_receive_31 rfl hl (by decide) rfl (fun ls hl => ?_)
      refine lv_aload_n hx hb dX5_receive_32 rfl (lv_at hl 0 rfl) ?_
      refine lv_ifnonnull (tgt := 44) hx hb dX5_receive_33 (by decide) ?_
      refine lv_aload_n hx hb dX5_receive_44 rfl (lv_at hl 3 rfl) ?_
      refine fgX5_237 hx hb hts hown hK hH k (show k < 4 by first | assumption | omega) dX5_receive_45 ?_
      refine lv_istore (lv' := [(4, .int (gI (sI σ 5 q 4 ((gI σ 5 q 4) + 1)) 8 k 3)), (3, .ref (b + xo 5 q28_2)), (0, .ref (b + xo 0 0)), (1, .ref (b + xo 5 q)), (2, .ref (b + xo 8 k))]) hx hb dX5_receive_48 hl (by decide) rfl (fun ls hl => ?_)
      refine lv_aload_n hx hb dX5_receive_50 rfl (lv_at hl 4 rfl) ?_
      refine e_cv (e_runV (C := RX0) (ci := 0) (As := []) (rest := []) ⟨hx, hb, hml, hown, hts⟩ (k_X0_clear l D cs b (sI σ 5 q 4 ((gI σ 5 q 4) + 1)) k (by first | assumption | omega | decide)) ⟨callB_of 0 hts (gC wC_X0_clear) rfl rfl rfl (hts _ wi_X0) (hts _ wM_X5_83) (by decide +kernel) (by decide), hts _ wN_X0_clear, hts _ wS_X0_clear⟩ hK hH (xo_ok (show k < xn 8 by first | assumption | (show k < 4; first | assumption | omega))).2.2 (Ex_at cs b (sI σ 5 q 4 ((gI σ 5 q 4) + 1)) (show k < xn 8 by first | assumption | (show k < 4; first | assumption | omega))) rfl rfl rfl hl.1 rfl (Nat.le_of_ble_eq_true rfl) dX5_receive_51 (by decide)) hS (fun H locs hH hS => ?_)
      refine lv_aload_n hx hb dX5_receive_54 rfl (lv_at hl 2 rfl) ?_
      refine lv_aload_n hx hb dX5_receive_55 rfl (lv_at hl 4 rfl) ?_
      refine fgX5_229 hx hb hts hown hK hH k (show k < 4 by first | assumption | omega) dX5_receive_56 ?_
      refine lv_aload_n hx hb dX5_receive_59 rfl (lv_at hl 1 rfl) ?_
      refine lv_aload_n hx hb dX5_receive_60 rfl (lv_at hl 3 rfl) ?_
      refine lv_iload hx hb dX5_receive_61 (lv_at hl 0 rfl) ?_
      refine e_cv (e_runV (C := RX5) (ci := 5) (As := [.int (nI k), .ref (b + xo 5 q28_2), .ref (b + xo 5 q), .int (gI (sI σ 5 q 4 ((gI σ 5 q 4) + 1)) 8 k 3)]) (rest := []) ⟨hx, hb, hml, hown, hts⟩ (k_X5_deliver l D cs b (f_X0_clear (sI σ 5 q 4 ((gI σ 5 q 4) + 1)) k) (nI k) q28_2 q (gI (sI σ 5 q 4 ((gI σ 5 q 4) + 1)) 8 k 3) (by first | assumption | omega | decide) (by first | assumption | omega | decide)) ⟨callB_of 4 hts (gC wC_X5_deliver) rfl rfl rfl (hts _ wi_X5) (hts _ wM_X5_230) (by decide +kernel) (by decide), hts _ wN_X5_deliver, hts _ wS_X5_deliver⟩ hK hH (xo_ok (by decide)).2.2 (Ex_at cs b (f_X0_clear (sI σ 5 q 4 ((gI σ 5 q 4) + 1)) k) (by decide)) rfl rfl rfl hl.1 rfl (Nat.le_of_ble_eq_true rfl) dX5_receive_63 (by decide)) hS (fun H locs hH hS => ?_)
      refine lv_aload_n hx hb dX5_receive_66 rfl (lv_at hl 2 rfl) ?_
      refine lv_aload_n hx hb dX5_receive_67 rfl (lv_at hl 1 rfl) ?_
      refine e_cv (e_runV (C := RX5) (ci := 5) (As := [.ref (b + xo 5 q28_2)]) (rest := []) ⟨hx, hb, hml, hown, hts⟩ (k_X5_becomeReady l D cs b (f_X5_deliver (f_X0_clear (sI σ 5 q 4 ((gI σ 5 q 4) + 1)) k) (nI k) q28_2 q (gI (sI σ 5 q 4 ((gI σ 5 q 4) + 1)) 8 k 3)) q28_2 (by first | assumption | omega | decide)) ⟨callB_of 1 hts (gC wC_X5_becomeReady) rfl rfl rfl (hts _ wi_X5) (hts _ wM_X5_129) (by decide +kernel) (by decide), hts _ wN_X5_becomeReady, hts _ wS_X5_becomeReady⟩ hK hH (xo_ok (by decide)).2.2 (Ex_at cs b (f_X5_deliver (f_X0_clear (sI σ 5 q 4 ((gI σ 5 q 4) + 1)) k) (nI k) q28_2 q (gI (sI σ 5 q 4 ((gI σ 5 q 4) + 1)) 8 k 3)) (by decide)) rfl rfl rfl hl.1 rfl (Nat.le_of_ble_eq_true rfl) dX5_receive_68 (by decide)) hS (fun H locs hH hS => ?_)
      exact e_vret hx hb hr hlk hK hH hS dX5_receive_71 (congrArg (Ex cs b) (by simp only [f_X5_receive, if_pos c_8_1, hq_28_2, oC_some]))
  ·
    refine lv_aload_n hx hb dX5_receive_11 rfl (lv_at hl 1 rfl) ?_
    refine lv_iconst (v := 5) hx hb dX5_receive_12 (by decide) ?_
    refine fpX5_80 hx hb hts hown hK hH hS q (show q < 8 by first | assumption | omega) dX5_receive_13 (fun H locs hH hS => ?_)
    exact e_vret hx hb hr hlk hK hH hS dX5_receive_16 (congrArg (Ex cs b) (by simp only [f_X5_receive, if_neg c_8_1]))
def f_X5_receiveN (σ : St) (q : Nat) : St := sI σ 5 q 2 5
set_option maxRecDepth 100000 in
set_option maxHeartbeats 4000000 in
theorem k_X5_receiveN (l : Launch) (D : va_G) (cs : Nat → ClassId) (b : Nat) (σ : St) (q : Nat) (hq : q < 8) : Met l yX5_receive (Cond.code yX5_receive cX5_receive 5 (none : Option FieldType) :: T0) { frames := 0, cells := 0, slots := 0, locals := 0 } (Pe D (tyx cs) b 43 (Ex cs b σ) [.ref (b + xo 0 0), .ref (b + xo 5 q), .null]) (Qv D (tyx cs) b 43 (Ex cs b (f_X5_receiveN σ q))) 0 0 (fun a => b ≤ a) := by
  refine e_met (by decide) rfl (Nat.le_of_ble_eq_true rfl) (fun pg e s m below meth c ls hx hb hr hml hts0 hown hlk hnm hH hK hl hS => ?_)
  have hts : ∀ w ∈ T0, w.before _ s = true := fun w h => hts0 w (List.mem_cons_of_mem _ h)
  have hl : lv_has ls 5 [(0, .ref (b + xo 0 0)), (1, .ref (b + xo 5 q)), (2, .null)] := hl
  refine lv_aload_nN hx hb dX5_receive_0 rfl (lv_at hl 2 rfl) ?_
  refine lv_ifnullN (tgt := 11) hx hb dX5_receive_1 (by decide) ?_
  refine lv_aload_n hx hb dX5_receive_11 rfl (lv_at hl 1 rfl) ?_
  refine lv_iconst (v := 5) hx hb dX5_receive_12 (by decide) ?_
  refine fpX5_80 hx hb hts hown hK hH hS q (show q < 8 by first | assumption | omega) dX5_receive_13 (fun H locs hH hS => ?_)
  exact e_vret hx hb hr hlk hK hH hS dX5_receive_16 (congrArg (Ex cs b) (by simp only [f_X5_receiveN]))
def f_X5_compute (σ : St) (q : Nat) (x : Int32) (y : Int32) : St := (if x = 1 then f_X2_put σ q y else (if x = 2 then f_X2_put σ q (f_X2_word σ q y) else (if x = 3 then f_X2_drop (f_X2_setWord σ q y (gI σ 5 q 5)) q else (if x = 4 then f_X2_replaceTwo σ q ((gI σ 5 q 6) + (gI σ 5 q 5)) else (if x = 5 then f_X2_replaceTwo σ q ((gI σ 5 q 6) - (gI σ 5 q 5)) else (if x = 6 then f_X2_replaceTwo σ q ((gI σ 5 q 6) * (gI σ 5 q 5)) else (if x = 7 then (if gI σ 5 q 6 ≤ gI σ 5 q 5 then f_X2_replaceTwo σ q 0 else f_X2_replaceTwo σ q 1) else (if x = 8 then σ else (if x = 9 then σ else (if x = 10 then σ else (if x = 11 then σ else (if x = 12 then f_X2_put σ q (gI σ 0 0 7) else σ))))))))))))
set_option maxRecDepth 100000 in
set_option maxHeartbeats 4000000 in
theorem k_X5_compute (l : Launch) (D : va_G) (cs : Nat → ClassId) (b : Nat) (σ : St) (q : Nat) (x : Int32) (y : Int32) (hq : q < 8) : Met l yX5_compute (Cond.code yX5_compute cX5_compute 4 (none : Option FieldType) :: T0) { frames := 1, cells := 0, slots := 0, locals := 22 } (Pe D (tyx cs) b 43 (Ex cs b σ) [.ref (b + xo 0 0), .ref (b + xo 5 q), .int (x), .int (y)]) (Qv D (tyx cs) b 43 (Ex cs b (f_X5_compute σ q x y))) 0 0 (fun a => b ≤ a) := by
  refine e_met (by decide) rfl (Nat.le_of_ble_eq_true rfl) (fun pg e s m below meth c ls hx hb hr hml hts0 hown hlk hnm hH hK hl hS => ?_)
  have hts : ∀ w ∈ T0, w.before _ s = true := fun w h => hts0 w (List.mem_cons_of_mem _ h)
  have hl : lv_has ls 4 [(0, .ref (b + xo 0 0)), (1, .ref (b + xo 5 q)), (2, .int (x)), (3, .int (y))] := hl
  refine lv_iload_n hx hb dX5_compute_0 rfl (lv_at hl 2 rfl) ?_
  by_cases c_1_1 : x = 1
  ·
    refine lv_tableIn (off := 63) (tgt := 64) hx hb dX5_compute_1 (by rw [c_1_1]; decide) (by rw [c_1_1]; decide) (by rw [c_1_1]; rfl) (by decide) ?_
    refine lv_aload_n hx hb dX5_compute_64 rfl (lv_at hl 1 rfl) ?_
    refine lv_iload_n hx hb dX5_compute_65 rfl (lv_at hl 3 rfl) ?_
    refine e_cv (e_runV (C := RX2) (ci := 2) (As := [.int (y)]) (rest := []) ⟨hx, hb, hml, hown, hts⟩ (k_X2_put l D cs b σ q y (by first | assumption | omega | decide)) ⟨callB_of 1 hts (gC wC_X2_put) rfl rfl rfl (hts _ wi_X2) (hts _ wM_X5_196) (by decide +kernel) (by decide), hts _ wN_X2_put, hts _ wS_X2_put⟩ hK hH (xo_ok (show q < xn 5 by first | assumption | (show q < 8; first | assumption | omega))).2.2 (Ex_at cs b σ (show q < xn 5 by first | assumption | (show q < 8; first | assumption | omega))) rfl rfl rfl hl.1 rfl (Nat.le_of_ble_eq_true rfl) dX5_compute_66 (by decide)) hS (fun H locs hH hS => ?_)
    refine lv_goto (tgt := 182) hx hb dX5_compute_69 (by decide) ?_
    exact e_vret hx hb hr hlk hK hH hS dX5_compute_182 (congrArg (Ex cs b) (by simp only [f_X5_compute, if_pos c_1_1]))
  by_cases c_1_2 : x = 2
  ·
    refine lv_tableIn (off := 71) (tgt := 72) hx hb dX5_compute_1 (by rw [c_1_2]; decide) (by rw [c_1_2]; decide) (by rw [c_1_2]; rfl) (by decide) ?_
    refine lv_aload_n hx hb dX5_compute_72 rfl (lv_at hl 1 rfl) ?_
    refine lv_aload_n hx hb dX5_compute_73 rfl (lv_at hl 1 rfl) ?_
    refine lv_iload_n hx hb dX5_compute_74 rfl (lv_at hl 3 rfl) ?_
    refine e_ci (e_runV (C := RX2) (ci := 2) (As := [.int (y)]) (rest := [.ref (b + xo 5 q)]) ⟨hx, hb, hml, hown, hts⟩ (k_X2_word l D cs b σ q y (by first | assumption | omega | decide)) ⟨callB_of 1 hts (gC wC_X2_word) rfl rfl rfl (hts _ wi_X2) (hts _ wM_X5_203) (by decide +kernel) (by decide), hts _ wN_X2_word, hts _ wS_X2_word⟩ hK hH (xo_ok (show q < xn 5 by first | assumption | (show q < 8; first | assumption | omega))).2.2 (Ex_at cs b σ (show q < xn 5 by first | assumption | (show q < 8; first | assumption | omega))) rfl rfl rfl hl.1 rfl (Nat.le_of_ble_eq_true rfl) dX5_compute_75 (by decide)) hS (fun H locs hH hS => ?_)
    refine e_cv (e_runV (C := RX2) (ci := 2) (As := [.int (f_X2_word σ q y)]) (rest := []) ⟨hx, hb, hml, hown, hts⟩ (k_X2_put l D cs b σ q (f_X2_word σ q y) (by first | assumption | omega | decide)) ⟨callB_of 1 hts (gC wC_X2_put) rfl rfl rfl (hts _ wi_X2) (hts _ wM_X5_196) (by decide +kernel) (by decide), hts _ wN_X2_put, hts _ wS_X2_put⟩ hK hH (xo_ok (show q < xn 5 by first | assumption | (show q < 8; first | assumption | omega))).2.2 (Ex_at cs b σ (show q < xn 5 by first | assumption | (show q < 8; first | assumption | omega))) rfl rfl rfl hl.1 rfl (Nat.le_of_ble_eq_true rfl) dX5_compute_78 (by decide)) hS (fun H locs hH hS => ?_)
    refine lv_goto (tgt := 182) hx hb dX5_compute_81 (by decide) ?_
    exact e_vret hx hb hr hlk hK hH hS dX5_compute_182 (congrArg (Ex cs b) (by simp only [f_X5_compute, if_neg c_1_1, if_pos c_1_2]))
  by_cases c_1_3 : x = 3
  ·
    refine lv_tableIn (off := 83) (tgt := 84) hx hb dX5_compute_1 (by rw [c_1_3]; decide) (by rw [c_1_3]; decide) (by rw [c_1_3]; rfl) (by decide) ?_
    refine lv_aload_n hx hb dX5_compute_84 rfl (lv_at hl 1 rfl) ?_
    refine lv_iload_n hx hb dX5_compute_85 rfl (lv_at hl 3 rfl) ?_
    refine lv_aload_n hx hb dX5_compute_86 rfl (lv_at hl 1 rfl) ?_
    refine fgX5_193 hx hb hts hown hK hH q (show q < 8 by first | assumption | omega) dX5_compute_87 ?_
    refine e_cv (e_runV (C := RX2) (ci := 2) (As := [.int (y), .int (gI σ 5 q 5)]) (rest := []) ⟨hx, hb, hml, hown, hts⟩ (k_X2_setWord l D cs b σ q y (gI σ 5 q 5) (by first | assumption | omega | decide)) ⟨callB_of 2 hts (gC wC_X2_setWord) rfl rfl rfl (hts _ wi_X2) (hts _ wM_X5_206) (by decide +kernel) (by decide), hts _ wN_X2_setWord, hts _ wS_X2_setWord⟩ hK hH (xo_ok (show q < xn 5 by first | assumption | (show q < 8; first | assumption | omega))).2.2 (Ex_at cs b σ (show q < xn 5 by first | assumption | (show q < 8; first | assumption | omega))) rfl rfl rfl hl.1 rfl (Nat.le_of_ble_eq_true rfl) dX5_compute_90 (by decide)) hS (fun H locs hH hS => ?_)
    refine lv_aload_n hx hb dX5_compute_93 rfl (lv_at hl 1 rfl) ?_
    refine e_cv (e_runV (C := RX2) (ci := 2) (As := []) (rest := []) ⟨hx, hb, hml, hown, hts⟩ (k_X2_drop l D cs b (f_X2_setWord σ q y (gI σ 5 q 5)) q (by first | assumption | omega | decide)) ⟨callB_of 0 hts (gC wC_X2_drop) rfl rfl rfl (hts _ wi_X2) (hts _ wM_X5_210) (by decide +kernel) (by decide), hts _ wN_X2_drop, hts _ wS_X2_drop⟩ hK hH (xo_ok (show q < xn 5 by first | assumption | (show q < 8; first | assumption | omega))).2.2 (Ex_at cs b (f_X2_setWord σ q y (gI σ 5 q 5)) (show q < xn 5 by first | assumption | (show q < 8; first | assumption | omega))) rfl rfl rfl hl.1 rfl (Nat.le_of_ble_eq_true rfl) dX5_compute_94 (by decide)) hS (fun H locs hH hS => ?_)
    refine lv_goto (tgt := 182) hx hb dX5_compute_97 (by decide) ?_
    exact e_vret hx hb hr hlk hK hH hS dX5_compute_182 (congrArg (Ex cs b) (by simp only [f_X5_compute, if_neg c_1_1, if_neg c_1_2, if_pos c_1_3]))
  by_cases c_1_4 : x = 4
  ·
    refine lv_tableIn (off := 99) (tgt := 100) hx hb dX5_compute_1 (by rw [c_1_4]; decide) (by rw [c_1_4]; decide) (by rw [c_1_4]; rfl) (by decide) ?_
    refine lv_aload_n hx hb dX5_compute_100 rfl (lv_at hl 1 rfl) ?_
    refine lv_aload_n hx hb dX5_compute_101 rfl (lv_at hl 1 rfl) ?_
    refine fgX5_213 hx hb hts hown hK hH q (show q < 8 by first | assumption | omega) dX5_compute_102 ?_
    refine lv_aload_n hx hb dX5_compute_105 rfl (lv_at hl 1 rfl) ?_
    refine fgX5_193 hx hb hts hown hK hH q (show q < 8 by first | assumption | omega) dX5_compute_106 ?_
    refine lv_iadd hx hb dX5_compute_109 ?_
    refine e_cv (e_runV (C := RX2) (ci := 2) (As := [.int ((gI σ 5 q 6) + (gI σ 5 q 5))]) (rest := []) ⟨hx, hb, hml, hown, hts⟩ (k_X2_replaceTwo l D cs b σ q ((gI σ 5 q 6) + (gI σ 5 q 5)) (by first | assumption | omega | decide)) ⟨callB_of 1 hts (gC wC_X2_replaceTwo) rfl rfl rfl (hts _ wi_X2) (hts _ wM_X5_216) (by decide +kernel) (by decide), hts _ wN_X2_replaceTwo, hts _ wS_X2_replaceTwo⟩ hK hH (xo_ok (show q < xn 5 by first | assumption | (show q < 8; first | assumption | omega))).2.2 (Ex_at cs b σ (show q < xn 5 by first | assumption | (show q < 8; first | assumption | omega))) rfl rfl rfl hl.1 rfl (Nat.le_of_ble_eq_true rfl) dX5_compute_110 (by decide)) hS (fun H locs hH hS => ?_)
    refine lv_goto (tgt := 182) hx hb dX5_compute_113 (by decide) ?_
    exact e_vret hx hb hr hlk hK hH hS dX5_compute_182 (congrArg (Ex cs b) (by simp only [f_X5_compute, if_neg c_1_1, if_neg c_1_2, if_neg c_1_3, if_pos c_1_4]))
  by_cases c_1_5 : x = 5
  ·
    refine lv_tableIn (off := 115) (tgt := 116) hx hb dX5_compute_1 (by rw [c_1_5]; decide) (by rw [c_1_5]; decide) (by rw [c_1_5]; rfl) (by decide) ?_
    refine lv_aload_n hx hb dX5_compute_116 rfl (lv_at hl 1 rfl) ?_
    refine lv_aload_n hx hb dX5_compute_117 rfl (lv_at hl 1 rfl) ?_
    refine fgX5_213 hx hb hts hown hK hH q (show q < 8 by first | assumption | omega) dX5_compute_118 ?_
    refine lv_aload_n hx hb dX5_compute_121 rfl (lv_at hl 1 rfl) ?_
    refine fgX5_193 hx hb hts hown hK hH q (show q < 8 by first | assumption | omega) dX5_compute_122 ?_
    refine lv_isub hx hb dX5_compute_125 ?_
    refine e_cv (e_runV (C := RX2) (ci := 2) (As := [.int ((gI σ 5 q 6) - (gI σ 5 q 5))]) (rest := []) ⟨hx, hb, hml, hown, hts⟩ (k_X2_replaceTwo l D cs b σ q ((gI σ 5 q 6) - (gI σ 5 q 5)) (by first | assumption | omega | decide)) ⟨callB_of 1 hts (gC wC_X2_replaceTwo) rfl rfl rfl (hts _ wi_X2) (hts _ wM_X5_216) (by decide +kernel) (by decide), hts _ wN_X2_replaceTwo, hts _ wS_X2_replaceTwo⟩ hK hH (xo_ok (show q < xn 5 by first | assumption | (show q < 8; first | assumption | omega))).2.2 (Ex_at cs b σ (show q < xn 5 by first | assumption | (show q < 8; first | assumption | omega))) rfl rfl rfl hl.1 rfl (Nat.le_of_ble_eq_true rfl) dX5_compute_126 (by decide)) hS (fun H locs hH hS => ?_)
    refine lv_goto (tgt := 182) hx hb dX5_compute_129 (by decide) ?_
    exact e_vret hx hb hr hlk hK hH hS dX5_compute_182 (congrArg (Ex cs b) (by simp only [f_X5_compute, if_neg c_1_1, if_neg c_1_2, if_neg c_1_3, if_neg c_1_4, if_pos c_1_5]))
  by_cases c_1_6 : x = 6
  ·
    refine lv_tableIn (off := 131) (tgt := 132) hx hb dX5_compute_1 (by rw [c_1_6]; decide) (by rw [c_1_6]; decide) (by rw [c_1_6]; rfl) (by decide) ?_
    refine lv_aload_n hx hb dX5_compute_132 rfl (lv_at hl 1 rfl) ?_
    refine lv_aload_n hx hb dX5_compute_133 rfl (lv_at hl 1 rfl) ?_
    refine fgX5_213 hx hb hts hown hK hH q (show q < 8 by first | assumption | omega) dX5_compute_134 ?_
    refine lv_aload_n hx hb dX5_compute_137 rfl (lv_at hl 1 rfl) ?_
    refine fgX5_193 hx hb hts hown hK hH q (show q < 8 by first | assumption | omega) dX5_compute_138 ?_
    refine lv_imul hx hb dX5_compute_141 ?_
    refine e_cv (e_runV (C := RX2) (ci := 2) (As := [.int ((gI σ 5 q 6) * (gI σ 5 q 5))]) (rest := []) ⟨hx, hb, hml, hown, hts⟩ (k_X2_replaceTwo l D cs b σ q ((gI σ 5 q 6) * (gI σ 5 q 5)) (by first | assumption | omega | decide)) ⟨callB_of 1 hts (gC wC_X2_replaceTwo) rfl rfl rfl (hts _ wi_X2) (hts _ wM_X5_216) (by decide +kernel) (by decide), hts _ wN_X2_replaceTwo, hts _ wS_X2_replaceTwo⟩ hK hH (xo_ok (show q < xn 5 by first | assumption | (show q < 8; first | assumption | omega))).2.2 (Ex_at cs b σ (show q < xn 5 by first | assumption | (show q < 8; first | assumption | omega))) rfl rfl rfl hl.1 rfl (Nat.le_of_ble_eq_true rfl) dX5_compute_142 (by decide)) hS (fun H locs hH hS => ?_)
    refine lv_goto (tgt := 182) hx hb dX5_compute_145 (by decide) ?_
    exact e_vret hx hb hr hlk hK hH hS dX5_compute_182 (congrArg (Ex cs b) (by simp only [f_X5_compute, if_neg c_1_1, if_neg c_1_2, if_neg c_1_3, if_neg c_1_4, if_neg c_1_5, if_pos c_1_6]))
  by_cases c_1_7 : x = 7
  ·
    refine lv_tableIn (off := 147) (tgt := 148) hx hb dX5_compute_1 (by rw [c_1_7]; decide) (by rw [c_1_7]; decide) (by rw [c_1_7]; rfl) (by decide) ?_
    refine lv_aload_n hx hb dX5_compute_148 rfl (lv_at hl 1 rfl) ?_
    refine lv_aload_n hx hb dX5_compute_149 rfl (lv_at hl 1 rfl) ?_
    refine fgX5_213 hx hb hts hown hK hH q (show q < 8 by first | assumption | omega) dX5_compute_150 ?_
    refine lv_aload_n hx hb dX5_compute_153 rfl (lv_at hl 1 rfl) ?_
    refine fgX5_193 hx hb hts hown hK hH q (show q < 8 by first | assumption | omega) dX5_compute_154 ?_
    refine lv_icmp_le (tgt := 164) hx hb dX5_compute_157 (by decide) (fun c_157_8 => ?_) (fun c_157_8 => ?_)
    ·
      refine lv_iconst (v := 0) hx hb dX5_compute_164 (by decide) ?_
      refine e_cv (e_runV (C := RX2) (ci := 2) (As := [.int (0)]) (rest := []) ⟨hx, hb, hml, hown, hts⟩ (k_X2_replaceTwo l D cs b σ q 0 (by first | assumption | omega | decide)) ⟨callB_of 1 hts (gC wC_X2_replaceTwo) rfl rfl rfl (hts _ wi_X2) (hts _ wM_X5_216) (by decide +kernel) (by decide), hts _ wN_X2_replaceTwo, hts _ wS_X2_replaceTwo⟩ hK hH (xo_ok (show q < xn 5 by first | assumption | (show q < 8; first | assumption | omega))).2.2 (Ex_at cs b σ (show q < xn 5 by first | assumption | (show q < 8; first | assumption | omega))) rfl rfl rfl hl.1 rfl (Nat.le_of_ble_eq_true rfl) dX5_compute_165 (by decide)) hS (fun H locs hH hS => ?_)
      refine lv_goto (tgt := 182) hx hb dX5_compute_168 (by decide) ?_
      exact e_vret hx hb hr hlk hK hH hS dX5_compute_182 (congrArg (Ex cs b) (by simp only [f_X5_compute, if_neg c_1_1, if_neg c_1_2, if_neg c_1_3, if_neg c_1_4, if_neg c_1_5, if_neg c_1_6, if_pos c_1_7, if_pos c_157_8]))
    ·
      refine lv_iconst (v := 1) hx hb dX5_compute_160 (by decide) ?_
      refine lv_goto (tgt := 165) hx hb dX5_compute_161 (by decide) ?_
      refine e_cv (e_runV (C := RX2) (ci := 2) (As := [.int (1)]) (rest := []) ⟨hx, hb, hml, hown, hts⟩ (k_X2_replaceTwo l D cs b σ q 1 (by first | assumption | omega | decide)) ⟨callB_of 1 hts (gC wC_X2_replaceTwo) rfl rfl rfl (hts _ wi_X2) (hts _ wM_X5_216) (by decide +kernel) (by decide), hts _ wN_X2_replaceTwo, hts _ wS_X2_replaceTwo⟩ hK hH (xo_ok (show q < xn 5 by first | assumption | (show q < 8; first | assumption | omega))).2.2 (Ex_at cs b σ (show q < xn 5 by first | assumption | (show q < 8; first | assumption | omega))) rfl rfl rfl hl.1 rfl (Nat.le_of_ble_eq_true rfl) dX5_compute_165 (by decide)) hS (fun H locs hH hS => ?_)
      refine lv_goto (tgt := 182) hx hb dX5_compute_168 (by decide) ?_
      exact e_vret hx hb hr hlk hK hH hS dX5_compute_182 (congrArg (Ex cs b) (by simp only [f_X5_compute, if_neg c_1_1, if_neg c_1_2, if_neg c_1_3, if_neg c_1_4, if_neg c_1_5, if_neg c_1_6, if_pos c_1_7, if_neg c_157_8]))
  by_cases c_1_9 : x = 8
  ·
    refine lv_tableIn (off := 181) (tgt := 182) hx hb dX5_compute_1 (by rw [c_1_9]; decide) (by rw [c_1_9]; decide) (by rw [c_1_9]; rfl) (by decide) ?_
    exact e_vret hx hb hr hlk hK hH hS dX5_compute_182 (congrArg (Ex cs b) (by simp only [f_X5_compute, if_neg c_1_1, if_neg c_1_2, if_neg c_1_3, if_neg c_1_4, if_neg c_1_5, if_neg c_1_6, if_neg c_1_7, if_pos c_1_9]))
  by_cases c_1_10 : x = 9
  ·
    refine lv_tableIn (off := 181) (tgt := 182) hx hb dX5_compute_1 (by rw [c_1_10]; decide) (by rw [c_1_10]; decide) (by rw [c_1_10]; rfl) (by decide) ?_
    exact e_vret hx hb hr hlk hK hH hS dX5_compute_182 (congrArg (Ex cs b) (by simp only [f_X5_compute, if_neg c_1_1, if_neg c_1_2, if_neg c_1_3, if_neg c_1_4, if_neg c_1_5, if_neg c_1_6, if_neg c_1_7, if_neg c_1_9, if_pos c_1_10]))
  by_cases c_1_11 : x = 10
  ·
    refine lv_tableIn (off := 181) (tgt := 182) hx hb dX5_compute_1 (by rw [c_1_11]; decide) (by rw [c_1_11]; decide) (by rw [c_1_11]; rfl) (by decide) ?_
    exact e_vret hx hb hr hlk hK hH hS dX5_compute_182 (congrArg (Ex cs b) (by simp only [f_X5_compute, if_neg c_1_1, if_neg c_1_2, if_neg c_1_3, if_neg c_1_4, if_neg c_1_5, if_neg c_1_6, if_neg c_1_7, if_neg c_1_9, if_neg c_1_10, if_pos c_1_11]))
  by_cases c_1_12 : x = 11
  ·
    refine lv_tableIn (off := 181) (tgt := 182) hx hb dX5_compute_1 (by rw [c_1_12]; decide) (by rw [c_1_12]; decide) (by rw [c_1_12]; rfl) (by decide) ?_
    exact e_vret hx hb hr hlk hK hH hS dX5_compute_182 (congrArg (Ex cs b) (by simp only [f_X5_compute, if_neg c_1_1, if_neg c_1_2, if_neg c_1_3, if_neg c_1_4, if_neg c_1_5, if_neg c_1_6, if_neg c_1_7, if_neg c_1_9, if_neg c_1_10, if_neg c_1_11, if_pos c_1_12]))
  by_cases c_1_13 : x = 12
  ·
    refine lv_tableIn (off := 170) (tgt := 171) hx hb dX5_compute_1 (by rw [c_1_13]; decide) (by rw [c_1_13]; decide) (by rw [c_1_13]; rfl) (by decide) ?_
    refine lv_aload_n hx hb dX5_compute_171 rfl (lv_at hl 1 rfl) ?_
    refine lv_aload_n hx hb dX5_compute_172 rfl (lv_at hl 0 rfl) ?_
    refine fgX5_53 hx hb hts hown hK hH 0 (by decide) dX5_compute_173 ?_
    refine e_cv (e_runV (C := RX2) (ci := 2) (As := [.int (gI σ 0 0 7)]) (rest := []) ⟨hx, hb, hml, hown, hts⟩ (k_X2_put l D cs b σ q (gI σ 0 0 7) (by first | assumption | omega | decide)) ⟨callB_of 1 hts (gC wC_X2_put) rfl rfl rfl (hts _ wi_X2) (hts _ wM_X5_196) (by decide +kernel) (by decide), hts _ wN_X2_put, hts _ wS_X2_put⟩ hK hH (xo_ok (show q < xn 5 by first | assumption | (show q < 8; first | assumption | omega))).2.2 (Ex_at cs b σ (show q < xn 5 by first | assumption | (show q < 8; first | assumption | omega))) rfl rfl rfl hl.1 rfl (Nat.le_of_ble_eq_true rfl) dX5_compute_176 (by decide)) hS (fun H locs hH hS => ?_)
    refine lv_goto (tgt := 182) hx hb dX5_compute_179 (by decide) ?_
    exact e_vret hx hb hr hlk hK hH hS dX5_compute_182 (congrArg (Ex cs b) (by simp only [f_X5_compute, if_neg c_1_1, if_neg c_1_2, if_neg c_1_3, if_neg c_1_4, if_neg c_1_5, if_neg c_1_6, if_neg c_1_7, if_neg c_1_9, if_neg c_1_10, if_neg c_1_11, if_neg c_1_12, if_pos c_1_13]))
  refine lv_tableOut (tgt := 182) hx hb dX5_compute_1 (by have h1 := ne_i 1 c_1_1 (by decide); have h2 := ne_i 2 c_1_2 (by decide); have h3 := ne_i 3 c_1_3 (by decide); have h4 := ne_i 4 c_1_4 (by decide); have h5 := ne_i 5 c_1_5 (by decide); have h6 := ne_i 6 c_1_6 (by decide); have h7 := ne_i 7 c_1_7 (by decide); have h8 := ne_i 8 c_1_9 (by decide); have h9 := ne_i 9 c_1_10 (by decide); have h10 := ne_i 10 c_1_11 (by decide); have h11 := ne_i 11 c_1_12 (by decide); have h12 := ne_i 12 c_1_13 (by decide); omega) (by decide) ?_
  exact e_vret hx hb hr hlk hK hH hS dX5_compute_182 (congrArg (Ex cs b) (by simp only [f_X5_compute, if_neg c_1_1, if_neg c_1_2, if_neg c_1_3, if_neg c_1_4, if_neg c_1_5, if_neg c_1_6, if_neg c_1_7, if_neg c_1_9, if_neg c_1_10, if_neg c_1_11, if_neg c_1_12, if_neg c_1_13]))
end
section
def f_X5_execute (σ : St) (q : Nat) : St := (if f_X3_opAt σ (gI σ 5 q 4) = 0 then sI (sI σ 5 q 9 ((gI σ 5 q 9) + 1)) 5 q 2 5 else (if f_X3_opAt σ (gI σ 5 q 4) = 1 then sI (f_X5_compute (sI σ 5 q 9 ((gI σ 5 q 9) + 1)) q (f_X3_opAt σ (gI σ 5 q 4)) (f_X3_operandAt σ (gI σ 5 q 4))) 5 q 4 ((gI (f_X5_compute (sI σ 5 q 9 ((gI σ 5 q 9) + 1)) q (f_X3_opAt σ (gI σ 5 q 4)) (f_X3_operandAt σ (gI σ 5 q 4))) 5 q 4) + 1) else (if f_X3_opAt σ (gI σ 5 q 4) = 2 then sI (f_X5_compute (sI σ 5 q 9 ((gI σ 5 q 9) + 1)) q (f_X3_opAt σ (gI σ 5 q 4)) (f_X3_operandAt σ (gI σ 5 q 4))) 5 q 4 ((gI (f_X5_compute (sI σ 5 q 9 ((gI σ 5 q 9) + 1)) q (f_X3_opAt σ (gI σ 5 q 4)) (f_X3_operandAt σ (gI σ 5 q 4))) 5 q 4) + 1) else (if f_X3_opAt σ (gI σ 5 q 4) = 3 then sI (f_X5_compute (sI σ 5 q 9 ((gI σ 5 q 9) + 1)) q (f_X3_opAt σ (gI σ 5 q 4)) (f_X3_operandAt σ (gI σ 5 q 4))) 5 q 4 ((gI (f_X5_compute (sI σ 5 q 9 ((gI σ 5 q 9) + 1)) q (f_X3_opAt σ (gI σ 5 q 4)) (f_X3_operandAt σ (gI σ 5 q 4))) 5 q 4) + 1) else (if f_X3_opAt σ (gI σ 5 q 4) = 4 then sI (f_X5_compute (sI σ 5 q 9 ((gI σ 5 q 9) + 1)) q (f_X3_opAt σ (gI σ 5 q 4)) (f_X3_operandAt σ (gI σ 5 q 4))) 5 q 4 ((gI (f_X5_compute (sI σ 5 q 9 ((gI σ 5 q 9) + 1)) q (f_X3_opAt σ (gI σ 5 q 4)) (f_X3_operandAt σ (gI σ 5 q 4))) 5 q 4) + 1) else (if f_X3_opAt σ (gI σ 5 q 4) = 5 then sI (f_X5_compute (sI σ 5 q 9 ((gI σ 5 q 9) + 1)) q (f_X3_opAt σ (gI σ 5 q 4)) (f_X3_operandAt σ (gI σ 5 q 4))) 5 q 4 ((gI (f_X5_compute (sI σ 5 q 9 ((gI σ 5 q 9) + 1)) q (f_X3_opAt σ (gI σ 5 q 4)) (f_X3_operandAt σ (gI σ 5 q 4))) 5 q 4) + 1) else (if f_X3_opAt σ (gI σ 5 q 4) = 6 then sI (f_X5_compute (sI σ 5 q 9 ((gI σ 5 q 9) + 1)) q (f_X3_opAt σ (gI σ 5 q 4)) (f_X3_operandAt σ (gI σ 5 q 4))) 5 q 4 ((gI (f_X5_compute (sI σ 5 q 9 ((gI σ 5 q 9) + 1)) q (f_X3_opAt σ (gI σ 5 q 4)) (f_X3_operandAt σ (gI σ 5 q 4))) 5 q 4) + 1) else (if f_X3_opAt σ (gI σ 5 q 4) = 7 then sI (f_X5_compute (sI σ 5 q 9 ((gI σ 5 q 9) + 1)) q (f_X3_opAt σ (gI σ 5 q 4)) (f_X3_operandAt σ (gI σ 5 q 4))) 5 q 4 ((gI (f_X5_compute (sI σ 5 q 9 ((gI σ 5 q 9) + 1)) q (f_X3_opAt σ (gI σ 5 q 4)) (f_X3_operandAt σ (gI σ 5 q 4))) 5 q 4) + 1) else (if f_X3_opAt σ (gI σ 5 q 4) = 8 then f_X5_jump (sI σ 5 q 9 ((gI σ 5 q 9) + 1)) q (f_X3_operandAt σ (gI σ 5 q 4)) else (if f_X3_opAt σ (gI σ 5 q 4) = 9 then f_X5_jumpIfZero (sI σ 5 q 9 ((gI σ 5 q 9) + 1)) q (f_X3_operandAt σ (gI σ 5 q 4)) else (if f_X3_opAt σ (gI σ 5 q 4) = 10 then (oC (f_X5_channelAt (sI σ 5 q 9 ((gI σ 5 q 9) + 1)) (f_X3_operandAt σ (gI σ 5 q 4))) (f_X5_sendN (sI σ 5 q 9 ((gI σ 5 q 9) + 1)) q) (fun q134_12 => f_X5_send (sI σ 5 q 9 ((gI σ 5 q 9) + 1)) q q134_12)) else (if f_X3_opAt σ (gI σ 5 q 4) = 11 then (oC (f_X5_channelAt (sI σ 5 q 9 ((gI σ 5 q 9) + 1)) (f_X3_operandAt σ (gI σ 5 q 4))) (f_X5_receiveN (sI σ 5 q 9 ((gI σ 5 q 9) + 1)) q) (fun q147_14 => f_X5_receive (sI σ 5 q 9 ((gI σ 5 q 9) + 1)) q q147_14)) else (if f_X3_opAt σ (gI σ 5 q 4) = 12 then sI (f_X5_compute (sI σ 5 q 9 ((gI σ 5 q 9) + 1)) q (f_X3_opAt σ (gI σ 5 q 4)) (f_X3_operandAt σ (gI σ 5 q 4))) 5 q 4 ((gI (f_X5_compute (sI σ 5 q 9 ((gI σ 5 q 9) + 1)) q (f_X3_opAt σ (gI σ 5 q 4)) (f_X3_operandAt σ (gI σ 5 q 4))) 5 q 4) + 1) else (if f_X3_opAt σ (gI σ 5 q 4) = 13 then f_X5_awaitTime (sI σ 5 q 9 ((gI σ 5 q 9) + 1)) q else (if f_X3_opAt σ (gI σ 5 q 4) = 14 then (if (f_X3_operandAt σ (gI σ 5 q 4)) &&& 1 = 0 then sI (f_X2_put ((f_X5_startLeastFree (sI σ 5 q 9 ((gI σ 5 q 9) + 1)) 0 ((f_X3_operandAt σ (gI σ 5 q 4)) / 2) (gI (sI σ 5 q 9 ((gI σ 5 q 9) + 1)) 5 q 5)).2) q ((f_X5_startLeastFree (sI σ 5 q 9 ((gI σ 5 q 9) + 1)) 0 ((f_X3_operandAt σ (gI σ 5 q 4)) / 2) (gI (sI σ 5 q 9 ((gI σ 5 q 9) + 1)) 5 q 5)).1)) 5 q 4 ((gI (f_X2_put ((f_X5_startLeastFree (sI σ 5 q 9 ((gI σ 5 q 9) + 1)) 0 ((f_X3_operandAt σ (gI σ 5 q 4)) / 2) (gI (sI σ 5 q 9 ((gI σ 5 q 9) + 1)) 5 q 5)).2) q ((f_X5_startLeastFree (sI σ 5 q 9 ((gI σ 5 q 9) + 1)) 0 ((f_X3_operandAt σ (gI σ 5 q 4)) / 2) (gI (sI σ 5 q 9 ((gI σ 5 q 9) + 1)) 5 q 5)).1)) 5 q 4) + 1) else sI (f_X2_put ((f_X5_startLeastFree (sI σ 5 q 9 ((gI σ 5 q 9) + 1)) 1 ((f_X3_operandAt σ (gI σ 5 q 4)) / 2) (gI (sI σ 5 q 9 ((gI σ 5 q 9) + 1)) 5 q 5)).2) q ((f_X5_startLeastFree (sI σ 5 q 9 ((gI σ 5 q 9) + 1)) 1 ((f_X3_operandAt σ (gI σ 5 q 4)) / 2) (gI (sI σ 5 q 9 ((gI σ 5 q 9) + 1)) 5 q 5)).1)) 5 q 4 ((gI (f_X2_put ((f_X5_startLeastFree (sI σ 5 q 9 ((gI σ 5 q 9) + 1)) 1 ((f_X3_operandAt σ (gI σ 5 q 4)) / 2) (gI (sI σ 5 q 9 ((gI σ 5 q 9) + 1)) 5 q 5)).2) q ((f_X5_startLeastFree (sI σ 5 q 9 ((gI σ 5 q 9) + 1)) 1 ((f_X3_operandAt σ (gI σ 5 q 4)) / 2) (gI (sI σ 5 q 9 ((gI σ 5 q 9) + 1)) 5 q 5)).1)) 5 q 4) + 1)) else (if f_X3_opAt σ (gI σ 5 q 4) = 15 then sI (sI σ 5 q 9 ((gI σ 5 q 9) + 1)) 5 q 2 0 else sI (f_X5_compute (sI σ 5 q 9 ((gI σ 5 q 9) + 1)) q (f_X3_opAt σ (gI σ 5 q 4)) (f_X3_operandAt σ (gI σ 5 q 4))) 5 q 4 ((gI (f_X5_compute (sI σ 5 q 9 ((gI σ 5 q 9) + 1)) q (f_X3_opAt σ (gI σ 5 q 4)) (f_X3_operandAt σ (gI σ 5 q 4))) 5 q 4) + 1)))))))))))))))))
set_option maxRecDepth 100000 in
set_option maxHeartbeats 4000000 in
theorem k_X5_execute (l : Launch) (D : va_G) (cs : Nat → ClassId) (b : Nat) (σ : St) (q : Nat) (hq : q < 8) (hwt : ∀ k p, gR σ 8 k 1 = some p → p < 8) : Met l yX5_execute (Cond.code yX5_execute cX5_execute 4 (none : Option FieldType) :: T0) { frames := 4, cells := 0, slots := 0, locals := 94 } (Pe D (tyx cs) b 43 (Ex cs b σ) [.ref (b + xo 0 0), .ref (b + xo 5 q)]) (Qv D (tyx cs) b 43 (Ex cs b (f_X5_execute σ q))) 0 0 (fun a => b ≤ a) := by
  refine e_met (by decide) rfl (Nat.le_of_ble_eq_true rfl) (fun pg e s m below meth c ls hx hb hr hml hts0 hown hlk hnm hH hK hl hS => ?_)
  have hts : ∀ w ∈ T0, w.before _ s = true := fun w h => hts0 w (List.mem_cons_of_mem _ h)
  have hl : lv_has ls 4 [(0, .ref (b + xo 0 0)), (1, .ref (b + xo 5 q))] := hl
  refine lv_aload_n hx hb dX5_execute_0 rfl (lv_at hl 0 rfl) ?_
  refine fgX5_10 hx hb hts hown hK hH 0 (by decide) dX5_execute_1 ?_
  refine lv_aload_n hx hb dX5_execute_4 rfl (lv_at hl 1 rfl) ?_
  refine fgX5_167 hx hb hts hown hK hH q (show q < 8 by first | assumption | omega) dX5_execute_5 ?_
  refine e_ci (e_runV (C := RX3) (ci := 3) (As := [.int (gI σ 5 q 4)]) (rest := []) ⟨hx, hb, hml, hown, hts⟩ (k_X3_opAt l D cs b σ (gI σ 5 q 4) ) ⟨callB_of 1 hts (gC wC_X3_opAt) rfl rfl rfl (hts _ wi_X3) (hts _ wM_X5_170) (by decide +kernel) (by decide), hts _ wN_X3_opAt, hts _ wS_X3_opAt⟩ hK hH (xo_ok (by decide)).2.2 (Ex_at cs b σ (by decide)) rfl rfl rfl hl.1 rfl (Nat.le_of_ble_eq_true rfl) dX5_execute_8 (by decide)) hS (fun H locs hH hS => ?_)
  refine lv_istore_n (lv' := [(2, .int (f_X3_opAt σ (gI σ 5 q 4))), (0, .ref (b + xo 0 0)), (1, .ref (b + xo 5 q))]) hx hb dX5_execute_11 rfl hl (by decide) rfl (fun ls hl => ?_)
  refine lv_aload_n hx hb dX5_execute_12 rfl (lv_at hl 1 rfl) ?_
  refine fgX5_10 hx hb hts hown hK hH 0 (by decide) dX5_execute_13 ?_
  refine lv_aload_n hx hb dX5_execute_16 rfl (lv_at hl 2 rfl) ?_
  refine fgX5_167 hx hb hts hown hK hH q (show q < 8 by first | assumption | omega) dX5_execute_17 ?_
  refine e_ci (e_runV (C := RX3) (ci := 3) (As := [.int (gI σ 5 q 4)]) (rest := []) ⟨hx, hb, hml, hown, hts⟩ (k_X3_operandAt l D cs b σ (gI σ 5 q 4) ) ⟨callB_of 1 hts (gC wC_X3_operandAt) rfl rfl rfl (hts _ wi_X3) (hts _ wM_X5_173) (by decide +kernel) (by decide), hts _ wN_X3_operandAt, hts _ wS_X3_operandAt⟩ hK hH (xo_ok (by decide)).2.2 (Ex_at cs b σ (by decide)) rfl rfl rfl hl.1 rfl (Nat.le_of_ble_eq_true rfl) dX5_execute_20 (by decide)) hS (fun H locs hH hS => ?_)
  refine lv_istore_n (lv' := [(3, .int (f_X3_operandAt σ (gI σ 5 q 4))), (2, .int (f_X3_opAt σ (gI σ 5 q 4))), (0, .ref (b + xo 0 0)), (1, .ref (b + xo 5 q))]) hx hb dX5_execute_23 rfl hl (by decide) rfl (fun ls hl => ?_)
  refine lv_aload_n hx hb dX5_execute_24 rfl (lv_at hl 3 rfl) ?_
  refine lv_dup hx hb dX5_execute_25 rfl ?_
  refine fgX5_164 hx hb hts hown hK hH q (show q < 8 by first | assumption | omega) dX5_execute_26 ?_
  refine lv_iconst (v := 1) hx hb dX5_execute_29 (by decide) ?_
  refine lv_iadd hx hb dX5_execute_30 ?_
  refine fpX5_164 hx hb hts hown hK hH hS q (show q < 8 by first | assumption | omega) dX5_execute_31 (fun H locs hH hS => ?_)
  refine lv_iload_n hx hb dX5_execute_34 rfl (lv_at hl 1 rfl) ?_
  by_cases c_35_1 : f_X3_opAt σ (gI σ 5 q 4) = 0
  ·
    refine lv_tableIn (off := 176) (tgt := 211) hx hb dX5_execute_35 (by rw [c_35_1]; decide) (by rw [c_35_1]; decide) (by rw [c_35_1]; rfl) (by decide) ?_
    refine lv_aload_n hx hb dX5_execute_211 rfl (lv_at hl 3 rfl) ?_
    refine lv_iconst (v := 5) hx hb dX5_execute_212 (by decide) ?_
    refine fpX5_80 hx hb hts hown hK hH hS q (show q < 8 by first | assumption | omega) dX5_execute_213 (fun H locs hH hS => ?_)
    refine lv_goto (tgt := 236) hx hb dX5_execute_216 (by decide) ?_
    exact e_vret hx hb hr hlk hK hH hS dX5_execute_236 (congrArg (Ex cs b) (by simp only [f_X5_execute, if_pos c_35_1]))
  by_cases c_35_2 : f_X3_opAt σ (gI σ 5 q 4) = 1
  ·
    refine lv_tableIn (off := 184) (tgt := 219) hx hb dX5_execute_35 (by rw [c_35_2]; decide) (by rw [c_35_2]; decide) (by rw [c_35_2]; rfl) (by decide) ?_
    refine lv_aload_n hx hb dX5_execute_219 rfl (lv_at hl 2 rfl) ?_
    refine lv_aload_n hx hb dX5_execute_220 rfl (lv_at hl 3 rfl) ?_
    refine lv_iload_n hx hb dX5_execute_221 rfl (lv_at hl 1 rfl) ?_
    refine lv_iload_n hx hb dX5_execute_222 rfl (lv_at hl 0 rfl) ?_
    refine e_cv (e_runV (C := RX5) (ci := 5) (As := [.ref (b + xo 5 q), .int (f_X3_opAt σ (gI σ 5 q 4)), .int (f_X3_operandAt σ (gI σ 5 q 4))]) (rest := []) ⟨hx, hb, hml, hown, hts⟩ (k_X5_compute l D cs b (sI σ 5 q 9 ((gI σ 5 q 9) + 1)) q (f_X3_opAt σ (gI σ 5 q 4)) (f_X3_operandAt σ (gI σ 5 q 4)) (by first | assumption | omega | decide)) ⟨callB_of 3 hts (gC wC_X5_compute) rfl rfl rfl (hts _ wi_X5) (hts _ wM_X5_199) (by decide +kernel) (by decide), hts _ wN_X5_compute, hts _ wS_X5_compute⟩ hK hH (xo_ok (by decide)).2.2 (Ex_at cs b (sI σ 5 q 9 ((gI σ 5 q 9) + 1)) (by decide)) rfl rfl rfl hl.1 rfl (Nat.le_of_ble_eq_true rfl) dX5_execute_223 (by decide)) hS (fun H locs hH hS => ?_)
    refine lv_aload_n hx hb dX5_execute_226 rfl (lv_at hl 3 rfl) ?_
    refine lv_dup hx hb dX5_execute_227 rfl ?_
    refine fgX5_167 hx hb hts hown hK hH q (show q < 8 by first | assumption | omega) dX5_execute_228 ?_
    refine lv_iconst (v := 1) hx hb dX5_execute_231 (by decide) ?_
    refine lv_iadd hx hb dX5_execute_232 ?_
    refine fpX5_167 hx hb hts hown hK hH hS q (show q < 8 by first | assumption | omega) dX5_execute_233 (fun H locs hH hS => ?_)
    exact e_vret hx hb hr hlk hK hH hS dX5_execute_236 (congrArg (Ex cs b) (by simp only [f_X5_execute, if_neg c_35_1, if_pos c_35_2]))
  by_cases c_35_3 : f_X3_opAt σ (gI σ 5 q 4) = 2
  ·
    refine lv_tableIn (off := 184) (tgt := 219) hx hb dX5_execute_35 (by rw [c_35_3]; decide) (by rw [c_35_3]; decide) (by rw [c_35_3]; rfl) (by decide) ?_
    refine lv_aload_n hx hb dX5_execute_219 rfl (lv_at hl 2 rfl) ?_
    refine lv_aload_n hx hb dX5_execute_220 rfl (lv_at hl 3 rfl) ?_
    refine lv_iload_n hx hb dX5_execute_221 rfl (lv_at hl 1 rfl) ?_
    refine lv_iload_n hx hb dX5_execute_222 rfl (lv_at hl 0 rfl) ?_
    refine e_cv (e_runV (C := RX5) (ci := 5) (As := [.ref (b + xo 5 q), .int (f_X3_opAt σ (gI σ 5 q 4)), .int (f_X3_operandAt σ (gI σ 5 q 4))]) (rest := []) ⟨hx, hb, hml, hown, hts⟩ (k_X5_compute l D cs b (sI σ 5 q 9 ((gI σ 5 q 9) + 1)) q (f_X3_opAt σ (gI σ 5 q 4)) (f_X3_operandAt σ (gI σ 5 q 4)) (by first | assumption | omega | decide)) ⟨callB_of 3 hts (gC wC_X5_compute) rfl rfl rfl (hts _ wi_X5) (hts _ wM_X5_199) (by decide +kernel) (by decide), hts _ wN_X5_compute, hts _ wS_X5_compute⟩ hK hH (xo_ok (by decide)).2.2 (Ex_at cs b (sI σ 5 q 9 ((gI σ 5 q 9) + 1)) (by decide)) rfl rfl rfl hl.1 rfl (Nat.le_of_ble_eq_true rfl) dX5_execute_223 (by decide)) hS (fun H locs hH hS => ?_)
    refine lv_aload_n hx hb dX5_execute_226 rfl (lv_at hl 3 rfl) ?_
    refine lv_dup hx hb dX5_execute_227 rfl ?_
    refine fgX5_167 hx hb hts hown hK hH q (show q < 8 by first | assumption | omega) dX5_execute_228 ?_
    refine lv_iconst (v := 1) hx hb dX5_execute_231 (by decide) ?_
    refine lv_iadd hx hb dX5_execute_232 ?_
    refine fpX5_167 hx hb hts hown hK hH hS q (show q < 8 by first | assumption | omega) dX5_execute_233 (fun H locs hH hS => ?_)
    exact e_vret hx hb hr hlk hK hH hS dX5_execute_236 (congrArg (Ex cs b) (by simp only [f_X5_execute, if_neg c_35_1, if_neg c_35_2, if_pos c_35_3]))
  by_cases c_35_4 : f_X3_opAt σ (gI σ 5 q 4) = 3
  ·
    refine lv_tableIn (off := 184) (tgt := 219) hx hb dX5_execute_35 (by rw [c_35_4]; decide) (by rw [c_35_4]; decide) (by rw [c_35_4]; rfl) (by decide) ?_
    refine lv_aload_n hx hb dX5_execute_219 rfl (lv_at hl 2 rfl) ?_
    refine lv_aload_n hx hb dX5_execute_220 rfl (lv_at hl 3 rfl) ?_
    refine lv_iload_n hx hb dX5_execute_221 rfl (lv_at hl 1 rfl) ?_
    refine lv_iload_n hx hb dX5_execute_222 rfl (lv_at hl 0 rfl) ?_
    refine e_cv (e_runV (C := RX5) (ci := 5) (As := [.ref (b + xo 5 q), .int (f_X3_opAt σ (gI σ 5 q 4)), .int (f_X3_operandAt σ (gI σ 5 q 4))]) (rest := []) ⟨hx, hb, hml, hown, hts⟩ (k_X5_compute l D cs b (sI σ 5 q 9 ((gI σ 5 q 9) + 1)) q (f_X3_opAt σ (gI σ 5 q 4)) (f_X3_operandAt σ (gI σ 5 q 4)) (by first | assumption | omega | decide)) ⟨callB_of 3 hts (gC wC_X5_compute) rfl rfl rfl (hts _ wi_X5) (hts _ wM_X5_199) (by decide +kernel) (by decide), hts _ wN_X5_compute, hts _ wS_X5_compute⟩ hK hH (xo_ok (by decide)).2.2 (Ex_at cs b (sI σ 5 q 9 ((gI σ 5 q 9) + 1)) (by decide)) rfl rfl rfl hl.1 rfl (Nat.le_of_ble_eq_true rfl) dX5_execute_223 (by decide)) hS (fun H locs hH hS => ?_)
    refine lv_aload_n hx hb dX5_execute_226 rfl (lv_at hl 3 rfl) ?_
    refine lv_dup hx hb dX5_execute_227 rfl ?_
    refine fgX5_167 hx hb hts hown hK hH q (show q < 8 by first | assumption | omega) dX5_execute_228 ?_
    refine lv_iconst (v := 1) hx hb dX5_execute_231 (by decide) ?_
    refine lv_iadd hx hb dX5_execute_232 ?_
    refine fpX5_167 hx hb hts hown hK hH hS q (show q < 8 by first | assumption | omega) dX5_execute_233 (fun H locs hH hS => ?_)
    exact e_vret hx hb hr hlk hK hH hS dX5_execute_236 (congrArg (Ex cs b) (by simp only [f_X5_execute, if_neg c_35_1, if_neg c_35_2, if_neg c_35_3, if_pos c_35_4]))
  by_cases c_35_5 : f_X3_opAt σ (gI σ 5 q 4) = 4
  ·
    refine lv_tableIn (off := 184) (tgt := 219) hx hb dX5_execute_35 (by rw [c_35_5]; decide) (by rw [c_35_5]; decide) (by rw [c_35_5]; rfl) (by decide) ?_
    refine lv_aload_n hx hb dX5_execute_219 rfl (lv_at hl 2 rfl) ?_
    refine lv_aload_n hx hb dX5_execute_220 rfl (lv_at hl 3 rfl) ?_
    refine lv_iload_n hx hb dX5_execute_221 rfl (lv_at hl 1 rfl) ?_
    refine lv_iload_n hx hb dX5_execute_222 rfl (lv_at hl 0 rfl) ?_
    refine e_cv (e_runV (C := RX5) (ci := 5) (As := [.ref (b + xo 5 q), .int (f_X3_opAt σ (gI σ 5 q 4)), .int (f_X3_operandAt σ (gI σ 5 q 4))]) (rest := []) ⟨hx, hb, hml, hown, hts⟩ (k_X5_compute l D cs b (sI σ 5 q 9 ((gI σ 5 q 9) + 1)) q (f_X3_opAt σ (gI σ 5 q 4)) (f_X3_operandAt σ (gI σ 5 q 4)) (by first | assumption | omega | decide)) ⟨callB_of 3 hts (gC wC_X5_compute) rfl rfl rfl (hts _ wi_X5) (hts _ wM_X5_199) (by decide +kernel) (by decide), hts _ wN_X5_compute, hts _ wS_X5_compute⟩ hK hH (xo_ok (by decide)).2.2 (Ex_at cs b (sI σ 5 q 9 ((gI σ 5 q 9) + 1)) (by decide)) rfl rfl rfl hl.1 rfl (Nat.le_of_ble_eq_true rfl) dX5_execute_223 (by decide)) hS (fun H locs hH hS => ?_)
    refine lv_aload_n hx hb dX5_execute_226 rfl (lv_at hl 3 rfl) ?_
    refine lv_dup hx hb dX5_execute_227 rfl ?_
    refine fgX5_167 hx hb hts hown hK hH q (show q < 8 by first | assumption | omega) dX5_execute_228 ?_
    refine lv_iconst (v := 1) hx hb dX5_execute_231 (by decide) ?_
    refine lv_iadd hx hb dX5_execute_232 ?_
    refine fpX5_167 hx hb hts hown hK hH hS q (show q < 8 by first | assumption | omega) dX5_execute_233 (fun H locs hH hS => ?_)
    exact e_vret hx hb hr hlk hK hH hS dX5_execute_236 (congrArg (Ex cs b) (by simp only [f_X5_execute, if_neg c_35_1, if_neg c_35_2, if_neg c_35_3, if_neg c_35_4, if_pos c_35_5]))
  by_cases c_35_6 : f_X3_opAt σ (gI σ 5 q 4) = 5
  ·
    refine lv_tableIn (off := 184) (tgt := 219) hx hb dX5_execute_35 (by rw [c_35_6]; decide) (by rw [c_35_6]; decide) (by rw [c_35_6]; rfl) (by decide) ?_
    refine lv_aload_n hx hb dX5_execute_219 rfl (lv_at hl 2 rfl) ?_
    refine lv_aload_n hx hb dX5_execute_220 rfl (lv_at hl 3 rfl) ?_
    refine lv_iload_n hx hb dX5_execute_221 rfl (lv_at hl 1 rfl) ?_
    refine lv_iload_n hx hb dX5_execute_222 rfl (lv_at hl 0 rfl) ?_
    refine e_cv (e_runV (C := RX5) (ci := 5) (As := [.ref (b + xo 5 q), .int (f_X3_opAt σ (gI σ 5 q 4)), .int (f_X3_operandAt σ (gI σ 5 q 4))]) (rest := []) ⟨hx, hb, hml, hown, hts⟩ (k_X5_compute l D cs b (sI σ 5 q 9 ((gI σ 5 q 9) + 1)) q (f_X3_opAt σ (gI σ 5 q 4)) (f_X3_operandAt σ (gI σ 5 q 4)) (by first | assumption | omega | decide)) ⟨callB_of 3 hts (gC wC_X5_compute) rfl rfl rfl (hts _ wi_X5) (hts _ wM_X5_199) (by decide +kernel) (by decide), hts _ wN_X5_compute, hts _ wS_X5_compute⟩ hK hH (xo_ok (by decide)).2.2 (Ex_at cs b (sI σ 5 q 9 ((gI σ 5 q 9) + 1)) (by decide)) rfl rfl rfl hl.1 rfl (Nat.le_of_ble_eq_true rfl) dX5_execute_223 (by decide)) hS (fun H locs hH hS => ?_)
    refine lv_aload_n hx hb dX5_execute_226 rfl (lv_at hl 3 rfl) ?_
    refine lv_dup hx hb dX5_execute_227 rfl ?_
    refine fgX5_167 hx hb hts hown hK hH q (show q < 8 by first | assumption | omega) dX5_execute_228 ?_
    refine lv_iconst (v := 1) hx hb dX5_execute_231 (by decide) ?_
    refine lv_iadd hx hb dX5_execute_232 ?_
    refine fpX5_167 hx hb hts hown hK hH hS q (show q < 8 by first | assumption | omega) dX5_execute_233 (fun H locs hH hS => ?_)
    exact e_vret hx hb hr hlk hK hH hS dX5_execute_236 (congrArg (Ex cs b) (by simp only [f_X5_execute, if_neg c_35_1, if_neg c_35_2, if_neg c_35_3, if_neg c_35_4, if_neg c_35_5, if_pos c_35_6]))
  by_cases c_35_7 : f_X3_opAt σ (gI σ 5 q 4) = 6
  ·
    refine lv_tableIn (off := 184) (tgt := 219) hx hb dX5_execute_35 (by rw [c_35_7]; decide) (by rw [c_35_7]; decide) (by rw [c_35_7]; rfl) (by decide) ?_
    refine lv_aload_n hx hb dX5_execute_219 rfl (lv_at hl 2 rfl) ?_
    refine lv_aload_n hx hb dX5_execute_220 rfl (lv_at hl 3 rfl) ?_
    refine lv_iload_n hx hb dX5_execute_221 rfl (lv_at hl 1 rfl) ?_
    refine lv_iload_n hx hb dX5_execute_222 rfl (lv_at hl 0 rfl) ?_
    refine e_cv (e_runV (C := RX5) (ci := 5) (As := [.ref (b + xo 5 q), .int (f_X3_opAt σ (gI σ 5 q 4)), .int (f_X3_operandAt σ (gI σ 5 q 4))]) (rest := []) ⟨hx, hb, hml, hown, hts⟩ (k_X5_compute l D cs b (sI σ 5 q 9 ((gI σ 5 q 9) + 1)) q (f_X3_opAt σ (gI σ 5 q 4)) (f_X3_operandAt σ (gI σ 5 q 4)) (by first | assumption | omega | decide)) ⟨callB_of 3 hts (gC wC_X5_compute) rfl rfl rfl (hts _ wi_X5) (hts _ wM_X5_199) (by decide +kernel) (by decide), hts _ wN_X5_compute, hts _ wS_X5_compute⟩ hK hH (xo_ok (by decide)).2.2 (Ex_at cs b (sI σ 5 q 9 ((gI σ 5 q 9) + 1)) (by decide)) rfl rfl rfl hl.1 rfl (Nat.le_of_ble_eq_true rfl) dX5_execute_223 (by decide)) hS (fun H locs hH hS => ?_)
    refine lv_aload_n hx hb dX5_execute_226 rfl (lv_at hl 3 rfl) ?_
    refine lv_dup hx hb dX5_execute_227 rfl ?_
    refine fgX5_167 hx hb hts hown hK hH q (show q < 8 by first | assumption | omega) dX5_execute_228 ?_
    refine lv_iconst (v := 1) hx hb dX5_execute_231 (by decide) ?_
    refine lv_iadd hx hb dX5_execute_232 ?_
    refine fpX5_167 hx hb hts hown hK hH hS q (show q < 8 by first | assumption | omega) dX5_execute_233 (fun H locs hH hS => ?_)
    exact e_vret hx hb hr hlk hK hH hS dX5_execute_236 (congrArg (Ex cs b) (by simp only [f_X5_execute, if_neg c_35_1, if_neg c_35_2, if_neg c_35_3, if_neg c_35_4, if_neg c_35_5, if_neg c_35_6, if_pos c_35_7]))
  by_cases c_35_8 : f_X3_opAt σ (gI σ 5 q 4) = 7
  ·
    refine lv_tableIn (off := 184) (tgt := 219) hx hb dX5_execute_35 (by rw [c_35_8]; decide) (by rw [c_35_8]; decide) (by rw [c_35_8]; rfl) (by decide) ?_
    refine lv_aload_n hx hb dX5_execute_219 rfl (lv_at hl 2 rfl) ?_
    refine lv_aload_n hx hb dX5_execute_220 rfl (lv_at hl 3 rfl) ?_
    refine lv_iload_n hx hb dX5_execute_221 rfl (lv_at hl 1 rfl) ?_
    refine lv_iload_n hx hb dX5_execute_222 rfl (lv_at hl 0 rfl) ?_
    refine e_cv (e_runV (C := RX5) (ci := 5) (As := [.ref (b + xo 5 q), .int (f_X3_opAt σ (gI σ 5 q 4)), .int (f_X3_operandAt σ (gI σ 5 q 4))]) (rest := []) ⟨hx, hb, hml, hown, hts⟩ (k_X5_compute l D cs b (sI σ 5 q 9 ((gI σ 5 q 9) + 1)) q (f_X3_opAt σ (gI σ 5 q 4)) (f_X3_operandAt σ (gI σ 5 q 4)) (by first | assumption | omega | decide)) ⟨callB_of 3 hts (gC wC_X5_compute) rfl rfl rfl (hts _ wi_X5) (hts _ wM_X5_199) (by decide +kernel) (by decide), hts _ wN_X5_compute, hts _ wS_X5_compute⟩ hK hH (xo_ok (by decide)).2.2 (Ex_at cs b (sI σ 5 q 9 ((gI σ 5 q 9) + 1)) (by decide)) rfl rfl rfl hl.1 rfl (Nat.le_of_ble_eq_true rfl) dX5_execute_223 (by decide)) hS (fun H locs hH hS => ?_)
    refine lv_aload_n hx hb dX5_execute_226 rfl (lv_at hl 3 rfl) ?_
    refine lv_dup hx hb dX5_execute_227 rfl ?_
    refine fgX5_167 hx hb hts hown hK hH q (show q < 8 by first | assumption | omega) dX5_execute_228 ?_
    refine lv_iconst (v := 1) hx hb dX5_execute_231 (by decide) ?_
    refine lv_iadd hx hb dX5_execute_232 ?_
    refine fpX5_167 hx hb hts hown hK hH hS q (show q < 8 by first | assumption | omega) dX5_execute_233 (fun H locs hH hS => ?_)
    exact e_vret hx hb hr hlk hK hH hS dX5_execute_236 (congrArg (Ex cs b) (by simp only [f_X5_execute, if_neg c_35_1, if_neg c_35_2, if_neg c_35_3, if_neg c_35_4, if_neg c_35_5, if_neg c_35_6, if_neg c_35_7, if_pos c_35_8]))
  by_cases c_35_9 : f_X3_opAt σ (gI σ 5 q 4) = 8
  ·
    refine lv_tableIn (off := 77) (tgt := 112) hx hb dX5_execute_35 (by rw [c_35_9]; decide) (by rw [c_35_9]; decide) (by rw [c_35_9]; rfl) (by decide) ?_
    refine lv_aload_n hx hb dX5_execute_112 rfl (lv_at hl 2 rfl) ?_
    refine lv_aload_n hx hb dX5_execute_113 rfl (lv_at hl 3 rfl) ?_
    refine lv_iload_n hx hb dX5_execute_114 rfl (lv_at hl 0 rfl) ?_
    refine e_cv (e_runV (C := RX5) (ci := 5) (As := [.ref (b + xo 5 q), .int (f_X3_operandAt σ (gI σ 5 q 4))]) (rest := []) ⟨hx, hb, hml, hown, hts⟩ (k_X5_jump l D cs b (sI σ 5 q 9 ((gI σ 5 q 9) + 1)) q (f_X3_operandAt σ (gI σ 5 q 4)) (by first | assumption | omega | decide)) ⟨callB_of 2 hts (gC wC_X5_jump) rfl rfl rfl (hts _ wi_X5) (hts _ wM_X5_176) (by decide +kernel) (by decide), hts _ wN_X5_jump, hts _ wS_X5_jump⟩ hK hH (xo_ok (by decide)).2.2 (Ex_at cs b (sI σ 5 q 9 ((gI σ 5 q 9) + 1)) (by decide)) rfl rfl rfl hl.1 rfl (Nat.le_of_ble_eq_true rfl) dX5_execute_115 (by decide)) hS (fun H locs hH hS => ?_)
    refine lv_goto (tgt := 236) hx hb dX5_execute_118 (by decide) ?_
    exact e_vret hx hb hr hlk hK hH hS dX5_execute_236 (congrArg (Ex cs b) (by simp only [f_X5_execute, if_neg c_35_1, if_neg c_35_2, if_neg c_35_3, if_neg c_35_4, if_neg c_35_5, if_neg c_35_6, if_neg c_35_7, if_neg c_35_8, if_pos c_35_9]))
  by_cases c_35_10 : f_X3_opAt σ (gI σ 5 q 4) = 9
  ·
    refine lv_tableIn (off := 86) (tgt := 121) hx hb dX5_execute_35 (by rw [c_35_10]; decide) (by rw [c_35_10]; decide) (by rw [c_35_10]; rfl) (by decide) ?_
    refine lv_aload_n hx hb dX5_execute_121 rfl (lv_at hl 2 rfl) ?_
    refine lv_aload_n hx hb dX5_execute_122 rfl (lv_at hl 3 rfl) ?_
    refine lv_iload_n hx hb dX5_execute_123 rfl (lv_at hl 0 rfl) ?_
    refine e_cv (e_runV (C := RX5) (ci := 5) (As := [.ref (b + xo 5 q), .int (f_X3_operandAt σ (gI σ 5 q 4))]) (rest := []) ⟨hx, hb, hml, hown, hts⟩ (k_X5_jumpIfZero l D cs b (sI σ 5 q 9 ((gI σ 5 q 9) + 1)) q (f_X3_operandAt σ (gI σ 5 q 4)) (by first | assumption | omega | decide)) ⟨callB_of 2 hts (gC wC_X5_jumpIfZero) rfl rfl rfl (hts _ wi_X5) (hts _ wM_X5_180) (by decide +kernel) (by decide), hts _ wN_X5_jumpIfZero, hts _ wS_X5_jumpIfZero⟩ hK hH (xo_ok (by decide)).2.2 (Ex_at cs b (sI σ 5 q 9 ((gI σ 5 q 9) + 1)) (by decide)) rfl rfl rfl hl.1 rfl (Nat.le_of_ble_eq_true rfl) dX5_execute_124 (by decide)) hS (fun H locs hH hS => ?_)
    refine lv_goto (tgt := 236) hx hb dX5_execute_127 (by decide) ?_
    exact e_vret hx hb hr hlk hK hH hS dX5_execute_236 (congrArg (Ex cs b) (by simp only [f_X5_execute, if_neg c_35_1, if_neg c_35_2, if_neg c_35_3, if_neg c_35_4, if_neg c_35_5, if_neg c_35_6, if_neg c_35_7, if_neg c_35_8, if_neg c_35_9, if_pos c_35_10]))
  by_cases c_35_11 : f_X3_opAt σ (gI σ 5 q 4) = 10
  ·
    refine lv_tableIn (off := 95) (tgt := 130) hx hb dX5_execute_35 (by rw [c_35_11]; decide) (by rw [c_35_11]; decide) (by rw [c_35_11]; rfl) (by decide) ?_
    refine lv_aload_n hx hb dX5_execute_130 rfl (lv_at hl 2 rfl) ?_
    refine lv_aload_n hx hb dX5_execute_131 rfl (lv_at hl 3 rfl) ?_
    refine lv_aload_n hx hb dX5_execute_132 rfl (lv_at hl 2 rfl) ?_
    refine lv_iload_n hx hb dX5_execute_133 rfl (lv_at hl 0 rfl) ?_
    refine e_cq (e_runV (C := RX5) (ci := 5) (As := [.int (f_X3_operandAt σ (gI σ 5 q 4))]) (rest := [.ref (b + xo 5 q), .ref (b + xo 0 0)]) ⟨hx, hb, hml, hown, hts⟩ (k_X5_channelAt l D cs b (sI σ 5 q 9 ((gI σ 5 q 9) + 1)) (f_X3_operandAt σ (gI σ 5 q 4)) ) ⟨callB_of 1 hts (gC wC_X5_channelAt) rfl rfl rfl (hts _ wi_X5) (hts _ wM_X5_107) (by decide +kernel) (by decide), hts _ wN_X5_channelAt, hts _ wS_X5_channelAt⟩ hK hH (xo_ok (by decide)).2.2 (Ex_at cs b (sI σ 5 q 9 ((gI σ 5 q 9) + 1)) (by decide)) rfl rfl rfl hl.1 rfl (Nat.le_of_ble_eq_true rfl) dX5_execute_134 (by decide)) hS (fun H locs hH hS => ?_)
    rcases hq_134_12 : f_X5_channelAt (sI σ 5 q 9 ((gI σ 5 q 9) + 1)) (f_X3_operandAt σ (gI σ 5 q 4)) with _ | q134_12
    ·
      refine W.eq (g2 := F0 m 137 ls [.null, .ref (b + xo 5 q), .ref (b + xo 0 0)]) rfl ?_
      refine e_cv (e_runV (C := RX5) (ci := 5) (As := [.ref (b + xo 5 q), .null]) (rest := []) ⟨hx, hb, hml, hown, hts⟩ (k_X5_sendN l D cs b (sI σ 5 q 9 ((gI σ 5 q 9) + 1)) q (by assumption)) ⟨callB_of 2 hts (gC wC_X5_send) rfl rfl rfl (hts _ wi_X5) (hts _ wM_X5_183) (by decide +kernel) (by decide), hts _ wN_X5_send, hts _ wS_X5_send⟩ hK hH (xo_ok (by decide)).2.2 (Ex_at cs b (sI σ 5 q 9 ((gI σ 5 q 9) + 1)) (by decide)) rfl rfl rfl hl.1 rfl (Nat.le_of_ble_eq_true rfl) dX5_execute_137 (by decide)) hS (fun H locs hH hS => ?_)
      refine lv_goto (tgt := 236) hx hb dX5_execute_140 (by decide) ?_
      exact e_vret hx hb hr hlk hK hH hS dX5_execute_236 (congrArg (Ex cs b) (by simp only [f_X5_execute, if_neg c_35_1, if_neg c_35_2, if_neg c_35_3, if_neg c_35_4, if_neg c_35_5, if_neg c_35_6, if_neg c_35_7, if_neg c_35_8, if_neg c_35_9, if_neg c_35_10, if_pos c_35_11, hq_134_12, oC_none]))
    ·
      have q134_12b := channelAt_lt hq_134_12
      refine W.eq (g2 := F0 m 137 ls [.ref (b + xo 8 q134_12), .ref (b + xo 5 q), .ref (b + xo 0 0)]) rfl ?_
      refine e_cv (e_runV (C := RX5) (ci := 5) (As := [.ref (b + xo 5 q), .ref (b + xo 8 q134_12)]) (rest := []) ⟨hx, hb, hml, hown, hts⟩ (k_X5_send l D cs b (sI σ 5 q 9 ((gI σ 5 q 9) + 1)) q q134_12 (by assumption) (by assumption) (hwt _)) ⟨callB_of 2 hts (gC wC_X5_send) rfl rfl rfl (hts _ wi_X5) (hts _ wM_X5_183) (by decide +kernel) (by decide), hts _ wN_X5_send, hts _ wS_X5_send⟩ hK hH (xo_ok (by decide)).2.2 (Ex_at cs b (sI σ 5 q 9 ((gI σ 5 q 9) + 1)) (by decide)) rfl rfl rfl hl.1 rfl (Nat.le_of_ble_eq_true rfl) dX5_execute_137 (by decide)) hS (fun H locs hH hS => ?_)
      refine lv_goto (tgt := 236) hx hb dX5_execute_140 (by decide) ?_
      exact e_vret hx hb hr hlk hK hH hS dX5_execute_236 (congrArg (Ex cs b) (by simp only [f_X5_execute, if_neg c_35_1, if_neg c_35_2, if_neg c_35_3, if_neg c_35_4, if_neg c_35_5, if_neg c_35_6, if_neg c_35_7, if_neg c_35_8, if_neg c_35_9, if_neg c_35_10, if_pos c_35_11, hq_134_12, oC_some]))
  by_cases c_35_13 : f_X3_opAt σ (gI σ 5 q 4) = 11
  ·
    refine lv_tableIn (off := 108) (tgt := 143) hx hb dX5_execute_35 (by rw [c_35_13]; decide) (by rw [c_35_13]; decide) (by rw [c_35_13]; rfl) (by decide) ?_
    refine lv_aload_n hx hb dX5_execute_143 rfl (lv_at hl 2 rfl) ?_
    refine lv_aload_n hx hb dX5_execute_144 rfl (lv_at hl 3 rfl) ?_
    refine lv_aload_n hx hb dX5_execute_145 rfl (lv_at hl 2 rfl) ?_
    refine lv_iload_n hx hb dX5_execute_146 rfl (lv_at hl 0 rfl) ?_
    refine e_cq (e_runV (C := RX5) (ci := 5) (As := [.int (f_X3_operandAt σ (gI σ 5 q 4))]) (rest := [.ref (b + xo 5 q), .ref (b + xo 0 0)]) ⟨hx, hb, hml, hown, hts⟩ (k_X5_channelAt l D cs b (sI σ 5 q 9 ((gI σ 5 q 9) + 1)) (f_X3_operandAt σ (gI σ 5 q 4)) ) ⟨callB_of 1 hts (gC wC_X5_channelAt) rfl rfl rfl (hts _ wi_X5) (hts _ wM_X5_107) (by decide +kernel) (by decide), hts _ wN_X5_channelAt, hts _ wS_X5_channelAt⟩ hK hH (xo_ok (by decide)).2.2 (Ex_at cs b (sI σ 5 q 9 ((gI σ 5 q 9) + 1)) (by decide)) rfl rfl rfl hl.1 rfl (Nat.le_of_ble_eq_true rfl) dX5_execute_147 (by decide)) hS (fun H locs hH hS => ?_)
    rcases hq_147_14 : f_X5_channelAt (sI σ 5 q 9 ((gI σ 5 q 9) + 1)) (f_X3_operandAt σ (gI σ 5 q 4)) with _ | q147_14
    ·
      refine W.eq (g2 := F0 m 150 ls [.null, .ref (b + xo 5 q), .ref (b + xo 0 0)]) rfl ?_
      refine e_cv (e_runV (C := RX5) (ci := 5) (As := [.ref (b + xo 5 q), .null]) (rest := []) ⟨hx, hb, hml, hown, hts⟩ (k_X5_receiveN l D cs b (sI σ 5 q 9 ((gI σ 5 q 9) + 1)) q (by assumption)) ⟨callB_of 2 hts (gC wC_X5_receive) rfl rfl rfl (hts _ wi_X5) (hts _ wM_X5_187) (by decide +kernel) (by decide), hts _ wN_X5_receive, hts _ wS_X5_receive⟩ hK hH (xo_ok (by decide)).2.2 (Ex_at cs b (sI σ 5 q 9 ((gI σ 5 q 9) + 1)) (by decide)) rfl rfl rfl hl.1 rfl (Nat.le_of_ble_eq_true rfl) dX5_execute_150 (by decide)) hS (fun H locs hH hS => ?_)
      refine lv_goto (tgt := 236) hx hb dX5_execute_153 (by decide) ?_
      exact e_vret hx hb hr hlk hK hH hS dX5_execute_236 (congrArg (Ex cs b) (by simp only [f_X5_execute, if_neg c_35_1, if_neg c_35_2, if_neg c_35_3, if_neg c_35_4, if_neg c_35_5, if_neg c_35_6, if_neg c_35_7, if_neg c_35_8, if_neg c_35_9, if_neg c_35_10, if_neg c_35_11, if_pos c_35_13, hq_147_14, oC_none]))
    ·
      have q147_14b := channelAt_lt hq_147_14
      refine W.eq (g2 := F0 m 150 ls [.ref (b + xo 8 q147_14), .ref (b + xo 5 q), .ref (b + xo 0 0)]) rfl ?_
      refine e_cv (e_runV (C := RX5) (ci := 5) (As := [.ref (b + xo 5 q), .ref (b + xo 8 q147_14)]) (rest := []) ⟨hx, hb, hml, hown, hts⟩ (k_X5_receive l D cs b (sI σ 5 q 9 ((gI σ 5 q 9) + 1)) q q147_14 (by assumption) (by assumption) (hwt _)) ⟨callB_of 2 hts (gC wC_X5_receive) rfl rfl rfl (hts _ wi_X5) (hts _ wM_X5_187) (by decide +kernel) (by decide), hts _ wN_X5_receive, hts _ wS_X5_receive⟩ hK hH (xo_ok (by decide)).2.2 (Ex_at cs b (sI σ 5 q 9 ((gI σ 5 q 9) + 1)) (by decide)) rfl rfl rfl hl.1 rfl (Nat.le_of_ble_eq_true rfl) dX5_execute_150 (by decide)) hS (fun H locs hH hS => ?_)
      refine lv_goto (tgt := 236) hx hb dX5_execute_153 (by decide) ?_
      exact e_vret hx hb hr hlk hK hH hS dX5_execute_236 (congrArg (Ex cs b) (by simp only [f_X5_execute, if_neg c_35_1, if_neg c_35_2, if_neg c_35_3, if_neg c_35_4, if_neg c_35_5, if_neg c_35_6, if_neg c_35_7, if_neg c_35_8, if_neg c_35_9, if_neg c_35_10, if_neg c_35_11, if_pos c_35_13, hq_147_14, oC_some]))
  by_cases c_35_15 : f_X3_opAt σ (gI σ 5 q 4) = 12
  ·
    refine lv_tableIn (off := 184) (tgt := 219) hx hb dX5_execute_35 (by rw [c_35_15]; decide) (by rw [c_35_15]; decide) (by rw [c_35_15]; rfl) (by decide) ?_
    refine lv_aload_n hx hb dX5_execute_219 rfl (lv_at hl 2 rfl) ?_
    refine lv_aload_n hx hb dX5_execute_220 rfl (lv_at hl 3 rfl) ?_
    refine lv_iload_n hx hb dX5_execute_221 rfl (lv_at hl 1 rfl) ?_
    refine lv_iload_n hx hb dX5_execute_222 rfl (lv_at hl 0 rfl) ?_
    refine e_cv (e_runV (C := RX5) (ci := 5) (As := [.ref (b + xo 5 q), .int (f_X3_opAt σ (gI σ 5 q 4)), .int (f_X3_operandAt σ (gI σ 5 q 4))]) (rest := []) ⟨hx, hb, hml, hown, hts⟩ (k_X5_compute l D cs b (sI σ 5 q 9 ((gI σ 5 q 9) + 1)) q (f_X3_opAt σ (gI σ 5 q 4)) (f_X3_operandAt σ (gI σ 5 q 4)) (by first | assumption | omega | decide)) ⟨callB_of 3 hts (gC wC_X5_compute) rfl rfl rfl (hts _ wi_X5) (hts _ wM_X5_199) (by decide +kernel) (by decide), hts _ wN_X5_compute, hts _ wS_X5_compute⟩ hK hH (xo_ok (by decide)).2.2 (Ex_at cs b (sI σ 5 q 9 ((gI σ 5 q 9) + 1)) (by decide)) rfl rfl rfl hl.1 rfl (Nat.le_of_ble_eq_true rfl) dX5_execute_223 (by decide)) hS (fun H locs hH hS => ?_)
    refine lv_aload_n hx hb dX5_execute_226 rfl (lv_at hl 3 rfl) ?_
    refine lv_dup hx hb dX5_execute_227 rfl ?_
    refine fgX5_167 hx hb hts hown hK hH q (show q < 8 by first | assumption | omega) dX5_execute_228 ?_
    refine lv_iconst (v := 1) hx hb dX5_execute_231 (by decide) ?_
    refine lv_iadd hx hb dX5_execute_232 ?_
    refine fpX5_167 hx hb hts hown hK hH hS q (show q < 8 by first | assumption | omega) dX5_execute_233 (fun H locs hH hS => ?_)
    exact e_vret hx hb hr hlk hK hH hS dX5_execute_236 (congrArg (Ex cs b) (by simp only [f_X5_execute, if_neg c_35_1, if_neg c_35_2, if_neg c_35_3, if_neg c_35_4, if_neg c_35_5, if_neg c_35_6, if_neg c_35_7, if_neg c_35_8, if_neg c_35_9, if_neg c_35_10, if_neg c_35_11, if_neg c_35_13, if_pos c_35_15]))
  by_cases c_35_16 : f_X3_opAt σ (gI σ 5 q 4) = 13
  ·
    refine lv_tableIn (off := 121) (tgt := 156) hx hb dX5_execute_35 (by rw [c_35_16]; decide) (by rw [c_35_16]; decide) (by rw [c_35_16]; rfl) (by decide) ?_
    refine lv_aload_n hx hb dX5_execute_156 rfl (lv_at hl 2 rfl) ?_
    refine lv_aload_n hx hb dX5_execute_157 rfl (lv_at hl 3 rfl) ?_
    refine e_cv (e_runV (C := RX5) (ci := 5) (As := [.ref (b + xo 5 q)]) (rest := []) ⟨hx, hb, hml, hown, hts⟩ (k_X5_awaitTime l D cs b (sI σ 5 q 9 ((gI σ 5 q 9) + 1)) q (by first | assumption | omega | decide)) ⟨callB_of 1 hts (gC wC_X5_awaitTime) rfl rfl rfl (hts _ wi_X5) (hts _ wM_X5_190) (by decide +kernel) (by decide), hts _ wN_X5_awaitTime, hts _ wS_X5_awaitTime⟩ hK hH (xo_ok (by decide)).2.2 (Ex_at cs b (sI σ 5 q 9 ((gI σ 5 q 9) + 1)) (by decide)) rfl rfl rfl hl.1 rfl (Nat.le_of_ble_eq_true rfl) dX5_execute_158 (by decide)) hS (fun H locs hH hS => ?_)
    refine lv_goto (tgt := 236) hx hb dX5_execute_161 (by decide) ?_
    exact e_vret hx hb hr hlk hK hH hS dX5_execute_236 (congrArg (Ex cs b) (by simp only [f_X5_execute, if_neg c_35_1, if_neg c_35_2, if_neg c_35_3, if_neg c_35_4, if_neg c_35_5, if_neg c_35_6, if_neg c_35_7, if_neg c_35_8, if_neg c_35_9, if_neg c_35_10, if_neg c_35_11, if_neg c_35_13, if_neg c_35_15, if_pos c_35_16]))
  by_cases c_35_17 : f_X3_opAt σ (gI σ 5 q 4) = 14
  ·
    refine lv_tableIn (off := 129) (tgt := 164) hx hb dX5_execute_35 (by rw [c_35_17]; decide) (by rw [c_35_17]; decide) (by rw [c_35_17]; rfl) (by decide) ?_
    refine lv_aload_n hx hb dX5_execute_164 rfl (lv_at hl 3 rfl) ?_
    refine lv_aload_n hx hb dX5_execute_165 rfl (lv_at hl 2 rfl) ?_
    refine lv_iload_n hx hb dX5_execute_166 rfl (lv_at hl 0 rfl) ?_
    refine lv_iconst (v := 1) hx hb dX5_execute_167 (by decide) ?_
    refine lv_iand hx hb dX5_execute_168 ?_
    refine lv_if_ne (tgt := 176) hx hb dX5_execute_169 (by decide) (fun c_169_18 => ?_) (fun c_169_18 => ?_)
    ·
      refine lv_iconst (v := 1) hx hb dX5_execute_176 (by decide) ?_
      refine lv_iload_n hx hb dX5_execute_177 rfl (lv_at hl 0 rfl) ?_
      refine lv_iconst (v := 2) hx hb dX5_execute_178 (by decide) ?_
      refine lv_idiv hx hb dX5_execute_179 (by decide) ?_
      refine lv_aload_n hx hb dX5_execute_180 rfl (lv_at hl 3 rfl) ?_
      refine fgX5_193 hx hb hts hown hK hH q (show q < 8 by first | assumption | omega) dX5_execute_181 ?_
      refine e_ci (e_runV (C := RX5) (ci := 5) (As := [.int (1), .int ((f_X3_operandAt σ (gI σ 5 q 4)) / 2), .int (gI (sI σ 5 q 9 ((gI σ 5 q 9) + 1)) 5 q 5)]) (rest := [.ref (b + xo 5 q)]) ⟨hx, hb, hml, hown, hts⟩ (k_X5_startLeastFree l D cs b (sI σ 5 q 9 ((gI σ 5 q 9) + 1)) 1 ((f_X3_operandAt σ (gI σ 5 q 4)) / 2) (gI (sI σ 5 q 9 ((gI σ 5 q 9) + 1)) 5 q 5) ) ⟨callB_of 3 hts (gC wC_X5_startLeastFree) rfl rfl rfl (hts _ wi_X5) (hts _ wM_X5_72) (by decide +kernel) (by decide), hts _ wN_X5_startLeastFree, hts _ wS_X5_startLeastFree⟩ hK hH (xo_ok (by decide)).2.2 (Ex_at cs b (sI σ 5 q 9 ((gI σ 5 q 9) + 1)) (by decide)) rfl rfl rfl hl.1 rfl (Nat.le_of_ble_eq_true rfl) dX5_execute_184 (by decide)) hS (fun H locs hH hS => ?_)
      refine e_cv (e_runV (C := RX2) (ci := 2) (As := [.int ((f_X5_startLeastFree (sI σ 5 q 9 ((gI σ 5 q 9) + 1)) 1 ((f_X3_operandAt σ (gI σ 5 q 4)) / 2) (gI (sI σ 5 q 9 ((gI σ 5 q 9) + 1)) 5 q 5)).1)]) (rest := []) ⟨hx, hb, hml, hown, hts⟩ (k_X2_put l D cs b ((f_X5_startLeastFree (sI σ 5 q 9 ((gI σ 5 q 9) + 1)) 1 ((f_X3_operandAt σ (gI σ 5 q 4)) / 2) (gI (sI σ 5 q 9 ((gI σ 5 q 9) + 1)) 5 q 5)).2) q ((f_X5_startLeastFree (sI σ 5 q 9 ((gI σ 5 q 9) + 1)) 1 ((f_X3_operandAt σ (gI σ 5 q 4)) / 2) (gI (sI σ 5 q 9 ((gI σ 5 q 9) + 1)) 5 q 5)).1) (by first | assumption | omega | decide)) ⟨callB_of 1 hts (gC wC_X2_put) rfl rfl rfl (hts _ wi_X2) (hts _ wM_X5_196) (by decide +kernel) (by decide), hts _ wN_X2_put, hts _ wS_X2_put⟩ hK hH (xo_ok (show q < xn 5 by first | assumption | (show q < 8; first | assumption | omega))).2.2 (Ex_at cs b ((f_X5_startLeastFree (sI σ 5 q 9 ((gI σ 5 q 9) + 1)) 1 ((f_X3_operandAt σ (gI σ 5 q 4)) / 2) (gI (sI σ 5 q 9 ((gI σ 5 q 9) + 1)) 5 q 5)).2) (show q < xn 5 by first | assumption | (show q < 8; first | assumption | omega))) rfl rfl rfl hl.1 rfl (Nat.le_of_ble_eq_true rfl) dX5_execute_187 (by decide)) hS (fun H locs hH hS => ?_)
      refine lv_aload_n hx hb dX5_execute_190 rfl (lv_at hl 3 rfl) ?_
      refine lv_dup hx hb dX5_execute_191 rfl ?_
      refine fgX5_167 hx hb hts hown hK hH q (show q < 8 by first | assumption | omega) dX5_execute_192 ?_
      refine lv_iconst (v := 1) hx hb dX5_execute_195 (by decide) ?_
      refine lv_iadd hx hb dX5_execute_196 ?_
      refine fpX5_167 hx hb hts hown hK hH hS q (show q < 8 by first | assumption | omega) dX5_execute_197 (fun H locs hH hS => ?_)
      refine lv_goto (tgt := 236) hx hb dX5_execute_200 (by decide) ?_
      exact e_vret hx hb hr hlk hK hH hS dX5_execute_236 (congrArg (Ex cs b) (by simp only [f_X5_execute, if_neg c_35_1, if_neg c_35_2, if_neg c_35_3, if_neg c_35_4, if_neg c_35_5, if_neg c_35_6, if_neg c_35_7, if_neg c_35_8, if_neg c_35_9, if_neg c_35_10, if_neg c_35_11, if_neg c_35_13, if_neg c_35_15, if_neg c_35_16, if_pos c_35_17, if_neg c_169_18]))
    ·
      refine lv_iconst (v := 0) hx hb dX5_execute_172 (by decide) ?_
      refine lv_goto (tgt := 177) hx hb dX5_execute_173 (by decide) ?_
      refine lv_iload_n hx hb dX5_execute_177 rfl (lv_at hl 0 rfl) ?_
      refine lv_iconst (v := 2) hx hb dX5_execute_178 (by decide) ?_
      refine lv_idiv hx hb dX5_execute_179 (by decide) ?_
      refine lv_aload_n hx hb dX5_execute_180 rfl (lv_at hl 3 rfl) ?_
      refine fgX5_193 hx hb hts hown hK hH q (show q < 8 by first | assumption | omega) dX5_execute_181 ?_
      refine e_ci (e_runV (C := RX5) (ci := 5) (As := [.int (0), .int ((f_X3_operandAt σ (gI σ 5 q 4)) / 2), .int (gI (sI σ 5 q 9 ((gI σ 5 q 9) + 1)) 5 q 5)]) (rest := [.ref (b + xo 5 q)]) ⟨hx, hb, hml, hown, hts⟩ (k_X5_startLeastFree l D cs b (sI σ 5 q 9 ((gI σ 5 q 9) + 1)) 0 ((f_X3_operandAt σ (gI σ 5 q 4)) / 2) (gI (sI σ 5 q 9 ((gI σ 5 q 9) + 1)) 5 q 5) ) ⟨callB_of 3 hts (gC wC_X5_startLeastFree) rfl rfl rfl (hts _ wi_X5) (hts _ wM_X5_72) (by decide +kernel) (by decide), hts _ wN_X5_startLeastFree, hts _ wS_X5_startLeastFree⟩ hK hH (xo_ok (by decide)).2.2 (Ex_at cs b (sI σ 5 q 9 ((gI σ 5 q 9) + 1)) (by decide)) rfl rfl rfl hl.1 rfl (Nat.le_of_ble_eq_true rfl) dX5_execute_184 (by decide)) hS (fun H locs hH hS => ?_)
      refine e_cv (e_runV (C := RX2) (ci := 2) (As := [.int ((f_X5_startLeastFree (sI σ 5 q 9 ((gI σ 5 q 9) + 1)) 0 ((f_X3_operandAt σ (gI σ 5 q 4)) / 2) (gI (sI σ 5 q 9 ((gI σ 5 q 9) + 1)) 5 q 5)).1)]) (rest := []) ⟨hx, hb, hml, hown, hts⟩ (k_X2_put l D cs b ((f_X5_startLeastFree (sI σ 5 q 9 ((gI σ 5 q 9) + 1)) 0 ((f_X3_operandAt σ (gI σ 5 q 4)) / 2) (gI (sI σ 5 q 9 ((gI σ 5 q 9) + 1)) 5 q 5)).2) q ((f_X5_startLeastFree (sI σ 5 q 9 ((gI σ 5 q 9) + 1)) 0 ((f_X3_operandAt σ (gI σ 5 q 4)) / 2) (gI (sI σ 5 q 9 ((gI σ 5 q 9) + 1)) 5 q 5)).1) (by first | assumption | omega | decide)) ⟨callB_of 1 hts (gC wC_X2_put) rfl rfl rfl (hts _ wi_X2) (hts _ wM_X5_196) (by decide +kernel) (by decide), hts _ wN_X2_put, hts _ wS_X2_put⟩ hK hH (xo_ok (show q < xn 5 by first | assumption | (show q < 8; first | assumption | omega))).2.2 (Ex_at cs b ((f_X5_startLeastFree (sI σ 5 q 9 ((gI σ 5 q 9) + 1)) 0 ((f_X3_operandAt σ (gI σ 5 q 4)) / 2) (gI (sI σ 5 q 9 ((gI σ 5 q 9) + 1)) 5 q 5)).2) (show q < xn 5 by first | assumption | (show q < 8; first | assumption | omega))) rfl rfl rfl hl.1 rfl (Nat.le_of_ble_eq_true rfl) dX5_execute_187 (by decide)) hS (fun H locs hH hS => ?_)
      refine lv_aload_n hx hb dX5_execute_190 rfl (lv_at hl 3 rfl) ?_
      refine lv_dup hx hb dX5_execute_191 rfl ?_
      refine fgX5_167 hx hb hts hown hK hH q (show q < 8 by first | assumption | omega) dX5_execute_192 ?_
      refine lv_iconst (v := 1) hx hb dX5_execute_195 (by decide) ?_
      refine lv_iadd hx hb dX5_execute_196 ?_
      refine fpX5_167 hx hb hts hown hK hH hS q (show q < 8 by first | assumption | omega) dX5_execute_197 (fun H locs hH hS => ?_)
      refine lv_goto (tgt := 236) hx hb dX5_execute_200 (by decide) ?_
      exact e_vret hx hb hr hlk hK hH hS dX5_execute_236 (congrArg (Ex cs b) (by simp only [f_X5_execute, if_neg c_35_1, if_neg c_35_2, if_neg c_35_3, if_neg c_35_4, if_neg c_35_5, if_neg c_35_6, if_neg c_35_7, if_neg c_35_8, if_neg c_35_9, if_neg c_35_10, if_neg c_35_11, if_neg c_35_13, if_neg c_35_15, if_neg c_35_16, if_pos c_35_17, if_pos c_169_18]))
  by_cases c_35_19 : f_X3_opAt σ (gI σ 5 q 4) = 15
  ·
    refine lv_tableIn (off := 168) (tgt := 203) hx hb dX5_execute_35 (by rw [c_35_19]; decide) (by rw [c_35_19]; decide) (by rw [c_35_19]; rfl) (by decide) ?_
    refine lv_aload_n hx hb dX5_execute_203 rfl (lv_at hl 3 rfl) ?_
    refine lv_iconst (v := 0) hx hb dX5_execute_204 (by decide) ?_
    refine fpX5_80 hx hb hts hown hK hH hS q (show q < 8 by first | assumption | omega) dX5_execute_205 (fun H locs hH hS => ?_)
    refine lv_goto (tgt := 236) hx hb dX5_execute_208 (by decide) ?_
    exact e_vret hx hb hr hlk hK hH hS dX5_execute_236 (congrArg (Ex cs b) (by simp only [f_X5_execute, if_neg c_35_1, if_neg c_35_2, if_neg c_35_3, if_neg c_35_4, if_neg c_35_5, if_neg c_35_6, if_neg c_35_7, if_neg c_35_8, if_neg c_35_9, if_neg c_35_10, if_neg c_35_11, if_neg c_35_13, if_neg c_35_15, if_neg c_35_16, if_neg c_35_17, if_pos c_35_19]))
  refine lv_tableOut (tgt := 219) hx hb dX5_execute_35 (by have h0 := ne_i 0 c_35_1 (by decide); have h1 := ne_i 1 c_35_2 (by decide); have h2 := ne_i 2 c_35_3 (by decide); have h3 := ne_i 3 c_35_4 (by decide); have h4 := ne_i 4 c_35_5 (by decide); have h5 := ne_i 5 c_35_6 (by decide); have h6 := ne_i 6 c_35_7 (by decide); have h7 := ne_i 7 c_35_8 (by decide); have h8 := ne_i 8 c_35_9 (by decide); have h9 := ne_i 9 c_35_10 (by decide); have h10 := ne_i 10 c_35_11 (by decide); have h11 := ne_i 11 c_35_13 (by decide); have h12 := ne_i 12 c_35_15 (by decide); have h13 := ne_i 13 c_35_16 (by decide); have h14 := ne_i 14 c_35_17 (by decide); have h15 := ne_i 15 c_35_19 (by decide); omega) (by decide) ?_
  refine lv_aload_n hx hb dX5_execute_219 rfl (lv_at hl 2 rfl) ?_
  refine lv_aload_n hx hb dX5_execute_220 rfl (lv_at hl 3 rfl) ?_
  refine lv_iload_n hx hb dX5_execute_221 rfl (lv_at hl 1 rfl) ?_
  refine lv_iload_n hx hb dX5_execute_222 rfl (lv_at hl 0 rfl) ?_
  refine e_cv (e_runV (C := RX5) (ci := 5) (As := [.ref (b + xo 5 q), .int (f_X3_opAt σ (gI σ 5 q 4)), .int (f_X3_operandAt σ (gI σ 5 q 4))]) (rest := []) ⟨hx, hb, hml, hown, hts⟩ (k_X5_compute l D cs b (sI σ 5 q 9 ((gI σ 5 q 9) + 1)) q (f_X3_opAt σ (gI σ 5 q 4)) (f_X3_operandAt σ (gI σ 5 q 4)) (by first | assumption | omega | decide)) ⟨callB_of 3 hts (gC wC_X5_compute) rfl rfl rfl (hts _ wi_X5) (hts _ wM_X5_199) (by decide +kernel) (by decide), hts _ wN_X5_compute, hts _ wS_X5_compute⟩ hK hH (xo_ok (by decide)).2.2 (Ex_at cs b (sI σ 5 q 9 ((gI σ 5 q 9) + 1)) (by decide)) rfl rfl rfl hl.1 rfl (Nat.le_of_ble_eq_true rfl) dX5_execute_223 (by decide)) hS (fun H locs hH hS => ?_)
  refine lv_aload_n hx hb dX5_execute_226 rfl (lv_at hl 3 rfl) ?_
  refine lv_dup hx hb dX5_execute_227 rfl ?_
  refine fgX5_167 hx hb hts hown hK hH q (show q < 8 by first | assumption | omega) dX5_execute_228 ?_
  refine lv_iconst (v := 1) hx hb dX5_execute_231 (by decide) ?_
  refine lv_iadd hx hb dX5_execute_232 ?_
  refine fpX5_167 hx hb hts hown hK hH hS q (show q < 8 by first | assumption | omega) dX5_execute_233 (fun H locs hH hS => ?_)
  exact e_vret hx hb hr hlk hK hH hS dX5_execute_236 (congrArg (Ex cs b) (by simp only [f_X5_execute, if_neg c_35_1, if_neg c_35_2, if_neg c_35_3, if_neg c_35_4, if_neg c_35_5, if_neg c_35_6, if_neg c_35_7, if_neg c_35_8, if_neg c_35_9, if_neg c_35_10, if_neg c_35_11, if_neg c_35_13, if_neg c_35_15, if_neg c_35_16, if_neg c_35_17, if_neg c_35_19]))
end
section
/-! 'ok' is kept by all that a step does -/
theorem ok_sI {σ : St} {g i k : Nat} {v : Int32} (hg : g ≠ 9) (h : ok σ) : ok (sI σ g i k v) := ⟨okR_sI hg h.1, okR_sI hg h.2.1, h.2.2.1, h.2.2.2⟩
theorem ok_sR {σ : St} {g i k : Nat} {v : Option Nat} (hv : ∀ p, v = some p → p < 8) (h : ok σ) : ok (sR σ g i k v) := by
  refine ⟨okR_sR hv h.1, okR_sR hv h.2.1, fun p hp => ?_, fun a p hp => ?_⟩
  · rw [gR_sR] at hp
    split at hp
    · exact hv p hp
    · exact h.2.2.1 p hp
  · rw [gR_sR] at hp
    split at hp
    · exact hv p hp
    · exact h.2.2.2 a p hp
theorem okR_size {σ : St} {r r' z : Nat} {v : Int32} (hv : v = nI z) (hz : z ≤ 8) (h : okR σ r') : okR (sI σ 9 r 1 v) r' := by
  by_cases hr : r' = r
  · subst hr
    have e : gI (sI σ 9 r' 1 v) 9 r' 1 = nI z := by rw [gI_sI, if_pos ⟨rfl, rfl, rfl⟩, hv]
    have ez : zN (sI σ 9 r' 1 v) r' = z := by unfold zN; rw [e, nI_clamp (by omega)]
    exact ⟨by rw [e, ez], by rw [ez]; exact hz, h.2.2⟩
  · have e : gI (sI σ 9 r 1 v) 9 r' 1 = gI σ 9 r' 1 := by rw [gI_sI, if_neg (fun q => hr q.2.1)]
    have ez : zN (sI σ 9 r 1 v) r' = zN σ r' := by unfold zN; rw [e]
    exact ⟨by rw [e, ez]; exact h.1, by rw [ez]; exact h.2.1, h.2.2⟩
theorem ok_size {σ : St} {r z : Nat} {v : Int32} (hv : v = nI z) (hz : z ≤ 8) (h : ok σ) : ok (sI σ 9 r 1 v) := ⟨okR_size hv hz h.1, okR_size hv hz h.2.1, h.2.2.1, h.2.2.2⟩
theorem ok_R {σ : St} {r : Nat} (hr : r < 2) (h : ok σ) : okR σ r := by
  rcases (show r = 0 ∨ r = 1 by omega) with rfl | rfl
  · exact h.1
  · exact h.2.1
theorem some_lt {q : Nat} (hq : q < 8) : ∀ p, some q = some p → p < 8 := fun p h => by cases h; exact hq
theorem none_lt : ∀ p : Nat, none = some p → p < 8 := fun p h => by cases h
theorem ok_putLast {σ : St} {r q : Nat} (hr : r < 2) (hq : q < 8) (h : ok σ) : ok (f_X4_putLast σ r q) := by
  have hk := ok_R hr h
  unfold f_X4_putLast
  split
  · exact h
  · split
    · exact h
    · rename_i h1 h2
      have hz : zN σ r < 8 := ngt_8 (by have := hk.2.1; omega) 8 (by decide) (by rw [← hk.1]; exact h2)
      exact ok_size (z := zN σ r + 1) (by rw [gI_sR, hk.1]; exact nI_1 _) (by omega) (ok_sR (some_lt hq) h)
theorem ok_becomeReady {σ : St} {q : Nat} (hq : q < 8) (h : ok σ) : ok (f_X5_becomeReady σ q) := ok_putLast (rowOf_lt _ _) hq (ok_sI (by decide) h)
theorem ok_begin0 {q : Nat} {x y z : Int32} : ∀ (n : Nat) (σ : St) (j : Nat), ok σ → ok (lp_X2_begin_28 q x y z n σ j) := by
  intro n
  induction n with
  | zero => intro σ j h; exact h
  | succ n ih =>
    intro σ j h
    unfold lp_X2_begin_28
    split
    · exact h
    · exact ih _ _ (ok_sI (by decide) h)
theorem ok_begin {σ : St} {q : Nat} {x y z : Int32} (h : ok σ) : ok (f_X2_begin σ q x y z) := ok_begin0 _ _ _ (ok_sI (by decide) (ok_sI (by decide) (ok_sI (by decide) (ok_sI (by decide) (ok_sI (by decide) h)))))
theorem ok_start {σ : St} {x y z : Int32} (h : ok σ) : ok (f_X5_startLeastFree σ x y z).2 := by
  unfold f_X5_startLeastFree
  rcases hq : f_X5_leastFree σ with _ | q
  · exact h
  · exact ok_becomeReady (lf_lt hq) (ok_begin h)
theorem ok_wake0 : ∀ (n : Nat) (σ : St) (j : Nat), j ≤ 8 → ok σ → ok (lp_X5_wakeThoseWhoseTimeHasCome_2 n σ j) := by
  intro n
  induction n with
  | zero => intro σ j _ h; exact h
  | succ n ih =>
    intro σ j hj h
    unfold lp_X5_wakeThoseWhoseTimeHasCome_2
    split
    · exact h
    · have hj8 := ngt_8 (j := j) (by omega) 8 (by decide) (by assumption)
      split
      · split
        · exact ih _ _ (by omega) h
        · exact ih _ _ (by omega) (ok_becomeReady hj8 h)
      · exact ih _ _ (by omega) h
theorem ok_wake {σ : St} (h : ok σ) : ok (f_X5_wakeThoseWhoseTimeHasCome σ) := ok_wake0 _ _ _ (by decide) h
theorem ok_pf0 {r q : Nat} (hr : r < 2) : ∀ (n : Nat) (σ : St) (j : Nat), ok σ → ok (lp_X4_putFirst_14 r q n σ j) ∧ gI (lp_X4_putFirst_14 r q n σ j) = gI σ := by
  intro n
  induction n with
  | zero => intro σ j h; exact ⟨h, rfl⟩
  | succ n ih =>
    intro σ j h
    unfold lp_X4_putFirst_14
    split
    · exact ⟨h, rfl⟩
    · obtain ⟨a, e⟩ := ih (sR σ 10 r j (gR σ 10 r (j - 1))) (j - 1) (ok_sR (fun p hp => (ok_R hr h).2.2 _ _ hp) h)
      exact ⟨a, e⟩
theorem ok_putFirst {σ : St} {r q : Nat} (hr : r < 2) (hq : q < 8) (h : ok σ) : ok (f_X4_putFirst σ r q) := by
  have hk := ok_R hr h
  unfold f_X4_putFirst
  split
  · exact h
  · rename_i h2
    have hz : zN σ r < 8 := ngt_8 (by have := hk.2.1; omega) 8 (by decide) (by rw [← hk.1]; exact h2)
    obtain ⟨a, e⟩ := ok_pf0 (q := q) hr 9 σ (zN σ r) h
    exact ok_size (z := zN σ r + 1) (by rw [gI_sR, e, hk.1]; exact nI_1 _) (by omega) (ok_sR (some_lt hq) a)
theorem ok_tf0 {r : Nat} (hr : r < 2) : ∀ (n : Nat) (σ : St) (j : Nat), ok σ → ok (lp_X4_takeFirst_28 r n σ j) := by
  intro n
  induction n with
  | zero => intro σ j h; exact h
  | succ n ih =>
    intro σ j h
    unfold lp_X4_takeFirst_28
    split
    · exact h
    · exact ih (sR σ 10 r j (gR σ 10 r (j + 1))) (j + 1) (ok_sR (fun p hp => (ok_R hr h).2.2 _ _ hp) h)
theorem ok_takeFirst {σ : St} {r : Nat} (hr : r < 2) (h : ok σ) : ok (f_X4_takeFirst σ r).2 := by
  have hk := ok_R hr h
  unfold f_X4_takeFirst
  split
  · rename_i h2
    have h0 := szpos h2 hk
    have h3 : ok (sI σ 9 r 1 (gI σ 9 r 1 - 1)) := ok_size (z := zN σ r - 1) (tagP hk.1 h0) (by have := hk.2.1; omega) h
    rcases hq : gR σ 10 r 0 with _ | q
    · exact ok_tf0 hr _ _ _ h3
    · exact ok_tf0 hr _ _ _ h3
  · exact h
theorem ok_giveWay {σ : St} (h : ok σ) : ok (f_X5_giveWayToHigh σ) := by
  unfold f_X5_giveWayToHigh
  rcases hq : gR σ 0 0 6 with _ | q
  · exact h
  · rw [oC_some]
    split
    · split
      · exact h
      · exact ok_sR none_lt (ok_putFirst (by decide) (h.2.2.1 _ hq) (ok_sI (by decide) h))
    · exact h
theorem ok_takeNext {σ : St} (h : ok σ) : ok (f_X5_takeNext σ) := by
  unfold f_X5_takeNext
  split
  · rcases hq : (f_X4_takeFirst σ 1).1 with _ | q
    · exact ok_sR none_lt (ok_takeFirst (by decide) h)
    · exact ok_sI (by decide) (ok_sI (by decide) (ok_sR (some_lt (take_lt h.2.1 hq)) (ok_takeFirst (by decide) h)))
  · rcases hq : (f_X4_takeFirst σ 0).1 with _ | q
    · exact ok_sR none_lt (ok_takeFirst (by decide) h)
    · exact ok_sI (by decide) (ok_sI (by decide) (ok_sR (some_lt (take_lt h.1 hq)) (ok_takeFirst (by decide) h)))
theorem ok_put {σ : St} {q : Nat} {x : Int32} (h : ok σ) : ok (f_X2_put σ q x) := ok_sI (by decide) (ok_sI (by decide) (ok_sI (by decide) h))
theorem ok_drop {σ : St} {q : Nat} (h : ok σ) : ok (f_X2_drop σ q) := ok_sI (by decide) (ok_sI (by decide) h)
theorem ok_rep {σ : St} {q : Nat} {x : Int32} (h : ok σ) : ok (f_X2_replaceTwo σ q x) := ok_sI (by decide) (ok_sI (by decide) h)
theorem ok_setWord {σ : St} {q : Nat} {x y : Int32} (h : ok σ) : ok (f_X2_setWord σ q x y) := by
  unfold f_X2_setWord
  split
  · exact h
  · split
    · exact h
    · exact ok_sI (by decide) h
theorem ok_compute {σ : St} {q : Nat} {x y : Int32} (h : ok σ) : ok (f_X5_compute σ q x y) := by
  unfold f_X5_compute
  repeat' split
  all_goals first | exact h | exact ok_put h | exact ok_rep h | exact ok_drop (ok_setWord h)
theorem ok_append {σ : St} {u v w x y : Int32} (h : ok σ) : ok (f_X1_append σ u v w x y) := ok_sI (by decide) (ok_sI (by decide) (ok_sI (by decide) (ok_sI (by decide) (ok_sI (by decide) (ok_sI (by decide) h)))))
theorem ok_deliver {σ : St} {u x : Int32} {q w : Nat} (h : ok σ) : ok (f_X5_deliver σ u q w x) := ok_append (ok_put h)
theorem ok_clear {σ : St} {k : Nat} (h : ok σ) : ok (f_X0_clear σ k) := ok_sI (by decide) (ok_sI (by decide) (ok_sR none_lt h))
theorem ok_hold {σ : St} {k q : Nat} {z x : Int32} (hq : q < 8) (h : ok σ) : ok (f_X0_hold σ k q z x) := ok_sI (by decide) (ok_sI (by decide) (ok_sI (by decide) (ok_sR (some_lt hq) h)))
theorem ok_jump {σ : St} {q : Nat} {x : Int32} (hq : q < 8) (h : ok σ) : ok (f_X5_jump σ q x) := by
  unfold f_X5_jump
  repeat' split
  all_goals first | exact ok_sI (by decide) h | exact ok_becomeReady hq (ok_sI (by decide) h)
theorem ok_jz {σ : St} {q : Nat} {x : Int32} (h : ok σ) : ok (f_X5_jumpIfZero σ q x) := by
  unfold f_X5_jumpIfZero
  split
  · exact ok_sI (by decide) h
  · exact ok_sI (by decide) (ok_drop h)
theorem ok_await {σ : St} {q : Nat} (h : ok σ) : ok (f_X5_awaitTime σ q) := by
  unfold f_X5_awaitTime
  split
  · exact ok_sI (by decide) (ok_sI (by decide) (ok_sI (by decide) (ok_drop h)))
  · exact ok_sI (by decide) (ok_drop h)
theorem ok_send {σ : St} {q k : Nat} (hq : q < 8) (h : ok σ) : ok (f_X5_send σ q k) := by
  unfold f_X5_send
  split
  · rcases hw : gR (sI (f_X2_drop σ q) 5 q 4 (gI (f_X2_drop σ q) 5 q 4 + 1)) 8 k 1 with _ | w
    · exact ok_hold hq (ok_sI (by decide) (ok_drop h))
    · exact ok_becomeReady (h.2.2.2 k w hw) (ok_deliver (ok_clear (ok_sI (by decide) (ok_drop h))))
  · exact ok_sI (by decide) h
theorem ok_receive {σ : St} {q k : Nat} (hq : q < 8) (h : ok σ) : ok (f_X5_receive σ q k) := by
  unfold f_X5_receive
  split
  · rcases hw : gR (sI σ 5 q 4 (gI σ 5 q 4 + 1)) 8 k 1 with _ | w
    · exact ok_hold hq (ok_sI (by decide) h)
    · exact ok_becomeReady (h.2.2.2 k w hw) (ok_deliver (ok_clear (ok_sI (by decide) h)))
  · exact ok_sI (by decide) h
theorem ok_oC {o : Option Nat} {a : St} {f : Nat → St} (ha : ok a) (hf : ∀ q, ok (f q)) : ok (oC o a f) := by
  cases o with
  | none => exact ha
  | some q => exact hf q
theorem ok_ite {c : Prop} [Decidable c] {a b : St} (ha : ok a) (hb : ok b) : ok (if c then a else b) := by
  by_cases h : c
  · rw [if_pos h]; exact ha
  · rw [if_neg h]; exact hb
theorem ok_execute {σ : St} {q : Nat} (hq : q < 8) (h : ok σ) : ok (f_X5_execute σ q) := by
  have h1 : ok (sI σ 5 q 9 (gI σ 5 q 9 + 1)) := ok_sI (by decide) h
  unfold f_X5_execute
  generalize sI σ 5 q 9 (gI σ 5 q 9 + 1) = τ at h1 ⊢
  refine ok_ite (ok_sI (by decide) h1) ?_
  iterate 7 refine ok_ite (ok_sI (by decide) (ok_compute h1)) ?_
  refine ok_ite (ok_jump hq h1) ?_
  refine ok_ite (ok_jz h1) ?_
  refine ok_ite (ok_oC (ok_sI (by decide) h1) (fun k => ok_send hq h1)) ?_
  refine ok_ite (ok_oC (ok_sI (by decide) h1) (fun k => ok_receive hq h1)) ?_
  refine ok_ite (ok_sI (by decide) (ok_compute h1)) ?_
  refine ok_ite (ok_await h1) ?_
  refine ok_ite (ok_ite (ok_sI (by decide) (ok_put (ok_start h1))) (ok_sI (by decide) (ok_put (ok_start h1)))) ?_
  refine ok_ite (ok_sI (by decide) h1) ?_
  exact ok_sI (by decide) (ok_compute h1)
end
section
def f_X5_step (σ : St)  : Int32 × St := (oC (gR (f_X5_giveWayToHigh (f_X5_wakeThoseWhoseTimeHasCome σ)) 0 0 6) ((oC (gR (f_X5_takeNext (f_X5_giveWayToHigh (f_X5_wakeThoseWhoseTimeHasCome σ))) 0 0 6) ((0, sI (f_X5_takeNext (f_X5_giveWayToHigh (f_X5_wakeThoseWhoseTimeHasCome σ))) 0 0 7 ((gI (f_X5_takeNext (f_X5_giveWayToHigh (f_X5_wakeThoseWhoseTimeHasCome σ))) 0 0 7) + 1))) (fun q20_2 => (if gI (f_X5_execute (f_X5_takeNext (f_X5_giveWayToHigh (f_X5_wakeThoseWhoseTimeHasCome σ))) q20_2) 5 q20_2 2 = 2 then (1, sI (f_X5_execute (f_X5_takeNext (f_X5_giveWayToHigh (f_X5_wakeThoseWhoseTimeHasCome σ))) q20_2) 0 0 7 ((gI (f_X5_execute (f_X5_takeNext (f_X5_giveWayToHigh (f_X5_wakeThoseWhoseTimeHasCome σ))) q20_2) 0 0 7) + 1)) else (1, sI (sR (f_X5_execute (f_X5_takeNext (f_X5_giveWayToHigh (f_X5_wakeThoseWhoseTimeHasCome σ))) q20_2) 0 0 6 (none)) 0 0 7 ((gI (sR (f_X5_execute (f_X5_takeNext (f_X5_giveWayToHigh (f_X5_wakeThoseWhoseTimeHasCome σ))) q20_2) 0 0 6 (none)) 0 0 7) + 1)))))) (fun q9_1 => (if gI (f_X5_execute (f_X5_giveWayToHigh (f_X5_wakeThoseWhoseTimeHasCome σ)) q9_1) 5 q9_1 2 = 2 then (1, sI (f_X5_execute (f_X5_giveWayToHigh (f_X5_wakeThoseWhoseTimeHasCome σ)) q9_1) 0 0 7 ((gI (f_X5_execute (f_X5_giveWayToHigh (f_X5_wakeThoseWhoseTimeHasCome σ)) q9_1) 0 0 7) + 1)) else (1, sI (sR (f_X5_execute (f_X5_giveWayToHigh (f_X5_wakeThoseWhoseTimeHasCome σ)) q9_1) 0 0 6 (none)) 0 0 7 ((gI (sR (f_X5_execute (f_X5_giveWayToHigh (f_X5_wakeThoseWhoseTimeHasCome σ)) q9_1) 0 0 6 (none)) 0 0 7) + 1)))))
set_option maxRecDepth 100000 in
set_option maxHeartbeats 4000000 in
theorem k_X5_step (l : Launch) (D : va_G) (cs : Nat → ClassId) (b : Nat) (σ : St)  (ho : ok σ) : Met l yX5_step (Cond.code yX5_step cX5_step 2 (some FieldType.boolean) :: T0) { frames := 5, cells := 0, slots := 0, locals := 117 } (Pe D (tyx cs) b 43 (Ex cs b σ) [.ref (b + xo 0 0)]) (Qi D (tyx cs) b 43 (Ex cs b (f_X5_step σ).2) (f_X5_step σ).1) 0 0 (fun a => b ≤ a) := by
  refine e_met (by decide) rfl (Nat.le_of_ble_eq_true rfl) (fun pg e s m below meth c ls hx hb hr hml hts0 hown hlk hnm hH hK hl hS => ?_)
  have hts : ∀ w ∈ T0, w.before _ s = true := fun w h => hts0 w (List.mem_cons_of_mem _ h)
  have hl : lv_has ls 2 [(0, .ref (b + xo 0 0))] := hl
  refine lv_aload_n hx hb dX5_step_0 rfl (lv_at hl 0 rfl) ?_
  refine e_cv (e_runV (C := RX5) (ci := 5) (As := []) (rest := []) ⟨hx, hb, hml, hown, hts⟩ (k_X5_wakeThoseWhoseTimeHasCome l D cs b σ  ) ⟨callB_of 0 hts (gC wC_X5_wakeThoseWhoseTimeHasCome) rfl rfl rfl (hts _ wi_X5) (hts _ wM_X5_139) (by decide +kernel) (by decide), hts _ wN_X5_wakeThoseWhoseTimeHasCome, hts _ wS_X5_wakeThoseWhoseTimeHasCome⟩ hK hH (xo_ok (by decide)).2.2 (Ex_at cs b σ (by decide)) rfl rfl rfl hl.1 rfl (Nat.le_of_ble_eq_true rfl) dX5_step_1 (by decide)) hS (fun H locs hH hS => ?_)
  refine lv_aload_n hx hb dX5_step_4 rfl (lv_at hl 0 rfl) ?_
  refine e_cv (e_runV (C := RX5) (ci := 5) (As := []) (rest := []) ⟨hx, hb, hml, hown, hts⟩ (k_X5_giveWayToHigh l D cs b (f_X5_wakeThoseWhoseTimeHasCome σ)  (ok_wake ho)) ⟨callB_of 0 hts (gC wC_X5_giveWayToHigh) rfl rfl rfl (hts _ wi_X5) (hts _ wM_X5_142) (by decide +kernel) (by decide), hts _ wN_X5_giveWayToHigh, hts _ wS_X5_giveWayToHigh⟩ hK hH (xo_ok (by decide)).2.2 (Ex_at cs b (f_X5_wakeThoseWhoseTimeHasCome σ) (by decide)) rfl rfl rfl hl.1 rfl (Nat.le_of_ble_eq_true rfl) dX5_step_5 (by decide)) hS (fun H locs hH hS => ?_)
  refine lv_aload_n hx hb dX5_step_8 rfl (lv_at hl 0 rfl) ?_
  refine fgX5_49 hx hb hts hown hK hH 0 (by decide) _ rfl dX5_step_9 ?_
  rcases hq_9_1 : gR (f_X5_giveWayToHigh (f_X5_wakeThoseWhoseTimeHasCome σ)) 0 0 6 with _ | q9_1
  ·
    refine W.eq (g2 := F0 m 12 ls [.null]) rfl ?_
    refine lv_ifnonnullN hx hb dX5_step_12 ?_
    refine lv_aload_n hx hb dX5_step_15 rfl (lv_at hl 0 rfl) ?_
    refine e_cv (e_runV (C := RX5) (ci := 5) (As := []) (rest := []) ⟨hx, hb, hml, hown, hts⟩ (k_X5_takeNext l D cs b (f_X5_giveWayToHigh (f_X5_wakeThoseWhoseTimeHasCome σ))  (ok_giveWay (ok_wake ho))) ⟨callB_of 0 hts (gC wC_X5_takeNext) rfl rfl rfl (hts _ wi_X5) (hts _ wM_X5_145) (by decide +kernel) (by decide), hts _ wN_X5_takeNext, hts _ wS_X5_takeNext⟩ hK hH (xo_ok (by decide)).2.2 (Ex_at cs b (f_X5_giveWayToHigh (f_X5_wakeThoseWhoseTimeHasCome σ)) (by decide)) rfl rfl rfl hl.1 rfl (Nat.le_of_ble_eq_true rfl) dX5_step_16 (by decide)) hS (fun H locs hH hS => ?_)
    refine lv_aload_n hx hb dX5_step_19 rfl (lv_at hl 0 rfl) ?_
    refine fgX5_49 hx hb hts hown hK hH 0 (by decide) _ rfl dX5_step_20 ?_
    rcases hq_20_2 : gR (f_X5_takeNext (f_X5_giveWayToHigh (f_X5_wakeThoseWhoseTimeHasCome σ))) 0 0 6 with _ | q20_2
    ·
      refine W.eq (g2 := F0 m 23 ls [.null]) rfl ?_
      refine lv_astore_nN (lv' := [(1, .null), (0, .ref (b + xo 0 0))]) hx hb dX5_step_23 rfl hl (by decide) rfl (fun ls hl => ?_)
      refine lv_aload_nN hx hb dX5_step_24 rfl (lv_at hl 0 rfl) ?_
      refine lv_ifnullN (tgt := 46) hx hb dX5_step_25 (by decide) ?_
      refine lv_aload_n hx hb dX5_step_46 rfl (lv_at hl 1 rfl) ?_
      refine lv_dup hx hb dX5_step_47 rfl ?_
      refine fgX5_53 hx hb hts hown hK hH 0 (by decide) dX5_step_48 ?_
      refine lv_iconst (v := 1) hx hb dX5_step_51 (by decide) ?_
      refine lv_iadd hx hb dX5_step_52 ?_
      refine fpX5_53 hx hb hts hown hK hH hS 0 (by decide) dX5_step_53 (fun H locs hH hS => ?_)
      refine lv_aload_nN hx hb dX5_step_56 rfl (lv_at hl 0 rfl) ?_
      refine lv_ifnullN (tgt := 64) hx hb dX5_step_57 (by decide) ?_
      refine lv_iconst (v := 0) hx hb dX5_step_64 (by decide) ?_
      exact e_zret hx hb hr hlk hK hH hS dX5_step_65 (by rfl) (by simp only [f_X5_step, hq_9_1, oC_none, hq_20_2, oC_none]) (congrArg (Ex cs b) (by simp only [f_X5_step, hq_9_1, oC_none, hq_20_2, oC_none]))
    ·
      have q20_2b := (ok_takeNext (ok_giveWay (ok_wake ho))).2.2.1 _ hq_20_2
      refine W.eq (g2 := F0 m 23 ls [.ref (b + xo 5 q20_2)]) rfl ?_
      refine lv_astore_n (lv' := [(1, .ref (b + xo 5 q20_2)), (0, .ref (b + xo 0 0))]) hx hb dX5_step_23 rfl hl (by decide) rfl (fun ls hl => ?_)
      refine lv_aload_n hx hb dX5_step_24 rfl (lv_at hl 0 rfl) ?_
      refine lv_ifnull hx hb dX5_step_25 ?_
      refine lv_aload_n hx hb dX5_step_28 rfl (lv_at hl 1 rfl) ?_
      refine lv_aload_n hx hb dX5_step_29 rfl (lv_at hl 0 rfl) ?_
      refine e_cv (e_runV (C := RX5) (ci := 5) (As := [.ref (b + xo 5 q20_2)]) (rest := []) ⟨hx, hb, hml, hown, hts⟩ (k_X5_execute l D cs b (f_X5_takeNext (f_X5_giveWayToHigh (f_X5_wakeThoseWhoseTimeHasCome σ))) q20_2 (by assumption) (by first | exact (ok_takeNext (ok_giveWay (ok_wake ho))).2.2.2 | exact (ok_giveWay (ok_wake ho)).2.2.2)) ⟨callB_of 1 hts (gC wC_X5_execute) rfl rfl rfl (hts _ wi_X5) (hts _ wM_X5_148) (by decide +kernel) (by decide), hts _ wN_X5_execute, hts _ wS_X5_execute⟩ hK hH (xo_ok (by decide)).2.2 (Ex_at cs b (f_X5_takeNext (f_X5_giveWayToHigh (f_X5_wakeThoseWhoseTimeHasCome σ))) (by decide)) rfl rfl rfl hl.1 rfl (Nat.le_of_ble_eq_true rfl) dX5_step_30 (by decide)) hS (fun H locs hH hS => ?_)
      refine lv_aload_n hx hb dX5_step_33 rfl (lv_at hl 0 rfl) ?_
      refine fgX5_80 hx hb hts hown hK hH q20_2 (show q20_2 < 8 by first | assumption | omega) dX5_step_34 ?_
      refine lv_iconst (v := 2) hx hb dX5_step_37 (by decide) ?_
      refine lv_icmp_eq (tgt := 46) hx hb dX5_step_38 (by decide) (fun c_38_3 => ?_) (fun c_38_3 => ?_)
      ·
        refine lv_aload_n hx hb dX5_step_46 rfl (lv_at hl 1 rfl) ?_
        refine lv_dup hx hb dX5_step_47 rfl ?_
        refine fgX5_53 hx hb hts hown hK hH 0 (by decide) dX5_step_48 ?_
        refine lv_iconst (v := 1) hx hb dX5_step_51 (by decide) ?_
        refine lv_iadd hx hb dX5_step_52 ?_
        refine fpX5_53 hx hb hts hown hK hH hS 0 (by decide) dX5_step_53 (fun H locs hH hS => ?_)
        refine lv_aload_n hx hb dX5_step_56 rfl (lv_at hl 0 rfl) ?_
        refine lv_ifnull hx hb dX5_step_57 ?_
        refine lv_iconst (v := 1) hx hb dX5_step_60 (by decide) ?_
        refine lv_goto (tgt := 65) hx hb dX5_step_61 (by decide) ?_
        exact e_zret hx hb hr hlk hK hH hS dX5_step_65 (by rfl) (by simp only [f_X5_step, hq_9_1, oC_none, hq_20_2, oC_some, if_pos c_38_3]) (congrArg (Ex cs b) (by simp only [f_X5_step, hq_9_1, oC_none, hq_20_2, oC_some, if_pos c_38_3]))
      ·
        refine lv_aload_n hx hb dX5_step_41 rfl (lv_at hl 1 rfl) ?_
        refine lv_null hx hb dX5_step_42 ?_
        refine fpX5_49 hx hb hts hown hK hH hS 0 (by decide) (none) rfl dX5_step_43 (fun H locs hH hS => ?_)
        refine lv_aload_n hx hb dX5_step_46 rfl (lv_at hl 1 rfl) ?_
        refine lv_dup hx hb dX5_step_47 rfl ?_
        refine fgX5_53 hx hb hts hown hK hH 0 (by decide) dX5_step_48 ?_
        refine lv_iconst (v := 1) hx hb dX5_step_51 (by decide) ?_
        refine lv_iadd hx hb dX5_step_52 ?_
        refine fpX5_53 hx hb hts hown hK hH hS 0 (by decide) dX5_step_53 (fun H locs hH hS => ?_)
        refine lv_aload_n hx hb dX5_step_56 rfl (lv_at hl 0 rfl) ?_
        refine lv_ifnull hx hb dX5_step_57 ?_
        refine lv_iconst (v := 1) hx hb dX5_step_60 (by decide) ?_
        refine lv_goto (tgt := 65) hx hb dX5_step_61 (by decide) ?_
        exact e_zret hx hb hr hlk hK hH hS dX5_step_65 (by rfl) (by simp only [f_X5_step, hq_9_1, oC_none, hq_20_2, oC_some, if_neg c_38_3]) (congrArg (Ex cs b) (by simp only [f_X5_step, hq_9_1, oC_none, hq_20_2, oC_some, if_neg c_38_3]))
  ·
    have q9_1b := (ok_giveWay (ok_wake ho)).2.2.1 _ hq_9_1
    refine W.eq (g2 := F0 m 12 ls [.ref (b + xo 5 q9_1)]) rfl ?_
    refine lv_ifnonnull (tgt := 19) hx hb dX5_step_12 (by decide) ?_
    refine lv_aload_n hx hb dX5_step_19 rfl (lv_at hl 0 rfl) ?_
    refine fgX5_49 hx hb hts hown hK hH 0 (by decide) (some q9_1) (hq_9_1) dX5_step_20 ?_
    refine W.eq (g2 := F0 m 23 ls [.ref (b + xo 5 q9_1)]) rfl ?_
    refine lv_astore_n (lv' := [(1, .ref (b + xo 5 q9_1)), (0, .ref (b + xo 0 0))]) hx hb dX5_step_23 rfl hl (by decide) rfl (fun ls hl => ?_)
    refine lv_aload_n hx hb dX5_step_24 rfl (lv_at hl 0 rfl) ?_
    refine lv_ifnull hx hb dX5_step_25 ?_
    refine lv_aload_n hx hb dX5_step_28 rfl (lv_at hl 1 rfl) ?_
    refine lv_aload_n hx hb dX5_step_29 rfl (lv_at hl 0 rfl) ?_
    refine e_cv (e_runV (C := RX5) (ci := 5) (As := [.ref (b + xo 5 q9_1)]) (rest := []) ⟨hx, hb, hml, hown, hts⟩ (k_X5_execute l D cs b (f_X5_giveWayToHigh (f_X5_wakeThoseWhoseTimeHasCome σ)) q9_1 (by assumption) (by first | exact (ok_takeNext (ok_giveWay (ok_wake ho))).2.2.2 | exact (ok_giveWay (ok_wake ho)).2.2.2)) ⟨callB_of 1 hts (gC wC_X5_execute) rfl rfl rfl (hts _ wi_X5) (hts _ wM_X5_148) (by decide +kernel) (by decide), hts _ wN_X5_execute, hts _ wS_X5_execute⟩ hK hH (xo_ok (by decide)).2.2 (Ex_at cs b (f_X5_giveWayToHigh (f_X5_wakeThoseWhoseTimeHasCome σ)) (by decide)) rfl rfl rfl hl.1 rfl (Nat.le_of_ble_eq_true rfl) dX5_step_30 (by decide)) hS (fun H locs hH hS => ?_)
    refine lv_aload_n hx hb dX5_step_33 rfl (lv_at hl 0 rfl) ?_
    refine fgX5_80 hx hb hts hown hK hH q9_1 (show q9_1 < 8 by first | assumption | omega) dX5_step_34 ?_
    refine lv_iconst (v := 2) hx hb dX5_step_37 (by decide) ?_
    refine lv_icmp_eq (tgt := 46) hx hb dX5_step_38 (by decide) (fun c_38_4 => ?_) (fun c_38_4 => ?_)
    ·
      refine lv_aload_n hx hb dX5_step_46 rfl (lv_at hl 1 rfl) ?_
      refine lv_dup hx hb dX5_step_47 rfl ?_
      refine fgX5_53 hx hb hts hown hK hH 0 (by decide) dX5_step_48 ?_
      refine lv_iconst (v := 1) hx hb dX5_step_51 (by decide) ?_
      refine lv_iadd hx hb dX5_step_52 ?_
      refine fpX5_53 hx hb hts hown hK hH hS 0 (by decide) dX5_step_53 (fun H locs hH hS => ?_)
      refine lv_aload_n hx hb dX5_step_56 rfl (lv_at hl 0 rfl) ?_
      refine lv_ifnull hx hb dX5_step_57 ?_
      refine lv_iconst (v := 1) hx hb dX5_step_60 (by decide) ?_
      refine lv_goto (tgt := 65) hx hb dX5_step_61 (by decide) ?_
      exact e_zret hx hb hr hlk hK hH hS dX5_step_65 (by rfl) (by simp only [f_X5_step, hq_9_1, oC_some, if_pos c_38_4]) (congrArg (Ex cs b) (by simp only [f_X5_step, hq_9_1, oC_some, if_pos c_38_4]))
    ·
      refine lv_aload_n hx hb dX5_step_41 rfl (lv_at hl 1 rfl) ?_
      refine lv_null hx hb dX5_step_42 ?_
      refine fpX5_49 hx hb hts hown hK hH hS 0 (by decide) (none) rfl dX5_step_43 (fun H locs hH hS => ?_)
      refine lv_aload_n hx hb dX5_step_46 rfl (lv_at hl 1 rfl) ?_
      refine lv_dup hx hb dX5_step_47 rfl ?_
      refine fgX5_53 hx hb hts hown hK hH 0 (by decide) dX5_step_48 ?_
      refine lv_iconst (v := 1) hx hb dX5_step_51 (by decide) ?_
      refine lv_iadd hx hb dX5_step_52 ?_
      refine fpX5_53 hx hb hts hown hK hH hS 0 (by decide) dX5_step_53 (fun H locs hH hS => ?_)
      refine lv_aload_n hx hb dX5_step_56 rfl (lv_at hl 0 rfl) ?_
      refine lv_ifnull hx hb dX5_step_57 ?_
      refine lv_iconst (v := 1) hx hb dX5_step_60 (by decide) ?_
      refine lv_goto (tgt := 65) hx hb dX5_step_61 (by decide) ?_
      exact e_zret hx hb hr hlk hK hH hS dX5_step_65 (by rfl) (by simp only [f_X5_step, hq_9_1, oC_some, if_neg c_38_4]) (congrArg (Ex cs b) (by simp only [f_X5_step, hq_9_1, oC_some, if_neg c_38_4]))
end
section
theorem ok_step {σ : St} (h : ok σ) : ok (f_X5_step σ).2 := by
  have h1 := ok_giveWay (ok_wake h)
  have h2 := ok_takeNext h1
  unfold f_X5_step
  rcases hq : gR (f_X5_giveWayToHigh (f_X5_wakeThoseWhoseTimeHasCome σ)) 0 0 6 with _ | q
  · rw [oC_none]
    rcases hp : gR (f_X5_takeNext (f_X5_giveWayToHigh (f_X5_wakeThoseWhoseTimeHasCome σ))) 0 0 6 with _ | p
    · exact ok_sI (by decide) h2
    · rw [oC_some]
      have h3 := ok_execute (h2.2.2.1 _ hp) h2
      split
      · exact ok_sI (by decide) h3
      · exact ok_sI (by decide) (ok_sR none_lt h3)
  · rw [oC_some]
    have h3 := ok_execute (h1.2.2.1 _ hq) h1
    split
    · exact ok_sI (by decide) h3
    · exact ok_sI (by decide) (ok_sR none_lt h3)
theorem jlt400 {x : Int32} {j : Nat} (h0 : ¬ x < 0) (h1 : x ≤ 400) (hj : j ≤ 400) (h : ¬ x ≤ nI j) : j < 400 := by
  obtain ⟨k, hk, rfl⟩ := nI_of h0
  have := (nI_leI hk (show 400 < 2 ^ 31 by decide)).mp h1
  exact Nat.lt_of_lt_of_le (ngt_8 hj k this h) this
def lp_X5_run_17 (x : Int32) : Nat → St → Int32 → Nat → Int32 × St
  | 0, σ, w, _ => (w, σ)
  | n + 1, σ, w, j => (if x ≤ nI j then (w, σ) else (if (f_X5_step σ).1 = 0 then lp_X5_run_17 x n ((f_X5_step σ).2) (w + 1) ((j + 1)) else lp_X5_run_17 x n ((f_X5_step σ).2) w ((j + 1))))
def f_X5_run (σ : St) (x : Int32) : Int32 × St := (if x < 0 then ((-1), σ) else (if x ≤ 400 then lp_X5_run_17 x 401 σ 0 0 else ((-1), σ)))
set_option maxRecDepth 100000 in
set_option maxHeartbeats 4000000 in
theorem w_X5_run_17 {l : Launch} {D : va_G} {cs : Nat → ClassId} {b : Nat} {pg : Program} {e : Env} {s : State} {m : MethodId} {below : List Frame} {meth : Method} {c : Code} (x : Int32)   (hx : pg.tables.exec = Jvm.exec) (hb : c.code = cX5_run) (hr : meth.sig.returnType = (some FieldType.int)) (hml : c.maxLocals = 4) {args : Array Value} (hts : ∀ w ∈ T0, w.before args s = true) (hown : s.vm.findClass RX5 = some m.cls) (hlk : meth.locks = false) (hK : va_K D vwCl (tyx cs) s) : ∀ (n : Nat) (σ : St) (w : Int32) (j : Nat), 400 < j + n → j ≤ 400 → ok σ → ¬ x < 0 → x ≤ 400 → ∀ (H : Heap) (locs : List Loc) (ls : Array Slot), He D b 43 (Ex cs b σ) H → va_S (fun a => b ≤ a) s.heap H locs → lv_has ls 4 [(0, .ref (b + xo 0 0)), (1, .int (x)), (2, .int (w)), (3, .int (nI j))] → W pg l e { frames := 6, cells := 0, slots := 0, locals := 138 } s m args below meth c H locs 0 0 (MQ below (Qi D (tyx cs) b 43 (Ex cs b (lp_X5_run_17 x n σ w j).2) (lp_X5_run_17 x n σ w j).1) args s 0 0 (fun a => b ≤ a)) (F0 m 17 ls []) := by
  intro n
  induction n with
  | zero =>
    intro σ w j h0 h1 h2 h3 h4
    exact absurd h0 (by omega)
  | succ n ih =>
    intro σ w j h0 h1 h2 h3 h4 H locs ls hH hS hl
    refine lv_iload_n hx hb dX5_run_17 rfl (lv_at hl 3 rfl) ?_
    refine lv_iload_n hx hb dX5_run_18 rfl (lv_at hl 1 rfl) ?_
    refine lv_icmp_ge (tgt := 38) hx hb dX5_run_19 (by decide) (fun c_19_1 => ?_) (fun c_19_1 => ?_)
    ·
      refine lv_iload_n hx hb dX5_run_38 rfl (lv_at hl 2 rfl) ?_
      exact e_iret hx hb hr hlk hK hH hS dX5_run_39 (by simp only [lp_X5_run_17, if_pos c_19_1]) (congrArg (Ex cs b) (by simp only [lp_X5_run_17, if_pos c_19_1]))
    ·
      have hj4 := jlt400 h3 h4 h1 (by assumption)
      refine lv_aload_n hx hb dX5_run_22 rfl (lv_at hl 0 rfl) ?_
      refine e_ci (e_runV (C := RX5) (ci := 5) (As := []) (rest := []) ⟨hx, hb, hml, hown, hts⟩ (k_X5_step l D cs b σ  (by first | assumption | omega | decide)) ⟨callB_of 0 hts (gC wC_X5_step) rfl rfl rfl (hts _ wi_X5) (hts _ wM_X5_76) (by decide +kernel) (by decide), hts _ wN_X5_step, hts _ wS_X5_step⟩ hK hH (xo_ok (by decide)).2.2 (Ex_at cs b σ (by decide)) rfl rfl rfl hl.1 rfl (Nat.le_of_ble_eq_true rfl) dX5_run_23 (by decide)) hS (fun H locs hH hS => ?_)
      refine lv_if_ne (tgt := 32) hx hb dX5_run_26 (by decide) (fun c_26_2 => ?_) (fun c_26_2 => ?_)
      ·
        refine lv_iinc (v := nI (j + 1)) (lv' := [(3, .int (nI (j + 1))), (0, .ref (b + xo 0 0)), (1, .int (x)), (2, .int (w))]) hx hb dX5_run_32 hl (k := 3) rfl (nI_1 j) (by decide) rfl (fun ls hl => ?_)
        refine lv_goto (tgt := 17) hx hb dX5_run_35 (by decide) ?_
        have e_ : lp_X5_run_17 x (n + 1) σ w j = lp_X5_run_17 x n ((f_X5_step σ).2) w ((j + 1)) := by simp only [lp_X5_run_17, if_neg c_19_1, if_neg c_26_2]
        rw [e_]
        exact ih ((f_X5_step σ).2) w ((j + 1)) (by omega) (by omega) (ok_step h2) h3 h4 _ _ _ hH hS (lv_sub hl [1, 2, 3, 0] rfl)
      ·
        refine lv_iinc (v := w + 1) (lv' := [(2, .int (w + 1)), (0, .ref (b + xo 0 0)), (1, .int (x)), (3, .int (nI j))]) hx hb dX5_run_29 hl (k := 2) rfl (rfl) (by decide) rfl (fun ls hl => ?_)
        refine lv_iinc (v := nI (j + 1)) (lv' := [(3, .int (nI (j + 1))), (2, .int (w + 1)), (0, .ref (b + xo 0 0)), (1, .int (x))]) hx hb dX5_run_32 hl (k := 3) rfl (nI_1 j) (by decide) rfl (fun ls hl => ?_)
        refine lv_goto (tgt := 17) hx hb dX5_run_35 (by decide) ?_
        have e_ : lp_X5_run_17 x (n + 1) σ w j = lp_X5_run_17 x n ((f_X5_step σ).2) (w + 1) ((j + 1)) := by simp only [lp_X5_run_17, if_neg c_19_1, if_pos c_26_2]
        rw [e_]
        exact ih ((f_X5_step σ).2) (w + 1) ((j + 1)) (by omega) (by omega) (ok_step h2) h3 h4 _ _ _ hH hS (lv_sub hl [2, 3, 1, 0] rfl)
set_option maxRecDepth 100000 in
set_option maxHeartbeats 4000000 in
theorem k_X5_run (l : Launch) (D : va_G) (cs : Nat → ClassId) (b : Nat) (σ : St) (x : Int32) (ho : ok σ) : Met l yX5_run (Cond.code yX5_run cX5_run 4 (some FieldType.int) :: T0) { frames := 6, cells := 0, slots := 0, locals := 138 } (Pe D (tyx cs) b 43 (Ex cs b σ) [.ref (b + xo 0 0), .int (x)]) (Qi D (tyx cs) b 43 (Ex cs b (f_X5_run σ x).2) (f_X5_run σ x).1) 0 0 (fun a => b ≤ a) := by
  refine e_met (by decide) rfl (Nat.le_of_ble_eq_true rfl) (fun pg e s m below meth c ls hx hb hr hml hts0 hown hlk hnm hH hK hl hS => ?_)
  have hts : ∀ w ∈ T0, w.before _ s = true := fun w h => hts0 w (List.mem_cons_of_mem _ h)
  have hl : lv_has ls 4 [(0, .ref (b + xo 0 0)), (1, .int (x))] := hl
  refine lv_iload_n hx hb dX5_run_0 rfl (lv_at hl 1 rfl) ?_
  refine lv_if_lt (tgt := 11) hx hb dX5_run_1 (by decide) (fun c_1_3 => ?_) (fun c_1_3 => ?_)
  ·
    refine lv_iconst (v := (-1)) hx hb dX5_run_11 (by decide) ?_
    exact e_iret hx hb hr hlk hK hH hS dX5_run_12 (by simp only [f_X5_run, if_pos c_1_3]) (congrArg (Ex cs b) (by simp only [f_X5_run, if_pos c_1_3]))
  ·
    refine lv_iload_n hx hb dX5_run_4 rfl (lv_at hl 1 rfl) ?_
    refine lv_sipush (v := 400) hx hb dX5_run_5 (by decide) ?_
    refine lv_icmp_le (tgt := 13) hx hb dX5_run_8 (by decide) (fun c_8_4 => ?_) (fun c_8_4 => ?_)
    ·
      refine lv_iconst (v := 0) hx hb dX5_run_13 (by decide) ?_
      refine lv_istore_n (lv' := [(2, .int (0)), (0, .ref (b + xo 0 0)), (1, .int (x))]) hx hb dX5_run_14 rfl hl (by decide) rfl (fun ls hl => ?_)
      refine lv_iconst (v := 0) hx hb dX5_run_15 (by decide) ?_
      refine lv_istore_n (lv' := [(3, .int (0)), (2, .int (0)), (0, .ref (b + xo 0 0)), (1, .int (x))]) hx hb dX5_run_16 rfl hl (by decide) rfl (fun ls hl => ?_)
      have e_ : f_X5_run σ x = lp_X5_run_17 x 401 σ 0 0 := by simp only [f_X5_run, if_neg c_1_3, if_pos c_8_4]
      rw [e_]
      exact w_X5_run_17 x  hx hb hr hml hts hown hlk hK 401 σ 0 0 (by omega) (by omega) ho (by assumption) (by assumption) _ _ _ hH hS (lv_sub hl [2, 3, 1, 0] rfl)
    ·
      refine lv_iconst (v := (-1)) hx hb dX5_run_11 (by decide) ?_
      exact e_iret hx hb hr hlk hK hH hS dX5_run_12 (by simp only [f_X5_run, if_neg c_1_3, if_neg c_8_4]) (congrArg (Ex cs b) (by simp only [f_X5_run, if_neg c_1_3, if_neg c_8_4]))
def f_X5_setClock (σ : St) (x : Int32) : St := sI σ 0 0 7 x
set_option maxRecDepth 100000 in
set_option maxHeartbeats 4000000 in
theorem k_X5_setClock (l : Launch) (D : va_G) (cs : Nat → ClassId) (b : Nat) (σ : St) (x : Int32)  : Met l yX5_setClock (Cond.code yX5_setClock cX5_setClock 2 (none : Option FieldType) :: T0) { frames := 0, cells := 0, slots := 0, locals := 0 } (Pe D (tyx cs) b 43 (Ex cs b σ) [.ref (b + xo 0 0), .int (x)]) (Qv D (tyx cs) b 43 (Ex cs b (f_X5_setClock σ x))) 0 0 (fun a => b ≤ a) := by
  refine e_met (by decide) rfl (Nat.le_of_ble_eq_true rfl) (fun pg e s m below meth c ls hx hb hr hml hts0 hown hlk hnm hH hK hl hS => ?_)
  have hts : ∀ w ∈ T0, w.before _ s = true := fun w h => hts0 w (List.mem_cons_of_mem _ h)
  have hl : lv_has ls 2 [(0, .ref (b + xo 0 0)), (1, .int (x))] := hl
  refine lv_aload_n hx hb dX5_setClock_0 rfl (lv_at hl 0 rfl) ?_
  refine lv_iload_n hx hb dX5_setClock_1 rfl (lv_at hl 1 rfl) ?_
  refine fpX5_53 hx hb hts hown hK hH hS 0 (by decide) dX5_setClock_2 (fun H locs hH hS => ?_)
  exact e_vret hx hb hr hlk hK hH hS dX5_setClock_5 (congrArg (Ex cs b) (by simp only [f_X5_setClock]))
def f_X5_clock (σ : St)  : Int32 := gI σ 0 0 7
set_option maxRecDepth 100000 in
set_option maxHeartbeats 4000000 in
theorem k_X5_clock (l : Launch) (D : va_G) (cs : Nat → ClassId) (b : Nat) (σ : St)   : Met l yX5_clock (Cond.code yX5_clock cX5_clock 1 (some FieldType.int) :: T0) { frames := 0, cells := 0, slots := 0, locals := 0 } (Pe D (tyx cs) b 43 (Ex cs b σ) [.ref (b + xo 0 0)]) (Qi D (tyx cs) b 43 (Ex cs b σ) (f_X5_clock σ)) 0 0 (fun a => b ≤ a) := by
  refine e_met (by decide) rfl (Nat.le_of_ble_eq_true rfl) (fun pg e s m below meth c ls hx hb hr hml hts0 hown hlk hnm hH hK hl hS => ?_)
  have hts : ∀ w ∈ T0, w.before _ s = true := fun w h => hts0 w (List.mem_cons_of_mem _ h)
  have hl : lv_has ls 1 [(0, .ref (b + xo 0 0))] := hl
  refine lv_aload_n hx hb dX5_clock_0 rfl (lv_at hl 0 rfl) ?_
  refine fgX5_53 hx hb hts hown hK hH 0 (by decide) dX5_clock_1 ?_
  exact e_iret hx hb hr hlk hK hH hS dX5_clock_4 (by simp only [f_X5_clock]) rfl
def f_X5_messages (σ : St)  : Int32 := gI σ 11 0 1
set_option maxRecDepth 100000 in
set_option maxHeartbeats 4000000 in
theorem k_X5_messages (l : Launch) (D : va_G) (cs : Nat → ClassId) (b : Nat) (σ : St)   : Met l yX5_messages (Cond.code yX5_messages cX5_messages 1 (some FieldType.int) :: T0) { frames := 0, cells := 0, slots := 0, locals := 0 } (Pe D (tyx cs) b 43 (Ex cs b σ) [.ref (b + xo 0 0)]) (Qi D (tyx cs) b 43 (Ex cs b σ) (f_X5_messages σ)) 0 0 (fun a => b ≤ a) := by
  refine e_met (by decide) rfl (Nat.le_of_ble_eq_true rfl) (fun pg e s m below meth c ls hx hb hr hml hts0 hown hlk hnm hH hK hl hS => ?_)
  have hts : ∀ w ∈ T0, w.before _ s = true := fun w h => hts0 w (List.mem_cons_of_mem _ h)
  have hl : lv_has ls 1 [(0, .ref (b + xo 0 0))] := hl
  refine lv_aload_n hx hb dX5_messages_0 rfl (lv_at hl 0 rfl) ?_
  refine fgX5_45 hx hb hts hown hK hH 0 (by decide) dX5_messages_1 ?_
  refine fgX5_115 hx hb hts hown hK hH 0 (by decide) dX5_messages_4 ?_
  exact e_iret hx hb hr hlk hK hH hS dX5_messages_7 (by simp only [f_X5_messages]) rfl
def f_X5_message (σ : St) (x : Int32) (w : Int32) : Int64 := f_X1_part σ x w
set_option maxRecDepth 100000 in
set_option maxHeartbeats 4000000 in
theorem k_X5_message (l : Launch) (D : va_G) (cs : Nat → ClassId) (b : Nat) (σ : St) (x : Int32) (w : Int32)  : Met l yX5_message (Cond.code yX5_message cX5_message 3 (some FieldType.long) :: T0) { frames := 2, cells := 0, slots := 0, locals := 42 } (Pe D (tyx cs) b 43 (Ex cs b σ) [.ref (b + xo 0 0), .int (x), .int (w)]) (Ql D (tyx cs) b 43 (Ex cs b σ) (f_X5_message σ x w)) 0 0 (fun a => b ≤ a) := by
  refine e_met (by decide) rfl (Nat.le_of_ble_eq_true rfl) (fun pg e s m below meth c ls hx hb hr hml hts0 hown hlk hnm hH hK hl hS => ?_)
  have hts : ∀ w ∈ T0, w.before _ s = true := fun w h => hts0 w (List.mem_cons_of_mem _ h)
  have hl : lv_has ls 3 [(0, .ref (b + xo 0 0)), (1, .int (x)), (2, .int (w))] := hl
  refine lv_aload_n hx hb dX5_message_0 rfl (lv_at hl 0 rfl) ?_
  refine fgX5_45 hx hb hts hown hK hH 0 (by decide) dX5_message_1 ?_
  refine lv_iload_n hx hb dX5_message_4 rfl (lv_at hl 1 rfl) ?_
  refine lv_iload_n hx hb dX5_message_5 rfl (lv_at hl 2 rfl) ?_
  refine e_cl (e_runV (C := RX1) (ci := 1) (As := [.int (x), .int (w)]) (rest := []) ⟨hx, hb, hml, hown, hts⟩ (k_X1_part l D cs b σ x w ) ⟨callB_of 2 hts (gC wC_X1_part) rfl rfl rfl (hts _ wi_X1) (hts _ wM_X5_118) (by decide +kernel) (by decide), hts _ wN_X1_part, hts _ wS_X1_part⟩ hK hH (xo_ok (by decide)).2.2 (Ex_at cs b σ (by decide)) rfl rfl rfl hl.1 rfl (Nat.le_of_ble_eq_true rfl) dX5_message_6 (by decide)) hS (fun H locs hH hS => ?_)
  exact e_lret hx hb hr hlk hK hH hS dX5_message_9 (by simp only [f_X5_message]) rfl
def f_X5_add (σ : St) (x : Int32) (y : Int32) : Int32 × St := (if x < 0 then ((-1), σ) else (if x ≤ 15 then (if f_X5_isOperand σ x y = 0 then ((-2), σ) else (if gI σ 1 0 2 < 40 then ((f_X3_append σ x y).1, (f_X3_append σ x y).2) else ((-3), σ))) else ((-1), σ)))
set_option maxRecDepth 100000 in
set_option maxHeartbeats 4000000 in
theorem k_X5_add (l : Launch) (D : va_G) (cs : Nat → ClassId) (b : Nat) (σ : St) (x : Int32) (y : Int32)  : Met l yX5_add (Cond.code yX5_add cX5_add 3 (some FieldType.int) :: T0) { frames := 1, cells := 0, slots := 0, locals := 23 } (Pe D (tyx cs) b 43 (Ex cs b σ) [.ref (b + xo 0 0), .int (x), .int (y)]) (Qi D (tyx cs) b 43 (Ex cs b (f_X5_add σ x y).2) (f_X5_add σ x y).1) 0 0 (fun a => b ≤ a) := by
  refine e_met (by decide) rfl (Nat.le_of_ble_eq_true rfl) (fun pg e s m below meth c ls hx hb hr hml hts0 hown hlk hnm hH hK hl hS => ?_)
  have hts : ∀ w ∈ T0, w.before _ s = true := fun w h => hts0 w (List.mem_cons_of_mem _ h)
  have hl : lv_has ls 3 [(0, .ref (b + xo 0 0)), (1, .int (x)), (2, .int (y))] := hl
  refine lv_iload_n hx hb dX5_add_0 rfl (lv_at hl 1 rfl) ?_
  refine lv_if_lt (tgt := 10) hx hb dX5_add_1 (by decide) (fun c_1_1 => ?_) (fun c_1_1 => ?_)
  ·
    refine lv_iconst (v := (-1)) hx hb dX5_add_10 (by decide) ?_
    exact e_iret hx hb hr hlk hK hH hS dX5_add_11 (by simp only [f_X5_add, if_pos c_1_1]) (congrArg (Ex cs b) (by simp only [f_X5_add, if_pos c_1_1]))
  ·
    refine lv_iload_n hx hb dX5_add_4 rfl (lv_at hl 1 rfl) ?_
    refine lv_bipush (v := 15) hx hb dX5_add_5 (by decide) ?_
    refine lv_icmp_le (tgt := 12) hx hb dX5_add_7 (by decide) (fun c_7_2 => ?_) (fun c_7_2 => ?_)
    ·
      refine lv_iload_n hx hb dX5_add_12 rfl (lv_at hl 1 rfl) ?_
      refine lv_iload_n hx hb dX5_add_13 rfl (lv_at hl 2 rfl) ?_
      refine e_ci (e_runS (As := [.int (x), .int (y)]) (rest := []) ⟨hx, hb, hml, hown, hts⟩ (k_X5_isOperand l D cs b σ x y ) ⟨callB_of 2 hts (gC wC_X5_isOperand) rfl rfl rfl (hts _ wi_X5) (hts _ wM_X5_57) (by decide +kernel) (by decide), hts _ wT_X5_isOperand⟩ hK hH rfl hl.1 rfl (Nat.le_of_ble_eq_true rfl) dX5_add_14 (by decide)) hS (fun H locs hH hS => ?_)
      refine lv_if_ne (tgt := 23) hx hb dX5_add_17 (by decide) (fun c_17_3 => ?_) (fun c_17_3 => ?_)
      ·
        refine lv_aload_n hx hb dX5_add_23 rfl (lv_at hl 0 rfl) ?_
        refine fgX5_10 hx hb hts hown hK hH 0 (by decide) dX5_add_24 ?_
        refine fgX5_61 hx hb hts hown hK hH 0 (by decide) dX5_add_27 ?_
        refine lv_bipush (v := 40) hx hb dX5_add_30 (by decide) ?_
        refine lv_icmp_lt (tgt := 38) hx hb dX5_add_32 (by decide) (fun c_32_4 => ?_) (fun c_32_4 => ?_)
        ·
          refine lv_aload_n hx hb dX5_add_38 rfl (lv_at hl 0 rfl) ?_
          refine fgX5_10 hx hb hts hown hK hH 0 (by decide) dX5_add_39 ?_
          refine lv_iload_n hx hb dX5_add_42 rfl (lv_at hl 1 rfl) ?_
          refine lv_iload_n hx hb dX5_add_43 rfl (lv_at hl 2 rfl) ?_
          refine e_ci (e_runV (C := RX3) (ci := 3) (As := [.int (x), .int (y)]) (rest := []) ⟨hx, hb, hml, hown, hts⟩ (k_X3_append l D cs b σ x y ) ⟨callB_of 2 hts (gC wC_X3_append) rfl rfl rfl (hts _ wi_X3) (hts _ wM_X5_64) (by decide +kernel) (by decide), hts _ wN_X3_append, hts _ wS_X3_append⟩ hK hH (xo_ok (by decide)).2.2 (Ex_at cs b σ (by decide)) rfl rfl rfl hl.1 rfl (Nat.le_of_ble_eq_true rfl) dX5_add_44 (by decide)) hS (fun H locs hH hS => ?_)
          exact e_iret hx hb hr hlk hK hH hS dX5_add_47 (by simp only [f_X5_add, if_neg c_1_1, if_pos c_7_2, if_neg c_17_3, if_pos c_32_4]) (congrArg (Ex cs b) (by simp only [f_X5_add, if_neg c_1_1, if_pos c_7_2, if_neg c_17_3, if_pos c_32_4]))
        ·
          refine lv_bipush (v := (-3)) hx hb dX5_add_35 (by decide) ?_
          exact e_iret hx hb hr hlk hK hH hS dX5_add_37 (by simp only [f_X5_add, if_neg c_1_1, if_pos c_7_2, if_neg c_17_3, if_neg c_32_4]) (congrArg (Ex cs b) (by simp only [f_X5_add, if_neg c_1_1, if_pos c_7_2, if_neg c_17_3, if_neg c_32_4]))
      ·
        refine lv_bipush (v := (-2)) hx hb dX5_add_20 (by decide) ?_
        exact e_iret hx hb hr hlk hK hH hS dX5_add_22 (by simp only [f_X5_add, if_neg c_1_1, if_pos c_7_2, if_pos c_17_3]) (congrArg (Ex cs b) (by simp only [f_X5_add, if_neg c_1_1, if_pos c_7_2, if_pos c_17_3]))
    ·
      refine lv_iconst (v := (-1)) hx hb dX5_add_10 (by decide) ?_
      exact e_iret hx hb hr hlk hK hH hS dX5_add_11 (by simp only [f_X5_add, if_neg c_1_1, if_neg c_7_2]) (congrArg (Ex cs b) (by simp only [f_X5_add, if_neg c_1_1, if_neg c_7_2]))
def f_X5_start (σ : St) (x : Int32) (y : Int32) (z : Int32) : Int32 × St := (if f_X5_isPriority σ x = 0 then ((-1), σ) else (if y < 0 then ((-1), σ) else (if y < 40 then (if (f_X5_startLeastFree σ x y z).1 = (-1) then ((-2), (f_X5_startLeastFree σ x y z).2) else ((f_X5_startLeastFree σ x y z).1, (f_X5_startLeastFree σ x y z).2)) else ((-1), σ))))
set_option maxRecDepth 100000 in
set_option maxHeartbeats 4000000 in
theorem k_X5_start (l : Launch) (D : va_G) (cs : Nat → ClassId) (b : Nat) (σ : St) (x : Int32) (y : Int32) (z : Int32)  : Met l yX5_start (Cond.code yX5_start cX5_start 5 (some FieldType.int) :: T0) { frames := 3, cells := 0, slots := 0, locals := 66 } (Pe D (tyx cs) b 43 (Ex cs b σ) [.ref (b + xo 0 0), .int (x), .int (y), .int (z)]) (Qi D (tyx cs) b 43 (Ex cs b (f_X5_start σ x y z).2) (f_X5_start σ x y z).1) 0 0 (fun a => b ≤ a) := by
  refine e_met (by decide) rfl (Nat.le_of_ble_eq_true rfl) (fun pg e s m below meth c ls hx hb hr hml hts0 hown hlk hnm hH hK hl hS => ?_)
  have hts : ∀ w ∈ T0, w.before _ s = true := fun w h => hts0 w (List.mem_cons_of_mem _ h)
  have hl : lv_has ls 5 [(0, .ref (b + xo 0 0)), (1, .int (x)), (2, .int (y)), (3, .int (z))] := hl
  refine lv_iload_n hx hb dX5_start_0 rfl (lv_at hl 1 rfl) ?_
  refine e_ci (e_runS (As := [.int (x)]) (rest := []) ⟨hx, hb, hml, hown, hts⟩ (k_X5_isPriority l D cs b σ x ) ⟨callB_of 1 hts (gC wC_X5_isPriority) rfl rfl rfl (hts _ wi_X5) (hts _ wM_X5_68) (by decide +kernel) (by decide), hts _ wT_X5_isPriority⟩ hK hH rfl hl.1 rfl (Nat.le_of_ble_eq_true rfl) dX5_start_1 (by decide)) hS (fun H locs hH hS => ?_)
  refine lv_if_eq (tgt := 17) hx hb dX5_start_4 (by decide) (fun c_4_1 => ?_) (fun c_4_1 => ?_)
  ·
    refine lv_iconst (v := (-1)) hx hb dX5_start_17 (by decide) ?_
    exact e_iret hx hb hr hlk hK hH hS dX5_start_18 (by simp only [f_X5_start, if_pos c_4_1]) (congrArg (Ex cs b) (by simp only [f_X5_start, if_pos c_4_1]))
  ·
    refine lv_iload_n hx hb dX5_start_7 rfl (lv_at hl 2 rfl) ?_
    refine lv_if_lt (tgt := 17) hx hb dX5_start_8 (by decide) (fun c_8_2 => ?_) (fun c_8_2 => ?_)
    ·
      refine lv_iconst (v := (-1)) hx hb dX5_start_17 (by decide) ?_
      exact e_iret hx hb hr hlk hK hH hS dX5_start_18 (by simp only [f_X5_start, if_neg c_4_1, if_pos c_8_2]) (congrArg (Ex cs b) (by simp only [f_X5_start, if_neg c_4_1, if_pos c_8_2]))
    ·
      refine lv_iload_n hx hb dX5_start_11 rfl (lv_at hl 2 rfl) ?_
      refine lv_bipush (v := 40) hx hb dX5_start_12 (by decide) ?_
      refine lv_icmp_lt (tgt := 19) hx hb dX5_start_14 (by decide) (fun c_14_3 => ?_) (fun c_14_3 => ?_)
      ·
        refine lv_aload_n hx hb dX5_start_19 rfl (lv_at hl 0 rfl) ?_
        refine lv_iload_n hx hb dX5_start_20 rfl (lv_at hl 1 rfl) ?_
        refine lv_iload_n hx hb dX5_start_21 rfl (lv_at hl 2 rfl) ?_
        refine lv_iload_n hx hb dX5_start_22 rfl (lv_at hl 3 rfl) ?_
        refine e_ci (e_runV (C := RX5) (ci := 5) (As := [.int (x), .int (y), .int (z)]) (rest := []) ⟨hx, hb, hml, hown, hts⟩ (k_X5_startLeastFree l D cs b σ x y z ) ⟨callB_of 3 hts (gC wC_X5_startLeastFree) rfl rfl rfl (hts _ wi_X5) (hts _ wM_X5_72) (by decide +kernel) (by decide), hts _ wN_X5_startLeastFree, hts _ wS_X5_startLeastFree⟩ hK hH (xo_ok (by decide)).2.2 (Ex_at cs b σ (by decide)) rfl rfl rfl hl.1 rfl (Nat.le_of_ble_eq_true rfl) dX5_start_23 (by decide)) hS (fun H locs hH hS => ?_)
        refine lv_istore (lv' := [(4, .int ((f_X5_startLeastFree σ x y z).1)), (0, .ref (b + xo 0 0)), (1, .int (x)), (2, .int (y)), (3, .int (z))]) hx hb dX5_start_26 hl (by decide) rfl (fun ls hl => ?_)
        refine lv_iload hx hb dX5_start_28 (lv_at hl 0 rfl) ?_
        refine lv_iconst (v := (-1)) hx hb dX5_start_30 (by decide) ?_
        refine lv_icmp_ne (tgt := 39) hx hb dX5_start_31 (by decide) (fun c_31_4 => ?_) (fun c_31_4 => ?_)
        ·
          refine lv_iload hx hb dX5_start_39 (lv_at hl 0 rfl) ?_
          exact e_iret hx hb hr hlk hK hH hS dX5_start_41 (by simp only [f_X5_start, if_neg c_4_1, if_neg c_8_2, if_pos c_14_3, if_neg c_31_4]) (congrArg (Ex cs b) (by simp only [f_X5_start, if_neg c_4_1, if_neg c_8_2, if_pos c_14_3, if_neg c_31_4]))
        ·
          refine lv_bipush (v := (-2)) hx hb dX5_start_34 (by decide) ?_
          refine lv_goto (tgt := 41) hx hb dX5_start_36 (by decide) ?_
          exact e_iret hx hb hr hlk hK hH hS dX5_start_41 (by simp only [f_X5_start, if_neg c_4_1, if_neg c_8_2, if_pos c_14_3, if_pos c_31_4]) (congrArg (Ex cs b) (by simp only [f_X5_start, if_neg c_4_1, if_neg c_8_2, if_pos c_14_3, if_pos c_31_4]))
      ·
        refine lv_iconst (v := (-1)) hx hb dX5_start_17 (by decide) ?_
        exact e_iret hx hb hr hlk hK hH hS dX5_start_18 (by simp only [f_X5_start, if_neg c_4_1, if_neg c_8_2, if_neg c_14_3]) (congrArg (Ex cs b) (by simp only [f_X5_start, if_neg c_4_1, if_neg c_8_2, if_neg c_14_3]))
def lp_X5_reset_2 : Nat → St → Nat → St
  | 0, σ, _ => σ
  | n + 1, σ, j => (if 8 ≤ nI j then σ else lp_X5_reset_2 n (sI σ 5 j 2 0) ((j + 1)))
def lp_X5_reset_26 : Nat → St → Nat → St
  | 0, σ, _ => σ
  | n + 1, σ, j => (if 4 ≤ nI j then σ else lp_X5_reset_26 n (f_X0_clear σ j) ((j + 1)))
def f_X5_reset (σ : St)  : St := sR (f_X4_clear (f_X4_clear (lp_X5_reset_26 5 (lp_X5_reset_2 9 σ 0) 0) 0) 1) 0 0 6 (none)
set_option maxRecDepth 100000 in
set_option maxHeartbeats 4000000 in
theorem w_X5_reset_2 {l : Launch} {D : va_G} {cs : Nat → ClassId} {b : Nat} {pg : Program} {e : Env} {s : State} {m : MethodId} {below : List Frame} {meth : Method} {c : Code}    (hx : pg.tables.exec = Jvm.exec) (hb : c.code = cX5_reset) (hml : c.maxLocals = 2) {args : Array Value} {H0 : Heap} {Q : State → Prop} (hts : ∀ w ∈ T0, w.before args s = true) (hown : s.vm.findClass RX5 = some m.cls) (hK : va_K D vwCl (tyx cs) s) : ∀ (n : Nat) (σ : St) (j : Nat), 8 < j + n → j ≤ 8 → ∀ (H : Heap) (locs : List Loc) (ls : Array Slot), (∀ (H : Heap) (locs : List Loc) (ls : Array Slot), He D b 43 (Ex cs b (lp_X5_reset_2 n σ j)) H → va_S (fun a => b ≤ a) H0 H locs → lv_has ls 2 [(0, .ref (b + xo 0 0))] → W pg l e { frames := 1, cells := 0, slots := 0, locals := 20 } s m args below meth c H locs 0 0 Q (F0 m 24 ls [])) → He D b 43 (Ex cs b σ) H → va_S (fun a => b ≤ a) H0 H locs → lv_has ls 2 [(0, .ref (b + xo 0 0)), (1, .int (nI j))] → W pg l e { frames := 1, cells := 0, slots := 0, locals := 20 } s m args below meth c H locs 0 0 Q (F0 m 2 ls []) := by
  intro n
  induction n with
  | zero =>
    intro σ j h0 h1
    exact absurd h0 (by omega)
  | succ n ih =>
    intro σ j h0 h1 H locs ls kk hH hS hl
    refine lv_iload_n hx hb dX5_reset_2 rfl (lv_at hl 1 rfl) ?_
    refine lv_bipush (v := 8) hx hb dX5_reset_3 (by decide) ?_
    refine lv_icmp_ge (tgt := 24) hx hb dX5_reset_5 (by decide) (fun c_5_1 => ?_) (fun c_5_1 => ?_)
    ·
      have e_ : lp_X5_reset_2 (n + 1) σ j = σ := by simp only [lp_X5_reset_2, if_pos c_5_1]
      rw [e_] at kk
      exact kk _ _ _ hH hS (lv_sub hl [0] rfl)
    ·
      have hj8 := ngt_8 (j := j) (by omega) 8 (by decide) (by assumption)
      refine lv_aload_n hx hb dX5_reset_8 rfl (lv_at hl 0 rfl) ?_
      refine fgX5_18 hx hb hts hown hK hH 0 (by decide) dX5_reset_9 ?_
      refine lv_iload_n hx hb dX5_reset_12 rfl (lv_at hl 1 rfl) ?_
      refine x_procs hx hb hK hH j rfl (by omega) dX5_reset_13 ?_
      refine lv_iconst (v := 0) hx hb dX5_reset_14 (by decide) ?_
      refine fpX5_80 hx hb hts hown hK hH hS j (show j < 8 by first | assumption | omega) dX5_reset_15 (fun H locs hH hS => ?_)
      refine lv_iinc (v := nI (j + 1)) (lv' := [(1, .int (nI (j + 1))), (0, .ref (b + xo 0 0))]) hx hb dX5_reset_18 hl (k := 1) rfl (nI_1 j) (by decide) rfl (fun ls hl => ?_)
      refine lv_goto (tgt := 2) hx hb dX5_reset_21 (by decide) ?_
      have e_ : lp_X5_reset_2 (n + 1) σ j = lp_X5_reset_2 n (sI σ 5 j 2 0) ((j + 1)) := by simp only [lp_X5_reset_2, if_neg c_5_1]
      rw [e_] at kk
      exact ih (sI σ 5 j 2 0) ((j + 1)) (by omega) (by omega) _ _ _ kk hH hS (lv_sub hl [1, 0] rfl)
set_option maxRecDepth 100000 in
set_option maxHeartbeats 4000000 in
theorem w_X5_reset_26 {l : Launch} {D : va_G} {cs : Nat → ClassId} {b : Nat} {pg : Program} {e : Env} {s : State} {m : MethodId} {below : List Frame} {meth : Method} {c : Code}    (hx : pg.tables.exec = Jvm.exec) (hb : c.code = cX5_reset) (hml : c.maxLocals = 2) {args : Array Value} {H0 : Heap} {Q : State → Prop} (hts : ∀ w ∈ T0, w.before args s = true) (hown : s.vm.findClass RX5 = some m.cls) (hK : va_K D vwCl (tyx cs) s) : ∀ (n : Nat) (σ : St) (j : Nat), 4 < j + n → j ≤ 4 → ∀ (H : Heap) (locs : List Loc) (ls : Array Slot), (∀ (H : Heap) (locs : List Loc) (ls : Array Slot), He D b 43 (Ex cs b (lp_X5_reset_26 n σ j)) H → va_S (fun a => b ≤ a) H0 H locs → lv_has ls 2 [(0, .ref (b + xo 0 0))] → W pg l e { frames := 1, cells := 0, slots := 0, locals := 20 } s m args below meth c H locs 0 0 Q (F0 m 46 ls [])) → He D b 43 (Ex cs b σ) H → va_S (fun a => b ≤ a) H0 H locs → lv_has ls 2 [(0, .ref (b + xo 0 0)), (1, .int (nI j))] → W pg l e { frames := 1, cells := 0, slots := 0, locals := 20 } s m args below meth c H locs 0 0 Q (F0 m 26 ls []) := by
  intro n
  induction n with
  | zero =>
    intro σ j h0 h1
    exact absurd h0 (by omega)
  | succ n ih =>
    intro σ j h0 h1 H locs ls kk hH hS hl
    refine lv_iload_n hx hb dX5_reset_26 rfl (lv_at hl 1 rfl) ?_
    refine lv_iconst (v := 4) hx hb dX5_reset_27 (by decide) ?_
    refine lv_icmp_ge (tgt := 46) hx hb dX5_reset_28 (by decide) (fun c_28_2 => ?_) (fun c_28_2 => ?_)
    ·
      have e_ : lp_X5_reset_26 (n + 1) σ j = σ := by simp only [lp_X5_reset_26, if_pos c_28_2]
      rw [e_] at kk
      exact kk _ _ _ hH hS (lv_sub hl [0] rfl)
    ·
      have hj4 := ngt_8 (j := j) (by omega) 4 (by decide) (by assumption)
      refine lv_aload_n hx hb dX5_reset_31 rfl (lv_at hl 0 rfl) ?_
      refine fgX5_27 hx hb hts hown hK hH 0 (by decide) dX5_reset_32 ?_
      refine lv_iload_n hx hb dX5_reset_35 rfl (lv_at hl 1 rfl) ?_
      refine x_chans hx hb hK hH j rfl (by omega) dX5_reset_36 ?_
      refine e_cv (e_runV (C := RX0) (ci := 0) (As := []) (rest := []) ⟨hx, hb, hml, hown, hts⟩ (k_X0_clear l D cs b σ j (by first | assumption | omega | decide)) ⟨callB_of 0 hts (gC wC_X0_clear) rfl rfl rfl (hts _ wi_X0) (hts _ wM_X5_83) (by decide +kernel) (by decide), hts _ wN_X0_clear, hts _ wS_X0_clear⟩ hK hH (xo_ok (show j < xn 8 by first | assumption | (show j < 4; first | assumption | omega))).2.2 (Ex_at cs b σ (show j < xn 8 by first | assumption | (show j < 4; first | assumption | omega))) rfl rfl rfl hl.1 rfl (Nat.le_of_ble_eq_true rfl) dX5_reset_37 (by decide)) hS (fun H locs hH hS => ?_)
      refine lv_iinc (v := nI (j + 1)) (lv' := [(1, .int (nI (j + 1))), (0, .ref (b + xo 0 0))]) hx hb dX5_reset_40 hl (k := 1) rfl (nI_1 j) (by decide) rfl (fun ls hl => ?_)
      refine lv_goto (tgt := 26) hx hb dX5_reset_43 (by decide) ?_
      have e_ : lp_X5_reset_26 (n + 1) σ j = lp_X5_reset_26 n (f_X0_clear σ j) ((j + 1)) := by simp only [lp_X5_reset_26, if_neg c_28_2]
      rw [e_] at kk
      exact ih (f_X0_clear σ j) ((j + 1)) (by omega) (by omega) _ _ _ kk hH hS (lv_sub hl [1, 0] rfl)
set_option maxRecDepth 100000 in
set_option maxHeartbeats 4000000 in
theorem k_X5_reset (l : Launch) (D : va_G) (cs : Nat → ClassId) (b : Nat) (σ : St)   : Met l yX5_reset (Cond.code yX5_reset cX5_reset 2 (none : Option FieldType) :: T0) { frames := 1, cells := 0, slots := 0, locals := 20 } (Pe D (tyx cs) b 43 (Ex cs b σ) [.ref (b + xo 0 0)]) (Qv D (tyx cs) b 43 (Ex cs b (f_X5_reset σ))) 0 0 (fun a => b ≤ a) := by
  refine e_met (by decide) rfl (Nat.le_of_ble_eq_true rfl) (fun pg e s m below meth c ls hx hb hr hml hts0 hown hlk hnm hH hK hl hS => ?_)
  have hts : ∀ w ∈ T0, w.before _ s = true := fun w h => hts0 w (List.mem_cons_of_mem _ h)
  have hl : lv_has ls 2 [(0, .ref (b + xo 0 0))] := hl
  refine lv_iconst (v := 0) hx hb dX5_reset_0 (by decide) ?_
  refine lv_istore_n (lv' := [(1, .int (0)), (0, .ref (b + xo 0 0))]) hx hb dX5_reset_1 rfl hl (by decide) rfl (fun ls hl => ?_)
  refine w_X5_reset_2  hx hb hml hts hown hK 9 σ 0 (by omega) (by omega) _ _ _ (fun H locs ls hH hS hl => ?_) hH hS (lv_sub hl [1, 0] rfl)
  refine lv_iconst (v := 0) hx hb dX5_reset_24 (by decide) ?_
  refine lv_istore_n (lv' := [(1, .int (0)), (0, .ref (b + xo 0 0))]) hx hb dX5_reset_25 rfl hl (by decide) rfl (fun ls hl => ?_)
  refine w_X5_reset_26  hx hb hml hts hown hK 5 (lp_X5_reset_2 9 σ 0) 0 (by omega) (by omega) _ _ _ (fun H locs ls hH hS hl => ?_) hH hS (lv_sub hl [1, 0] rfl)
  refine lv_aload_n hx hb dX5_reset_46 rfl (lv_at hl 0 rfl) ?_
  refine fgX5_35 hx hb hts hown hK hH 0 (by decide) dX5_reset_47 ?_
  refine e_cv (e_runV (C := RX4) (ci := 4) (As := []) (rest := []) ⟨hx, hb, hml, hown, hts⟩ (k_X4_clear l D cs b (lp_X5_reset_26 5 (lp_X5_reset_2 9 σ 0) 0) 0 (by first | assumption | omega | decide)) ⟨callB_of 0 hts (gC wC_X4_clear) rfl rfl rfl (hts _ wi_X4) (hts _ wM_X5_86) (by decide +kernel) (by decide), hts _ wN_X4_clear, hts _ wS_X4_clear⟩ hK hH (xo_ok (by decide)).2.2 (Ex_at cs b (lp_X5_reset_26 5 (lp_X5_reset_2 9 σ 0) 0) (by decide)) rfl rfl rfl hl.1 rfl (Nat.le_of_ble_eq_true rfl) dX5_reset_50 (by decide)) hS (fun H locs hH hS => ?_)
  refine lv_aload_n hx hb dX5_reset_53 rfl (lv_at hl 0 rfl) ?_
  refine fgX5_39 hx hb hts hown hK hH 0 (by decide) dX5_reset_54 ?_
  refine e_cv (e_runV (C := RX4) (ci := 4) (As := []) (rest := []) ⟨hx, hb, hml, hown, hts⟩ (k_X4_clear l D cs b (f_X4_clear (lp_X5_reset_26 5 (lp_X5_reset_2 9 σ 0) 0) 0) 1 (by first | assumption | omega | decide)) ⟨callB_of 0 hts (gC wC_X4_clear) rfl rfl rfl (hts _ wi_X4) (hts _ wM_X5_86) (by decide +kernel) (by decide), hts _ wN_X4_clear, hts _ wS_X4_clear⟩ hK hH (xo_ok (by decide)).2.2 (Ex_at cs b (f_X4_clear (lp_X5_reset_26 5 (lp_X5_reset_2 9 σ 0) 0) 0) (by decide)) rfl rfl rfl hl.1 rfl (Nat.le_of_ble_eq_true rfl) dX5_reset_57 (by decide)) hS (fun H locs hH hS => ?_)
  refine lv_aload_n hx hb dX5_reset_60 rfl (lv_at hl 0 rfl) ?_
  refine lv_null hx hb dX5_reset_61 ?_
  refine fpX5_49 hx hb hts hown hK hH hS 0 (by decide) (none) rfl dX5_reset_62 (fun H locs hH hS => ?_)
  exact e_vret hx hb hr hlk hK hH hS dX5_reset_65 (congrArg (Ex cs b) (by simp only [f_X5_reset]))
def f_X5_running (σ : St)  : Int32 := (oC (gR σ 0 0 6) ((-1)) (fun q1_1 => nI q1_1))
set_option maxRecDepth 100000 in
set_option maxHeartbeats 4000000 in
theorem k_X5_running (l : Launch) (D : va_G) (cs : Nat → ClassId) (b : Nat) (σ : St)  (ho : ok σ) : Met l yX5_running (Cond.code yX5_running cX5_running 1 (some FieldType.int) :: T0) { frames := 0, cells := 0, slots := 0, locals := 0 } (Pe D (tyx cs) b 43 (Ex cs b σ) [.ref (b + xo 0 0)]) (Qi D (tyx cs) b 43 (Ex cs b σ) (f_X5_running σ)) 0 0 (fun a => b ≤ a) := by
  refine e_met (by decide) rfl (Nat.le_of_ble_eq_true rfl) (fun pg e s m below meth c ls hx hb hr hml hts0 hown hlk hnm hH hK hl hS => ?_)
  have hts : ∀ w ∈ T0, w.before _ s = true := fun w h => hts0 w (List.mem_cons_of_mem _ h)
  have hl : lv_has ls 1 [(0, .ref (b + xo 0 0))] := hl
  refine lv_aload_n hx hb dX5_running_0 rfl (lv_at hl 0 rfl) ?_
  refine fgX5_49 hx hb hts hown hK hH 0 (by decide) _ rfl dX5_running_1 ?_
  rcases hq_1_1 : gR σ 0 0 6 with _ | q1_1
  ·
    refine W.eq (g2 := F0 m 4 ls [.null]) rfl ?_
    refine lv_ifnonnullN hx hb dX5_running_4 ?_
    refine lv_iconst (v := (-1)) hx hb dX5_running_7 (by decide) ?_
    refine lv_goto (tgt := 18) hx hb dX5_running_8 (by decide) ?_
    exact e_iret hx hb hr hlk hK hH hS dX5_running_18 (by simp only [f_X5_running, hq_1_1, oC_none]) rfl
  ·
    have q1_1b := ho.2.2.1 _ hq_1_1
    refine W.eq (g2 := F0 m 4 ls [.ref (b + xo 5 q1_1)]) rfl ?_
    refine lv_ifnonnull (tgt := 11) hx hb dX5_running_4 (by decide) ?_
    refine lv_aload_n hx hb dX5_running_11 rfl (lv_at hl 0 rfl) ?_
    refine fgX5_49 hx hb hts hown hK hH 0 (by decide) (some q1_1) (hq_1_1) dX5_running_12 ?_
    refine W.eq (g2 := F0 m 15 ls [.ref (b + xo 5 q1_1)]) rfl ?_
    refine fgX5_87 hx hb hts hown hK hH q1_1 (show q1_1 < 8 by first | assumption | omega) dX5_running_15 ?_
    exact e_iret hx hb hr hlk hK hH hS dX5_running_18 (by simp only [f_X5_running, hq_1_1, oC_some]) rfl
def f_X5_state (σ : St) (x : Int32) : Int32 := (if f_X5_isProcess σ x = 0 then (-1) else gI σ 5 ((x.toNatClampNeg)) 2)
set_option maxRecDepth 100000 in
set_option maxHeartbeats 4000000 in
theorem k_X5_state (l : Launch) (D : va_G) (cs : Nat → ClassId) (b : Nat) (σ : St) (x : Int32)  : Met l yX5_state (Cond.code yX5_state cX5_state 2 (some FieldType.int) :: T0) { frames := 1, cells := 0, slots := 0, locals := 20 } (Pe D (tyx cs) b 43 (Ex cs b σ) [.ref (b + xo 0 0), .int (x)]) (Qi D (tyx cs) b 43 (Ex cs b σ) (f_X5_state σ x)) 0 0 (fun a => b ≤ a) := by
  refine e_met (by decide) rfl (Nat.le_of_ble_eq_true rfl) (fun pg e s m below meth c ls hx hb hr hml hts0 hown hlk hnm hH hK hl hS => ?_)
  have hts : ∀ w ∈ T0, w.before _ s = true := fun w h => hts0 w (List.mem_cons_of_mem _ h)
  have hl : lv_has ls 2 [(0, .ref (b + xo 0 0)), (1, .int (x))] := hl
  refine lv_iload_n hx hb dX5_state_0 rfl (lv_at hl 1 rfl) ?_
  refine e_ci (e_runS (As := [.int (x)]) (rest := []) ⟨hx, hb, hml, hown, hts⟩ (k_X5_isProcess l D cs b σ x ) ⟨callB_of 1 hts (gC wC_X5_isProcess) rfl rfl rfl (hts _ wi_X5) (hts _ wM_X5_90) (by decide +kernel) (by decide), hts _ wT_X5_isProcess⟩ hK hH rfl hl.1 rfl (Nat.le_of_ble_eq_true rfl) dX5_state_1 (by decide)) hS (fun H locs hH hS => ?_)
  refine lv_if_eq (tgt := 19) hx hb dX5_state_4 (by decide) (fun c_4_1 => ?_) (fun c_4_1 => ?_)
  ·
    refine lv_iconst (v := (-1)) hx hb dX5_state_19 (by decide) ?_
    exact e_iret hx hb hr hlk hK hH hS dX5_state_20 (by simp only [f_X5_state, if_pos c_4_1]) rfl
  ·
    refine lv_aload_n hx hb dX5_state_7 rfl (lv_at hl 0 rfl) ?_
    refine fgX5_18 hx hb hts hown hK hH 0 (by decide) dX5_state_8 ?_
    refine lv_iload_n hx hb dX5_state_11 rfl (lv_at hl 1 rfl) ?_
    have hx8 : (x.toNatClampNeg) < 8 := cl_lt (vin_isProc (σ := σ) (by assumption))
    refine x_procs hx hb hK hH x.toNatClampNeg (cl_of (vin_isProc (σ := σ) (by assumption))) (cl_lt (vin_isProc (σ := σ) (by assumption))) dX5_state_12 ?_
    refine fgX5_80 hx hb hts hown hK hH ((x.toNatClampNeg)) (show (x.toNatClampNeg) < 8 by first | assumption | omega) dX5_state_13 ?_
    refine lv_goto (tgt := 20) hx hb dX5_state_16 (by decide) ?_
    exact e_iret hx hb hr hlk hK hH hS dX5_state_20 (by simp only [f_X5_state, if_neg c_4_1]) rfl
def f_X5_look (σ : St) (x : Int32) (y : Int32) : Int64 := (if f_X5_isProcess σ x = 0 then 4294967296 else (if gI σ 5 ((x.toNatClampNeg)) 2 = 0 then 4294967296 else f_X2_part σ ((x.toNatClampNeg)) y))
set_option maxRecDepth 100000 in
set_option maxHeartbeats 4000000 in
theorem k_X5_look (l : Launch) (D : va_G) (cs : Nat → ClassId) (b : Nat) (σ : St) (x : Int32) (y : Int32)  : Met l yX5_look (Cond.code yX5_look cX5_look 3 (some FieldType.long) :: T0) { frames := 2, cells := 0, slots := 0, locals := 42 } (Pe D (tyx cs) b 43 (Ex cs b σ) [.ref (b + xo 0 0), .int (x), .int (y)]) (Ql D (tyx cs) b 43 (Ex cs b σ) (f_X5_look σ x y)) 0 0 (fun a => b ≤ a) := by
  refine e_met (by decide) rfl (Nat.le_of_ble_eq_true rfl) (fun pg e s m below meth c ls hx hb hr hml hts0 hown hlk hnm hH hK hl hS => ?_)
  have hts : ∀ w ∈ T0, w.before _ s = true := fun w h => hts0 w (List.mem_cons_of_mem _ h)
  have hl : lv_has ls 3 [(0, .ref (b + xo 0 0)), (1, .int (x)), (2, .int (y))] := hl
  refine lv_iload_n hx hb dX5_look_0 rfl (lv_at hl 1 rfl) ?_
  refine e_ci (e_runS (As := [.int (x)]) (rest := []) ⟨hx, hb, hml, hown, hts⟩ (k_X5_isProcess l D cs b σ x ) ⟨callB_of 1 hts (gC wC_X5_isProcess) rfl rfl rfl (hts _ wi_X5) (hts _ wM_X5_90) (by decide +kernel) (by decide), hts _ wT_X5_isProcess⟩ hK hH rfl hl.1 rfl (Nat.le_of_ble_eq_true rfl) dX5_look_1 (by decide)) hS (fun H locs hH hS => ?_)
  refine lv_if_eq (tgt := 19) hx hb dX5_look_4 (by decide) (fun c_4_1 => ?_) (fun c_4_1 => ?_)
  ·
    refine lv_ldc2 hx hb hown (hts _ wK_X5_93) dX5_look_19 ?_
    exact e_lret hx hb hr hlk hK hH hS dX5_look_22 (by simp only [f_X5_look, if_pos c_4_1]) rfl
  ·
    refine lv_aload_n hx hb dX5_look_7 rfl (lv_at hl 0 rfl) ?_
    refine fgX5_18 hx hb hts hown hK hH 0 (by decide) dX5_look_8 ?_
    refine lv_iload_n hx hb dX5_look_11 rfl (lv_at hl 1 rfl) ?_
    have hx8 : (x.toNatClampNeg) < 8 := cl_lt (vin_isProc (σ := σ) (by assumption))
    refine x_procs hx hb hK hH x.toNatClampNeg (cl_of (vin_isProc (σ := σ) (by assumption))) (cl_lt (vin_isProc (σ := σ) (by assumption))) dX5_look_12 ?_
    refine fgX5_80 hx hb hts hown hK hH ((x.toNatClampNeg)) (show (x.toNatClampNeg) < 8 by first | assumption | omega) dX5_look_13 ?_
    refine lv_if_ne (tgt := 23) hx hb dX5_look_16 (by decide) (fun c_16_2 => ?_) (fun c_16_2 => ?_)
    ·
      refine lv_aload_n hx hb dX5_look_23 rfl (lv_at hl 0 rfl) ?_
      refine fgX5_18 hx hb hts hown hK hH 0 (by decide) dX5_look_24 ?_
      refine lv_iload_n hx hb dX5_look_27 rfl (lv_at hl 1 rfl) ?_
      refine x_procs hx hb hK hH x.toNatClampNeg (cl_of (vin_isProc (σ := σ) (by assumption))) (cl_lt (vin_isProc (σ := σ) (by assumption))) dX5_look_28 ?_
      refine lv_iload_n hx hb dX5_look_29 rfl (lv_at hl 2 rfl) ?_
      refine e_cl (e_runV (C := RX2) (ci := 2) (As := [.int (y)]) (rest := []) ⟨hx, hb, hml, hown, hts⟩ (k_X2_part l D cs b σ ((x.toNatClampNeg)) y (by first | assumption | omega | decide)) ⟨callB_of 1 hts (gC wC_X2_part) rfl rfl rfl (hts _ wi_X2) (hts _ wM_X5_95) (by decide +kernel) (by decide), hts _ wN_X2_part, hts _ wS_X2_part⟩ hK hH (xo_ok (show (x.toNatClampNeg) < xn 5 by first | assumption | (show (x.toNatClampNeg) < 8; first | assumption | omega))).2.2 (Ex_at cs b σ (show (x.toNatClampNeg) < xn 5 by first | assumption | (show (x.toNatClampNeg) < 8; first | assumption | omega))) rfl rfl rfl hl.1 rfl (Nat.le_of_ble_eq_true rfl) dX5_look_30 (by decide)) hS (fun H locs hH hS => ?_)
      exact e_lret hx hb hr hlk hK hH hS dX5_look_33 (by simp only [f_X5_look, if_neg c_4_1, if_neg c_16_2]) rfl
    ·
      refine lv_ldc2 hx hb hown (hts _ wK_X5_93) dX5_look_19 ?_
      exact e_lret hx hb hr hlk hK hH hS dX5_look_22 (by simp only [f_X5_look, if_neg c_4_1, if_pos c_16_2]) rfl
def f_X5_waiting (σ : St) (x : Int32) (y : Int32) : Int32 := (if f_X5_isPriority σ x = 0 then (-1) else f_X4_numberAt σ ((f_X5_rowOf σ x)) y)
set_option maxRecDepth 100000 in
set_option maxHeartbeats 4000000 in
theorem k_X5_waiting (l : Launch) (D : va_G) (cs : Nat → ClassId) (b : Nat) (σ : St) (x : Int32) (y : Int32) (ho : ok σ) : Met l yX5_waiting (Cond.code yX5_waiting cX5_waiting 3 (some FieldType.int) :: T0) { frames := 1, cells := 0, slots := 0, locals := 21 } (Pe D (tyx cs) b 43 (Ex cs b σ) [.ref (b + xo 0 0), .int (x), .int (y)]) (Qi D (tyx cs) b 43 (Ex cs b σ) (f_X5_waiting σ x y)) 0 0 (fun a => b ≤ a) := by
  refine e_met (by decide) rfl (Nat.le_of_ble_eq_true rfl) (fun pg e s m below meth c ls hx hb hr hml hts0 hown hlk hnm hH hK hl hS => ?_)
  have hts : ∀ w ∈ T0, w.before _ s = true := fun w h => hts0 w (List.mem_cons_of_mem _ h)
  have hl : lv_has ls 3 [(0, .ref (b + xo 0 0)), (1, .int (x)), (2, .int (y))] := hl
  refine lv_iload_n hx hb dX5_waiting_0 rfl (lv_at hl 1 rfl) ?_
  refine e_ci (e_runS (As := [.int (x)]) (rest := []) ⟨hx, hb, hml, hown, hts⟩ (k_X5_isPriority l D cs b σ x ) ⟨callB_of 1 hts (gC wC_X5_isPriority) rfl rfl rfl (hts _ wi_X5) (hts _ wM_X5_68) (by decide +kernel) (by decide), hts _ wT_X5_isPriority⟩ hK hH rfl hl.1 rfl (Nat.le_of_ble_eq_true rfl) dX5_waiting_1 (by decide)) hS (fun H locs hH hS => ?_)
  refine lv_if_eq (tgt := 19) hx hb dX5_waiting_4 (by decide) (fun c_4_1 => ?_) (fun c_4_1 => ?_)
  ·
    refine lv_iconst (v := (-1)) hx hb dX5_waiting_19 (by decide) ?_
    exact e_iret hx hb hr hlk hK hH hS dX5_waiting_20 (by simp only [f_X5_waiting, if_pos c_4_1]) rfl
  ·
    refine lv_aload_n hx hb dX5_waiting_7 rfl (lv_at hl 0 rfl) ?_
    refine lv_iload_n hx hb dX5_waiting_8 rfl (lv_at hl 1 rfl) ?_
    refine e_cq (e_runV (C := RX5) (ci := 5) (As := [.int (x)]) (rest := []) ⟨hx, hb, hml, hown, hts⟩ (k_X5_rowOf l D cs b σ x ) ⟨callB_of 1 hts (gC wC_X5_rowOf) rfl rfl rfl (hts _ wi_X5) (hts _ wM_X5_99) (by decide +kernel) (by decide), hts _ wN_X5_rowOf, hts _ wS_X5_rowOf⟩ hK hH (xo_ok (by decide)).2.2 (Ex_at cs b σ (by decide)) rfl rfl rfl hl.1 rfl (Nat.le_of_ble_eq_true rfl) dX5_waiting_9 (by decide)) hS (fun H locs hH hS => ?_)
    refine W.eq (g2 := F0 m 12 ls [.ref (b + xo 9 (f_X5_rowOf σ x))]) rfl ?_
    have hrw : f_X5_rowOf σ x < 2 := rowOf_lt _ _
    refine lv_iload_n hx hb dX5_waiting_12 rfl (lv_at hl 2 rfl) ?_
    refine e_ci (e_runV (C := RX4) (ci := 4) (As := [.int (y)]) (rest := []) ⟨hx, hb, hml, hown, hts⟩ (k_X4_numberAt l D cs b σ ((f_X5_rowOf σ x)) y (by assumption) (ok_R (by assumption) ho)) ⟨callB_of 1 hts (gC wC_X4_numberAt) rfl rfl rfl (hts _ wi_X4) (hts _ wM_X5_103) (by decide +kernel) (by decide), hts _ wN_X4_numberAt, hts _ wS_X4_numberAt⟩ hK hH (xo_ok (show (f_X5_rowOf σ x) < xn 9 by first | assumption | (show (f_X5_rowOf σ x) < 2; first | assumption | omega))).2.2 (Ex_at cs b σ (show (f_X5_rowOf σ x) < xn 9 by first | assumption | (show (f_X5_rowOf σ x) < 2; first | assumption | omega))) rfl rfl rfl hl.1 rfl (Nat.le_of_ble_eq_true rfl) dX5_waiting_13 (by decide)) hS (fun H locs hH hS => ?_)
    refine lv_goto (tgt := 20) hx hb dX5_waiting_16 (by decide) ?_
    exact e_iret hx hb hr hlk hK hH hS dX5_waiting_20 (by simp only [f_X5_waiting, if_neg c_4_1]) rfl
def f_X5_channel (σ : St) (x : Int32) : Int32 := (oC (f_X5_channelAt σ x) ((-1)) (fun q2_1 => f_X0_code σ q2_1))
set_option maxRecDepth 100000 in
set_option maxHeartbeats 4000000 in
theorem k_X5_channel (l : Launch) (D : va_G) (cs : Nat → ClassId) (b : Nat) (σ : St) (x : Int32) (ho : ok σ) : Met l yX5_channel (Cond.code yX5_channel cX5_channel 3 (some FieldType.int) :: T0) { frames := 1, cells := 0, slots := 0, locals := 21 } (Pe D (tyx cs) b 43 (Ex cs b σ) [.ref (b + xo 0 0), .int (x)]) (Qi D (tyx cs) b 43 (Ex cs b σ) (f_X5_channel σ x)) 0 0 (fun a => b ≤ a) := by
  refine e_met (by decide) rfl (Nat.le_of_ble_eq_true rfl) (fun pg e s m below meth c ls hx hb hr hml hts0 hown hlk hnm hH hK hl hS => ?_)
  have hts : ∀ w ∈ T0, w.before _ s = true := fun w h => hts0 w (List.mem_cons_of_mem _ h)
  have hl : lv_has ls 3 [(0, .ref (b + xo 0 0)), (1, .int (x))] := hl
  refine lv_aload_n hx hb dX5_channel_0 rfl (lv_at hl 0 rfl) ?_
  refine lv_iload_n hx hb dX5_channel_1 rfl (lv_at hl 1 rfl) ?_
  refine e_cq (e_runV (C := RX5) (ci := 5) (As := [.int (x)]) (rest := []) ⟨hx, hb, hml, hown, hts⟩ (k_X5_channelAt l D cs b σ x ) ⟨callB_of 1 hts (gC wC_X5_channelAt) rfl rfl rfl (hts _ wi_X5) (hts _ wM_X5_107) (by decide +kernel) (by decide), hts _ wN_X5_channelAt, hts _ wS_X5_channelAt⟩ hK hH (xo_ok (by decide)).2.2 (Ex_at cs b σ (by decide)) rfl rfl rfl hl.1 rfl (Nat.le_of_ble_eq_true rfl) dX5_channel_2 (by decide)) hS (fun H locs hH hS => ?_)
  rcases hq_2_1 : f_X5_channelAt σ x with _ | q2_1
  ·
    refine W.eq (g2 := F0 m 5 ls [.null]) rfl ?_
    refine lv_astore_nN (lv' := [(2, .null), (0, .ref (b + xo 0 0)), (1, .int (x))]) hx hb dX5_channel_5 rfl hl (by decide) rfl (fun ls hl => ?_)
    refine lv_aload_nN hx hb dX5_channel_6 rfl (lv_at hl 0 rfl) ?_
    refine lv_ifnonnullN hx hb dX5_channel_7 ?_
    refine lv_iconst (v := (-1)) hx hb dX5_channel_10 (by decide) ?_
    refine lv_goto (tgt := 18) hx hb dX5_channel_11 (by decide) ?_
    exact e_iret hx hb hr hlk hK hH hS dX5_channel_18 (by simp only [f_X5_channel, hq_2_1, oC_none]) rfl
  ·
    have q2_1b := channelAt_lt hq_2_1
    refine W.eq (g2 := F0 m 5 ls [.ref (b + xo 8 q2_1)]) rfl ?_
    refine lv_astore_n (lv' := [(2, .ref (b + xo 8 q2_1)), (0, .ref (b + xo 0 0)), (1, .int (x))]) hx hb dX5_channel_5 rfl hl (by decide) rfl (fun ls hl => ?_)
    refine lv_aload_n hx hb dX5_channel_6 rfl (lv_at hl 0 rfl) ?_
    refine lv_ifnonnull (tgt := 14) hx hb dX5_channel_7 (by decide) ?_
    refine lv_aload_n hx hb dX5_channel_14 rfl (lv_at hl 0 rfl) ?_
    refine e_ci (e_runV (C := RX0) (ci := 0) (As := []) (rest := []) ⟨hx, hb, hml, hown, hts⟩ (k_X0_code l D cs b σ q2_1 (by assumption) (ho.2.2.2 _)) ⟨callB_of 0 hts (gC wC_X0_code) rfl rfl rfl (hts _ wi_X0) (hts _ wM_X5_111) (by decide +kernel) (by decide), hts _ wN_X0_code, hts _ wS_X0_code⟩ hK hH (xo_ok (show q2_1 < xn 8 by first | assumption | (show q2_1 < 4; first | assumption | omega))).2.2 (Ex_at cs b σ (show q2_1 < xn 8 by first | assumption | (show q2_1 < 4; first | assumption | omega))) rfl rfl rfl hl.1 rfl (Nat.le_of_ble_eq_true rfl) dX5_channel_15 (by decide)) hS (fun H locs hH hS => ?_)
    exact e_iret hx hb hr hlk hK hH hS dX5_channel_18 (by simp only [f_X5_channel, hq_2_1, oC_some]) rfl
end
