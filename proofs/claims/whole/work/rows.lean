section
-- ===== PART A: goes FIRST, ahead of the names: the tables' words, and 'selects' of the private methods out of them =====
/-- a private method of a class that the tables say can be made, by its rows of tables_1 -/
def lw_okq (q : MethodName × Nat) : Prop := (q.1.cls ≠ "java/lang/invoke/MethodHandle" ∧ q.1.cls ≠ "java/lang/invoke/VarHandle") ∧ Cond.instantiable q.1.cls q.2 ∈ tables_1 ∧ Cond.privateMethod q.1 ∈ tables_1 ∧ Cond.instanceMethod q.1 ∈ tables_1
theorem lw_p0 : lw_okq (⟨"RingDriver", "fault", "()I"⟩, 6) := ⟨⟨by decide +kernel, by decide +kernel⟩, List.mem_of_getElem? (i := 5) (by decide +kernel), List.mem_of_getElem? (i := 63) (by decide +kernel), List.mem_of_getElem? (i := 64) (by decide +kernel)⟩
theorem lw_p1 : lw_okq (⟨"RingDriver", "postNext", "(LRingDriver$SlotQueue;I)I"⟩, 6) := ⟨⟨by decide +kernel, by decide +kernel⟩, List.mem_of_getElem? (i := 5) (by decide +kernel), List.mem_of_getElem? (i := 86) (by decide +kernel), List.mem_of_getElem? (i := 87) (by decide +kernel)⟩
theorem lw_p2 : lw_okq (⟨"RingDriver", "fillBuffer", "(II)V"⟩, 6) := ⟨⟨by decide +kernel, by decide +kernel⟩, List.mem_of_getElem? (i := 5) (by decide +kernel), List.mem_of_getElem? (i := 106) (by decide +kernel), List.mem_of_getElem? (i := 107) (by decide +kernel)⟩
theorem lw_p3 : lw_okq (⟨"RingDriver", "fillDescriptor", "(III)V"⟩, 6) := ⟨⟨by decide +kernel, by decide +kernel⟩, List.mem_of_getElem? (i := 5) (by decide +kernel), List.mem_of_getElem? (i := 115) (by decide +kernel), List.mem_of_getElem? (i := 116) (by decide +kernel)⟩
theorem lw_p4 : lw_okq (⟨"RingDriver", "isGivenBack", "(LRingDriver$SlotQueue;I)Z"⟩, 6) := ⟨⟨by decide +kernel, by decide +kernel⟩, List.mem_of_getElem? (i := 5) (by decide +kernel), List.mem_of_getElem? (i := 128) (by decide +kernel), List.mem_of_getElem? (i := 129) (by decide +kernel)⟩
theorem lw_p5 : lw_okq (⟨"RingDriver", "closeAllBehind", "(LRingDriver$SlotQueue;I)I"⟩, 6) := ⟨⟨by decide +kernel, by decide +kernel⟩, List.mem_of_getElem? (i := 5) (by decide +kernel), List.mem_of_getElem? (i := 141) (by decide +kernel), List.mem_of_getElem? (i := 142) (by decide +kernel)⟩
theorem lw_p6 : lw_okq (⟨"RingDriverModel", "describe", "(III)V"⟩, 10) := ⟨⟨by decide +kernel, by decide +kernel⟩, List.mem_of_getElem? (i := 173) (by decide +kernel), List.mem_of_getElem? (i := 232) (by decide +kernel), List.mem_of_getElem? (i := 233) (by decide +kernel)⟩
def lw_privs_1 : List (MethodName × Nat) := [(⟨"RingDriver", "fault", "()I"⟩, 6), (⟨"RingDriver", "postNext", "(LRingDriver$SlotQueue;I)I"⟩, 6), (⟨"RingDriver", "fillBuffer", "(II)V"⟩, 6), (⟨"RingDriver", "fillDescriptor", "(III)V"⟩, 6), (⟨"RingDriver", "isGivenBack", "(LRingDriver$SlotQueue;I)Z"⟩, 6), (⟨"RingDriver", "closeAllBehind", "(LRingDriver$SlotQueue;I)I"⟩, 6), (⟨"RingDriverModel", "describe", "(III)V"⟩, 10)]
theorem lw_r1 : ∀ q ∈ lw_privs_1, lw_okq q := List.forall_mem_cons.mpr ⟨lw_p0, List.forall_mem_cons.mpr ⟨lw_p1, List.forall_mem_cons.mpr ⟨lw_p2, List.forall_mem_cons.mpr ⟨lw_p3, List.forall_mem_cons.mpr ⟨lw_p4, List.forall_mem_cons.mpr ⟨lw_p5, List.forall_mem_cons.mpr ⟨lw_p6, fun _ h => absurd h List.not_mem_nil⟩⟩⟩⟩⟩⟩⟩
def lw_privs : List (MethodName × Nat) := lw_privs_1
def lw_tbl : List Cond := k2_sels lw_privs ++ tables_1
theorem lw_privs_ok : ∀ q ∈ lw_privs, lw_okq q := lw_r1
-- ===== end of PART A; then your names; then what follows =====
/-! ===== BEGIN words of one list among another's, by their places ===== -/
theorem goodIn_r {big : List Cond} (ws : List Cond) (ps : List Nat) (hp : ws = ps.filterMap (fun i => big[i]?)) (h : ws.all goodWord = true) : GoodIn big ws := by
  intro w hw
  have h1 := List.all_eq_true.mp h w hw
  rw [hp] at hw
  obtain ⟨i, -, hi⟩ := List.mem_filterMap.mp hw
  have hm : w ∈ big := by first | exact List.mem_of_getElem? hi | exact List.getElem?_mem hi
  exact ⟨hm, good_of_word h1⟩
theorem goodIn_app {big a b : List Cond} (ha : GoodIn big a) (hb : GoodIn big b) : GoodIn big (a ++ b) := fun w h => (List.mem_append.mp h).elim (ha w) (hb w)
theorem goodIn_ca {big a b : List Cond} {c : Cond} (ha : GoodIn big (c :: a)) (hb : GoodIn big b) : GoodIn big (c :: (a ++ b)) := fun w h => (List.mem_cons.mp h).elim (fun e => ha w (List.mem_cons.mpr (Or.inl e))) (fun h => (List.mem_append.mp h).elim (fun h => ha w (List.mem_cons.mpr (Or.inr h))) (hb w))
theorem goodIn_sub {big ws : List Cond} (hm : ∀ w ∈ ws, w ∈ big) (h : ws.all goodWord = true) : GoodIn big ws := fun w hw => ⟨hm w hw, good_of_word (List.all_eq_true.mp h w hw)⟩
/-! ===== END ===== -/

/-! ===== BEGIN printed: names, fields, word lists, decode rows ===== -/
def RX0 : String := "RingDriver$SlotQueue"
def TX0 : u_T := fun k => match k with
  | 0 => ("RingDriver$SlotQueue", "ringStart", "I", true)
  | 1 => ("RingDriver$SlotQueue", "firstPage", "I", true)
  | 2 => ("RingDriver$SlotQueue", "oldest", "I", false)
  | _ => ("RingDriver$SlotQueue", "posted", "I", false)
def tyX0 : Nat → FieldType := fun k => match k with
  | 0 => .int
  | 1 => .int
  | 2 => .int
  | _ => .int
abbrev wsX00 : List Cond := u_ws RX0 TX0 4
theorem nmX0 : ∀ a, a < 4 → ∀ b, b < 4 → a ≠ b → (TX0 a).2.1 ≠ (TX0 b).2.1 := by decide +kernel
theorem tyX0_ok : ∀ k, k < 4 → parseFieldDescriptor (TX0 k).2.2.1 = some (tyX0 k) := by decide +kernel
abbrev cX0_init : ByteArray := prog_2_method_1_code
def yX0_init : MethodName := ⟨RX0, "<init>", "(II)V"⟩
abbrev cX0_size : ByteArray := prog_2_method_2_code
def yX0_size : MethodName := ⟨RX0, "size", "()I"⟩
abbrev cX0_slotAt : ByteArray := prog_2_method_3_code
def yX0_slotAt : MethodName := ⟨RX0, "slotAt", "(I)I"⟩
abbrev cX0_pageAt : ByteArray := prog_2_method_4_code
def yX0_pageAt : MethodName := ⟨RX0, "pageAt", "(I)I"⟩
abbrev cX0_bufferAt : ByteArray := prog_2_method_5_code
def yX0_bufferAt : MethodName := ⟨RX0, "bufferAt", "(I)I"⟩
abbrev cX0_descriptorAt : ByteArray := prog_2_method_6_code
def yX0_descriptorAt : MethodName := ⟨RX0, "descriptorAt", "(I)I"⟩
abbrev cX0_hasPostedPage : ByteArray := prog_2_method_7_code
def yX0_hasPostedPage : MethodName := ⟨RX0, "hasPostedPage", "(I)Z"⟩
abbrev cX0_addNext : ByteArray := prog_2_method_8_code
def yX0_addNext : MethodName := ⟨RX0, "addNext", "()V"⟩
abbrev cX0_removeOldest : ByteArray := prog_2_method_9_code
def yX0_removeOldest : MethodName := ⟨RX0, "removeOldest", "()V"⟩
abbrev cX0_keepOldest : ByteArray := prog_2_method_10_code
def yX0_keepOldest : MethodName := ⟨RX0, "keepOldest", "(I)V"⟩
def RX1 : String := "RingDriver"
def TX1 : u_T := fun k => match k with
  | 0 => ("RingDriver", "memory", "[I", true)
  | 1 => ("RingDriver", "outBox", "[I", true)
  | 2 => ("RingDriver", "inBox", "[I", true)
  | 3 => ("RingDriver", "transmitQueue", "LRingDriver$SlotQueue;", true)
  | 4 => ("RingDriver", "receiveQueue", "LRingDriver$SlotQueue;", true)
  | _ => ("RingDriver", "faultCount", "I", false)
def tyX1 : Nat → FieldType := fun k => match k with
  | 0 => .array .int
  | 1 => .array .int
  | 2 => .array .int
  | 3 => .object "RingDriver$SlotQueue"
  | 4 => .object "RingDriver$SlotQueue"
  | _ => .int
abbrev wsX10 : List Cond := u_ws RX1 TX1 6
theorem nmX1 : ∀ a, a < 6 → ∀ b, b < 6 → a ≠ b → (TX1 a).2.1 ≠ (TX1 b).2.1 := by decide +kernel
theorem tyX1_ok : ∀ k, k < 6 → parseFieldDescriptor (TX1 k).2.2.1 = some (tyX1 k) := by decide +kernel
abbrev cX1_init : ByteArray := prog_1_method_1_code
def yX1_init : MethodName := ⟨RX1, "<init>", "()V"⟩
abbrev cX1_deviceRead : ByteArray := prog_1_method_2_code
def yX1_deviceRead : MethodName := ⟨RX1, "deviceRead", "(I)I"⟩
abbrev cX1_deviceWrite : ByteArray := prog_1_method_3_code
def yX1_deviceWrite : MethodName := ⟨RX1, "deviceWrite", "(II)I"⟩
abbrev cX1_faults : ByteArray := prog_1_method_4_code
def yX1_faults : MethodName := ⟨RX1, "faults", "()I"⟩
abbrev cX1_load : ByteArray := prog_1_method_5_code
def yX1_load : MethodName := ⟨RX1, "load", "(II)Z"⟩
abbrev cX1_send : ByteArray := prog_1_method_6_code
def yX1_send : MethodName := ⟨RX1, "send", "(I)I"⟩
abbrev cX1_reclaim : ByteArray := prog_1_method_7_code
def yX1_reclaim : MethodName := ⟨RX1, "reclaim", "()I"⟩
abbrev cX1_revoke : ByteArray := prog_1_method_8_code
def yX1_revoke : MethodName := ⟨RX1, "revoke", "()I"⟩
abbrev cX1_post : ByteArray := prog_1_method_9_code
def yX1_post : MethodName := ⟨RX1, "post", "()I"⟩
abbrev cX1_receive : ByteArray := prog_1_method_10_code
def yX1_receive : MethodName := ⟨RX1, "receive", "()I"⟩
abbrev cX1_taken : ByteArray := prog_1_method_11_code
def yX1_taken : MethodName := ⟨RX1, "taken", "(I)I"⟩
abbrev cX1_withdraw : ByteArray := prog_1_method_12_code
def yX1_withdraw : MethodName := ⟨RX1, "withdraw", "()I"⟩
abbrev cX1_sending : ByteArray := prog_1_method_13_code
def yX1_sending : MethodName := ⟨RX1, "sending", "()I"⟩
abbrev cX1_receiving : ByteArray := prog_1_method_14_code
def yX1_receiving : MethodName := ⟨RX1, "receiving", "()I"⟩
abbrev cX1_fault : ByteArray := prog_1_method_15_code
def yX1_fault : MethodName := ⟨RX1, "fault", "()I"⟩
abbrev cX1_isOpen : ByteArray := prog_1_method_16_code
def yX1_isOpen : MethodName := ⟨RX1, "isOpen", "(ILRingDriver$SlotQueue;)Z"⟩
abbrev cX1_isFrameLength : ByteArray := prog_1_method_17_code
def yX1_isFrameLength : MethodName := ⟨RX1, "isFrameLength", "(I)Z"⟩
abbrev cX1_isGivenBack : ByteArray := prog_1_method_18_code
def yX1_isGivenBack : MethodName := ⟨RX1, "isGivenBack", "(LRingDriver$SlotQueue;I)Z"⟩
abbrev cX1_postNext : ByteArray := prog_1_method_19_code
def yX1_postNext : MethodName := ⟨RX1, "postNext", "(LRingDriver$SlotQueue;I)I"⟩
abbrev cX1_fillBuffer : ByteArray := prog_1_method_20_code
def yX1_fillBuffer : MethodName := ⟨RX1, "fillBuffer", "(II)V"⟩
abbrev cX1_fillDescriptor : ByteArray := prog_1_method_21_code
def yX1_fillDescriptor : MethodName := ⟨RX1, "fillDescriptor", "(III)V"⟩
abbrev cX1_closeAllBehind : ByteArray := prog_1_method_22_code
def yX1_closeAllBehind : MethodName := ⟨RX1, "closeAllBehind", "(LRingDriver$SlotQueue;I)I"⟩
def RX2 : String := "RingDriverModel"
def TX2 : u_T := fun k => match k with
  | 0 => ("RingDriverModel", "memory", "[B", true)
  | 1 => ("RingDriverModel", "readable", "[Z", true)
  | 2 => ("RingDriverModel", "writable", "[Z", true)
  | 3 => ("RingDriverModel", "outBox", "[B", true)
  | 4 => ("RingDriverModel", "inBox", "[B", true)
  | 5 => ("RingDriverModel", "faults", "I", false)
  | 6 => ("RingDriverModel", "t", "I", false)
  | 7 => ("RingDriverModel", "n", "I", false)
  | 8 => ("RingDriverModel", "\x72", "I", false)
  | _ => ("RingDriverModel", "m", "I", false)
def tyX2 : Nat → FieldType := fun k => match k with
  | 0 => .array .byte
  | 1 => .array .boolean
  | 2 => .array .boolean
  | 3 => .array .byte
  | 4 => .array .byte
  | 5 => .int
  | 6 => .int
  | 7 => .int
  | 8 => .int
  | _ => .int
abbrev wsX20 : List Cond := u_ws RX2 TX2 10
theorem nmX2 : ∀ a, a < 10 → ∀ b, b < 10 → a ≠ b → (TX2 a).2.1 ≠ (TX2 b).2.1 := by decide +kernel
theorem tyX2_ok : ∀ k, k < 10 → parseFieldDescriptor (TX2 k).2.2.1 = some (tyX2 k) := by decide +kernel
abbrev cX2_init : ByteArray := prog_4_method_1_code
def yX2_init : MethodName := ⟨RX2, "<init>", "()V"⟩
abbrev cX2_deviceRead : ByteArray := prog_4_method_2_code
def yX2_deviceRead : MethodName := ⟨RX2, "deviceRead", "(I)I"⟩
abbrev cX2_deviceWrite : ByteArray := prog_4_method_3_code
def yX2_deviceWrite : MethodName := ⟨RX2, "deviceWrite", "(II)I"⟩
abbrev cX2_faults : ByteArray := prog_4_method_4_code
def yX2_faults : MethodName := ⟨RX2, "faults", "()I"⟩
abbrev cX2_load : ByteArray := prog_4_method_5_code
def yX2_load : MethodName := ⟨RX2, "load", "(II)Z"⟩
abbrev cX2_describe : ByteArray := prog_4_method_6_code
def yX2_describe : MethodName := ⟨RX2, "describe", "(III)V"⟩
abbrev cX2_send : ByteArray := prog_4_method_7_code
def yX2_send : MethodName := ⟨RX2, "send", "(I)I"⟩
abbrev cX2_reclaim : ByteArray := prog_4_method_8_code
def yX2_reclaim : MethodName := ⟨RX2, "reclaim", "()I"⟩
abbrev cX2_revoke : ByteArray := prog_4_method_9_code
def yX2_revoke : MethodName := ⟨RX2, "revoke", "()I"⟩
abbrev cX2_post : ByteArray := prog_4_method_10_code
def yX2_post : MethodName := ⟨RX2, "post", "()I"⟩
abbrev cX2_receive : ByteArray := prog_4_method_11_code
def yX2_receive : MethodName := ⟨RX2, "receive", "()I"⟩
abbrev cX2_taken : ByteArray := prog_4_method_12_code
def yX2_taken : MethodName := ⟨RX2, "taken", "(I)I"⟩
abbrev cX2_withdraw : ByteArray := prog_4_method_13_code
def yX2_withdraw : MethodName := ⟨RX2, "withdraw", "()I"⟩
abbrev cX2_sending : ByteArray := prog_4_method_14_code
def yX2_sending : MethodName := ⟨RX2, "sending", "()I"⟩
abbrev cX2_receiving : ByteArray := prog_4_method_15_code
def yX2_receiving : MethodName := ⟨RX2, "receiving", "()I"⟩
def RL : String := "RingDriverLaw"
abbrev cL_law : ByteArray := code
def yL_law : MethodName := ⟨RL, "law", "([I)Z"⟩
def wsX0_init : List Cond := .code yX0_init cX0_init 3 none :: ([.methodLink RX0 3 objectInit, .instanceMethod objectInit, .code objectInit ⟨#[0xb1]⟩ 1 none, .fieldLink RX0 9 "RingDriver$SlotQueue" "ringStart" "I", .fieldLink RX0 15 "RingDriver$SlotQueue" "firstPage" "I", .fieldLink RX0 18 "RingDriver$SlotQueue" "oldest" "I", .fieldLink RX0 21 "RingDriver$SlotQueue" "posted" "I"] ++ wsX00)
def wsX0_size : List Cond := .code yX0_size cX0_size 1 (some .int) :: ([.fieldLink RX0 21 "RingDriver$SlotQueue" "posted" "I"] ++ wsX00)
def wsX0_slotAt : List Cond := .code yX0_slotAt cX0_slotAt 2 (some .int) :: ([.fieldLink RX0 18 "RingDriver$SlotQueue" "oldest" "I"] ++ wsX00)
def wsX0_pageAt : List Cond := .code yX0_pageAt cX0_pageAt 2 (some .int) :: ([.fieldLink RX0 15 "RingDriver$SlotQueue" "firstPage" "I", .methodLink RX0 24 yX0_slotAt, .instanceMethod yX0_slotAt, .selects RX0 yX0_slotAt yX0_slotAt, .initialized RX0, .code yX0_slotAt cX0_slotAt 2 (some .int), .fieldLink RX0 18 "RingDriver$SlotQueue" "oldest" "I"] ++ wsX00)
def wsX0_bufferAt : List Cond := .code yX0_bufferAt cX0_bufferAt 2 (some .int) :: ([.methodLink RX0 28 yX0_pageAt, .instanceMethod yX0_pageAt, .selects RX0 yX0_pageAt yX0_pageAt, .initialized RX0, .code yX0_pageAt cX0_pageAt 2 (some .int), .fieldLink RX0 15 "RingDriver$SlotQueue" "firstPage" "I", .methodLink RX0 24 yX0_slotAt, .instanceMethod yX0_slotAt, .selects RX0 yX0_slotAt yX0_slotAt, .code yX0_slotAt cX0_slotAt 2 (some .int), .fieldLink RX0 18 "RingDriver$SlotQueue" "oldest" "I"] ++ wsX00)
def wsX0_descriptorAt : List Cond := .code yX0_descriptorAt cX0_descriptorAt 2 (some .int) :: ([.fieldLink RX0 9 "RingDriver$SlotQueue" "ringStart" "I", .methodLink RX0 24 yX0_slotAt, .instanceMethod yX0_slotAt, .selects RX0 yX0_slotAt yX0_slotAt, .initialized RX0, .code yX0_slotAt cX0_slotAt 2 (some .int), .fieldLink RX0 18 "RingDriver$SlotQueue" "oldest" "I"] ++ wsX00)
def wsX0_hasPostedPage : List Cond := .code yX0_hasPostedPage cX0_hasPostedPage 3 (some .boolean) :: ([.fieldLink RX0 15 "RingDriver$SlotQueue" "firstPage" "I", .fieldLink RX0 18 "RingDriver$SlotQueue" "oldest" "I", .fieldLink RX0 21 "RingDriver$SlotQueue" "posted" "I"] ++ wsX00)
def wsX0_addNext : List Cond := .code yX0_addNext cX0_addNext 1 none :: ([.fieldLink RX0 21 "RingDriver$SlotQueue" "posted" "I"] ++ wsX00)
def wsX0_removeOldest : List Cond := .code yX0_removeOldest cX0_removeOldest 1 none :: ([.fieldLink RX0 18 "RingDriver$SlotQueue" "oldest" "I", .fieldLink RX0 21 "RingDriver$SlotQueue" "posted" "I", .methodLink RX0 24 yX0_slotAt, .instanceMethod yX0_slotAt, .selects RX0 yX0_slotAt yX0_slotAt, .initialized RX0, .code yX0_slotAt cX0_slotAt 2 (some .int)] ++ wsX00)
def wsX0_keepOldest : List Cond := .code yX0_keepOldest cX0_keepOldest 2 none :: ([.fieldLink RX0 21 "RingDriver$SlotQueue" "posted" "I"] ++ wsX00)
def wsX1_init : List Cond := .code yX1_init cX1_init 1 none :: ([.methodLink RX1 1 objectInit, .instanceMethod objectInit, .code objectInit ⟨#[0xb1]⟩ 1 none, .arrayClass .int, .fieldLink RX1 9 "RingDriver" "memory" "[I", .fieldLink RX1 13 "RingDriver" "outBox" "[I", .fieldLink RX1 16 "RingDriver" "inBox" "[I", .classLink RX1 19 RX0, .instantiable RX0 4, .initialized RX0, .fieldLink RX1 24 "RingDriver" "transmitQueue" "LRingDriver$SlotQueue;", .fieldLink RX1 28 "RingDriver" "receiveQueue" "LRingDriver$SlotQueue;", .fieldLink RX1 31 "RingDriver" "faultCount" "I", .methodLink RX1 21 yX0_init, .instanceMethod yX0_init, .code yX0_init cX0_init 3 none, .methodLink RX0 3 objectInit, .fieldLink RX0 9 "RingDriver$SlotQueue" "ringStart" "I", .fieldLink RX0 15 "RingDriver$SlotQueue" "firstPage" "I", .fieldLink RX0 18 "RingDriver$SlotQueue" "oldest" "I", .fieldLink RX0 21 "RingDriver$SlotQueue" "posted" "I"] ++ wsX10 ++ wsX00)
def wsX1_isOpen : List Cond := .code yX1_isOpen cX1_isOpen 2 (some .boolean) :: ([.methodLink RX1 74 yX0_hasPostedPage, .instanceMethod yX0_hasPostedPage, .selects RX0 yX0_hasPostedPage yX0_hasPostedPage, .initialized RX0, .code yX0_hasPostedPage cX0_hasPostedPage 3 (some .boolean), .fieldLink RX0 15 "RingDriver$SlotQueue" "firstPage" "I", .fieldLink RX0 18 "RingDriver$SlotQueue" "oldest" "I", .fieldLink RX0 21 "RingDriver$SlotQueue" "posted" "I"] ++ wsX00)
def wsX1_fault : List Cond := .code yX1_fault cX1_fault 1 (some .int) :: ([.fieldLink RX1 31 "RingDriver" "faultCount" "I"] ++ wsX10)
def wsX1_deviceRead : List Cond := .code yX1_deviceRead cX1_deviceRead 2 (some .int) :: ([.fieldLink RX1 24 "RingDriver" "transmitQueue" "LRingDriver$SlotQueue;", .fieldLink RX1 9 "RingDriver" "memory" "[I", .methodLink RX1 35 yX1_isOpen, .static yX1_isOpen, .initialized RX1, .code yX1_isOpen cX1_isOpen 2 (some .boolean), .methodLink RX1 74 yX0_hasPostedPage, .instanceMethod yX0_hasPostedPage, .selects RX0 yX0_hasPostedPage yX0_hasPostedPage, .initialized RX0, .code yX0_hasPostedPage cX0_hasPostedPage 3 (some .boolean), .fieldLink RX0 15 "RingDriver$SlotQueue" "firstPage" "I", .fieldLink RX0 18 "RingDriver$SlotQueue" "oldest" "I", .fieldLink RX0 21 "RingDriver$SlotQueue" "posted" "I", .methodLink RX1 39 yX1_fault, .instanceMethod yX1_fault, .selects RX1 yX1_fault yX1_fault, .code yX1_fault cX1_fault 1 (some .int), .fieldLink RX1 31 "RingDriver" "faultCount" "I"] ++ wsX10 ++ wsX00)
def wsX1_deviceWrite : List Cond := .code yX1_deviceWrite cX1_deviceWrite 3 (some .int) :: ([.fieldLink RX1 28 "RingDriver" "receiveQueue" "LRingDriver$SlotQueue;", .fieldLink RX1 9 "RingDriver" "memory" "[I", .methodLink RX1 35 yX1_isOpen, .static yX1_isOpen, .initialized RX1, .code yX1_isOpen cX1_isOpen 2 (some .boolean), .methodLink RX1 74 yX0_hasPostedPage, .instanceMethod yX0_hasPostedPage, .selects RX0 yX0_hasPostedPage yX0_hasPostedPage, .initialized RX0, .code yX0_hasPostedPage cX0_hasPostedPage 3 (some .boolean), .fieldLink RX0 15 "RingDriver$SlotQueue" "firstPage" "I", .fieldLink RX0 18 "RingDriver$SlotQueue" "oldest" "I", .fieldLink RX0 21 "RingDriver$SlotQueue" "posted" "I", .methodLink RX1 39 yX1_fault, .instanceMethod yX1_fault, .selects RX1 yX1_fault yX1_fault, .code yX1_fault cX1_fault 1 (some .int), .fieldLink RX1 31 "RingDriver" "faultCount" "I"] ++ wsX10 ++ wsX00)
def wsX1_faults : List Cond := .code yX1_faults cX1_faults 1 (some .int) :: ([.fieldLink RX1 31 "RingDriver" "faultCount" "I"] ++ wsX10)
def wsX1_load : List Cond := .code yX1_load cX1_load 3 (some .boolean) :: ([.fieldLink RX1 13 "RingDriver" "outBox" "[I"] ++ wsX10)
def wsX1_isFrameLength : List Cond := .code yX1_isFrameLength cX1_isFrameLength 1 (some .boolean) :: ([])
def wsX1_fillBuffer : List Cond := .code yX1_fillBuffer cX1_fillBuffer 4 none :: ([.fieldLink RX1 9 "RingDriver" "memory" "[I", .fieldLink RX1 13 "RingDriver" "outBox" "[I"] ++ wsX10)
def wsX1_fillDescriptor : List Cond := .code yX1_fillDescriptor cX1_fillDescriptor 5 none :: ([.fieldLink RX1 9 "RingDriver" "memory" "[I"] ++ wsX10)
def wsX1_postNext_r1 : List Cond := [Cond.methodLink RX1 71 yX0_size, Cond.instanceMethod yX0_size, Cond.selects RX0 yX0_size yX0_size, Cond.initialized RX0, Cond.code yX0_size cX0_size 1 (some .int), Cond.fieldLink RX0 21 "RingDriver$SlotQueue" "posted" "I", Cond.methodLink RX1 68 yX0_bufferAt, Cond.instanceMethod yX0_bufferAt, Cond.selects RX0 yX0_bufferAt yX0_bufferAt, Cond.code yX0_bufferAt cX0_bufferAt 2 (some .int), Cond.methodLink RX0 28 yX0_pageAt, Cond.instanceMethod yX0_pageAt, Cond.selects RX0 yX0_pageAt yX0_pageAt, Cond.code yX0_pageAt cX0_pageAt 2 (some .int), Cond.fieldLink RX0 15 "RingDriver$SlotQueue" "firstPage" "I", Cond.methodLink RX0 24 yX0_slotAt, Cond.instanceMethod yX0_slotAt, Cond.selects RX0 yX0_slotAt yX0_slotAt, Cond.code yX0_slotAt cX0_slotAt 2 (some .int), Cond.fieldLink RX0 18 "RingDriver$SlotQueue" "oldest" "I", Cond.methodLink RX1 77 yX1_fillBuffer, Cond.instanceMethod yX1_fillBuffer, Cond.selects RX1 yX1_fillBuffer yX1_fillBuffer, Cond.initialized RX1]
def wsX1_postNext_r2 : List Cond := [Cond.code yX1_fillBuffer cX1_fillBuffer 4 none, Cond.fieldLink RX1 9 "RingDriver" "memory" "[I", Cond.fieldLink RX1 13 "RingDriver" "outBox" "[I", Cond.methodLink RX1 64 yX0_descriptorAt, Cond.instanceMethod yX0_descriptorAt, Cond.selects RX0 yX0_descriptorAt yX0_descriptorAt, Cond.code yX0_descriptorAt cX0_descriptorAt 2 (some .int), Cond.fieldLink RX0 9 "RingDriver$SlotQueue" "ringStart" "I", Cond.methodLink RX1 80 yX0_pageAt, Cond.methodLink RX1 83 yX1_fillDescriptor, Cond.instanceMethod yX1_fillDescriptor, Cond.selects RX1 yX1_fillDescriptor yX1_fillDescriptor, Cond.code yX1_fillDescriptor cX1_fillDescriptor 5 none, Cond.methodLink RX1 87 yX0_addNext, Cond.instanceMethod yX0_addNext, Cond.selects RX0 yX0_addNext yX0_addNext, Cond.code yX0_addNext cX0_addNext 1 none, Cond.methodLink RX1 90 yX0_slotAt]
def wsX1_postNext : List Cond := .code yX1_postNext cX1_postNext 4 (some .int) :: ((wsX1_postNext_r1 ++ wsX1_postNext_r2) ++ wsX00 ++ wsX10)
def wsX1_send_r1 : List Cond := [Cond.fieldLink RX1 24 "RingDriver" "transmitQueue" "LRingDriver$SlotQueue;", Cond.methodLink RX1 43 yX1_isFrameLength, Cond.static yX1_isFrameLength, Cond.initialized RX1, Cond.code yX1_isFrameLength cX1_isFrameLength 1 (some .boolean), Cond.methodLink RX1 47 yX1_postNext, Cond.instanceMethod yX1_postNext, Cond.selects RX1 yX1_postNext yX1_postNext, Cond.code yX1_postNext cX1_postNext 4 (some .int), Cond.methodLink RX1 71 yX0_size, Cond.instanceMethod yX0_size, Cond.selects RX0 yX0_size yX0_size, Cond.initialized RX0, Cond.code yX0_size cX0_size 1 (some .int), Cond.fieldLink RX0 21 "RingDriver$SlotQueue" "posted" "I", Cond.methodLink RX1 68 yX0_bufferAt, Cond.instanceMethod yX0_bufferAt, Cond.selects RX0 yX0_bufferAt yX0_bufferAt, Cond.code yX0_bufferAt cX0_bufferAt 2 (some .int), Cond.methodLink RX0 28 yX0_pageAt, Cond.instanceMethod yX0_pageAt, Cond.selects RX0 yX0_pageAt yX0_pageAt, Cond.code yX0_pageAt cX0_pageAt 2 (some .int), Cond.fieldLink RX0 15 "RingDriver$SlotQueue" "firstPage" "I"]
def wsX1_send_r2 : List Cond := [Cond.methodLink RX0 24 yX0_slotAt, Cond.instanceMethod yX0_slotAt, Cond.selects RX0 yX0_slotAt yX0_slotAt, Cond.code yX0_slotAt cX0_slotAt 2 (some .int), Cond.fieldLink RX0 18 "RingDriver$SlotQueue" "oldest" "I", Cond.methodLink RX1 77 yX1_fillBuffer, Cond.instanceMethod yX1_fillBuffer, Cond.selects RX1 yX1_fillBuffer yX1_fillBuffer, Cond.code yX1_fillBuffer cX1_fillBuffer 4 none, Cond.fieldLink RX1 9 "RingDriver" "memory" "[I", Cond.fieldLink RX1 13 "RingDriver" "outBox" "[I", Cond.methodLink RX1 64 yX0_descriptorAt, Cond.instanceMethod yX0_descriptorAt, Cond.selects RX0 yX0_descriptorAt yX0_descriptorAt, Cond.code yX0_descriptorAt cX0_descriptorAt 2 (some .int), Cond.fieldLink RX0 9 "RingDriver$SlotQueue" "ringStart" "I", Cond.methodLink RX1 80 yX0_pageAt, Cond.methodLink RX1 83 yX1_fillDescriptor, Cond.instanceMethod yX1_fillDescriptor, Cond.selects RX1 yX1_fillDescriptor yX1_fillDescriptor, Cond.code yX1_fillDescriptor cX1_fillDescriptor 5 none, Cond.methodLink RX1 87 yX0_addNext, Cond.instanceMethod yX0_addNext, Cond.selects RX0 yX0_addNext yX0_addNext]
def wsX1_send_r3 : List Cond := [Cond.code yX0_addNext cX0_addNext 1 none, Cond.methodLink RX1 90 yX0_slotAt]
def wsX1_send : List Cond := .code yX1_send cX1_send 2 (some .int) :: ((wsX1_send_r1 ++ (wsX1_send_r2 ++ wsX1_send_r3)) ++ wsX10 ++ wsX00)
def wsX1_isGivenBack : List Cond := .code yX1_isGivenBack cX1_isGivenBack 3 (some .boolean) :: ([.fieldLink RX1 9 "RingDriver" "memory" "[I", .methodLink RX1 71 yX0_size, .instanceMethod yX0_size, .selects RX0 yX0_size yX0_size, .initialized RX0, .code yX0_size cX0_size 1 (some .int), .fieldLink RX0 21 "RingDriver$SlotQueue" "posted" "I", .methodLink RX1 64 yX0_descriptorAt, .instanceMethod yX0_descriptorAt, .selects RX0 yX0_descriptorAt yX0_descriptorAt, .code yX0_descriptorAt cX0_descriptorAt 2 (some .int), .fieldLink RX0 9 "RingDriver$SlotQueue" "ringStart" "I", .methodLink RX0 24 yX0_slotAt, .instanceMethod yX0_slotAt, .selects RX0 yX0_slotAt yX0_slotAt, .code yX0_slotAt cX0_slotAt 2 (some .int), .fieldLink RX0 18 "RingDriver$SlotQueue" "oldest" "I"] ++ wsX10 ++ wsX00)
def wsX1_reclaim_r1 : List Cond := [Cond.fieldLink RX1 24 "RingDriver" "transmitQueue" "LRingDriver$SlotQueue;", Cond.methodLink RX1 51 yX1_isGivenBack, Cond.instanceMethod yX1_isGivenBack, Cond.selects RX1 yX1_isGivenBack yX1_isGivenBack, Cond.initialized RX1, Cond.code yX1_isGivenBack cX1_isGivenBack 3 (some .boolean), Cond.fieldLink RX1 9 "RingDriver" "memory" "[I", Cond.methodLink RX1 71 yX0_size, Cond.instanceMethod yX0_size, Cond.selects RX0 yX0_size yX0_size, Cond.initialized RX0, Cond.code yX0_size cX0_size 1 (some .int), Cond.fieldLink RX0 21 "RingDriver$SlotQueue" "posted" "I", Cond.methodLink RX1 64 yX0_descriptorAt, Cond.instanceMethod yX0_descriptorAt, Cond.selects RX0 yX0_descriptorAt yX0_descriptorAt, Cond.code yX0_descriptorAt cX0_descriptorAt 2 (some .int), Cond.fieldLink RX0 9 "RingDriver$SlotQueue" "ringStart" "I", Cond.methodLink RX0 24 yX0_slotAt, Cond.instanceMethod yX0_slotAt, Cond.selects RX0 yX0_slotAt yX0_slotAt, Cond.code yX0_slotAt cX0_slotAt 2 (some .int), Cond.fieldLink RX0 18 "RingDriver$SlotQueue" "oldest" "I", Cond.methodLink RX1 55 yX0_removeOldest]
def wsX1_reclaim_r2 : List Cond := [Cond.instanceMethod yX0_removeOldest, Cond.selects RX0 yX0_removeOldest yX0_removeOldest, Cond.code yX0_removeOldest cX0_removeOldest 1 none]
def wsX1_reclaim : List Cond := .code yX1_reclaim cX1_reclaim 2 (some .int) :: ((wsX1_reclaim_r1 ++ wsX1_reclaim_r2) ++ wsX10 ++ wsX00)
def wsX1_closeAllBehind : List Cond := .code yX1_closeAllBehind cX1_closeAllBehind 5 (some .int) :: ([.fieldLink RX1 9 "RingDriver" "memory" "[I", .methodLink RX1 71 yX0_size, .instanceMethod yX0_size, .selects RX0 yX0_size yX0_size, .initialized RX0, .code yX0_size cX0_size 1 (some .int), .fieldLink RX0 21 "RingDriver$SlotQueue" "posted" "I", .methodLink RX1 64 yX0_descriptorAt, .instanceMethod yX0_descriptorAt, .selects RX0 yX0_descriptorAt yX0_descriptorAt, .code yX0_descriptorAt cX0_descriptorAt 2 (some .int), .fieldLink RX0 9 "RingDriver$SlotQueue" "ringStart" "I", .methodLink RX0 24 yX0_slotAt, .instanceMethod yX0_slotAt, .selects RX0 yX0_slotAt yX0_slotAt, .code yX0_slotAt cX0_slotAt 2 (some .int), .fieldLink RX0 18 "RingDriver$SlotQueue" "oldest" "I", .methodLink RX1 93 yX0_keepOldest, .instanceMethod yX0_keepOldest, .selects RX0 yX0_keepOldest yX0_keepOldest, .code yX0_keepOldest cX0_keepOldest 2 none] ++ wsX10 ++ wsX00)
def wsX1_revoke_r1 : List Cond := [Cond.fieldLink RX1 24 "RingDriver" "transmitQueue" "LRingDriver$SlotQueue;", Cond.methodLink RX1 58 yX1_reclaim, Cond.instanceMethod yX1_reclaim, Cond.selects RX1 yX1_reclaim yX1_reclaim, Cond.initialized RX1, Cond.code yX1_reclaim cX1_reclaim 2 (some .int), Cond.methodLink RX1 51 yX1_isGivenBack, Cond.instanceMethod yX1_isGivenBack, Cond.selects RX1 yX1_isGivenBack yX1_isGivenBack, Cond.code yX1_isGivenBack cX1_isGivenBack 3 (some .boolean), Cond.fieldLink RX1 9 "RingDriver" "memory" "[I", Cond.methodLink RX1 71 yX0_size, Cond.instanceMethod yX0_size, Cond.selects RX0 yX0_size yX0_size, Cond.initialized RX0, Cond.code yX0_size cX0_size 1 (some .int), Cond.fieldLink RX0 21 "RingDriver$SlotQueue" "posted" "I", Cond.methodLink RX1 64 yX0_descriptorAt, Cond.instanceMethod yX0_descriptorAt, Cond.selects RX0 yX0_descriptorAt yX0_descriptorAt, Cond.code yX0_descriptorAt cX0_descriptorAt 2 (some .int), Cond.fieldLink RX0 9 "RingDriver$SlotQueue" "ringStart" "I", Cond.methodLink RX0 24 yX0_slotAt, Cond.instanceMethod yX0_slotAt]
def wsX1_revoke_r2 : List Cond := [Cond.selects RX0 yX0_slotAt yX0_slotAt, Cond.code yX0_slotAt cX0_slotAt 2 (some .int), Cond.fieldLink RX0 18 "RingDriver$SlotQueue" "oldest" "I", Cond.methodLink RX1 55 yX0_removeOldest, Cond.instanceMethod yX0_removeOldest, Cond.selects RX0 yX0_removeOldest yX0_removeOldest, Cond.code yX0_removeOldest cX0_removeOldest 1 none, Cond.methodLink RX1 61 yX1_closeAllBehind, Cond.instanceMethod yX1_closeAllBehind, Cond.selects RX1 yX1_closeAllBehind yX1_closeAllBehind, Cond.code yX1_closeAllBehind cX1_closeAllBehind 5 (some .int), Cond.methodLink RX1 93 yX0_keepOldest, Cond.instanceMethod yX0_keepOldest, Cond.selects RX0 yX0_keepOldest yX0_keepOldest, Cond.code yX0_keepOldest cX0_keepOldest 2 none]
def wsX1_revoke : List Cond := .code yX1_revoke cX1_revoke 1 (some .int) :: ((wsX1_revoke_r1 ++ wsX1_revoke_r2) ++ wsX10 ++ wsX00)
def wsX1_post_r1 : List Cond := [Cond.fieldLink RX1 28 "RingDriver" "receiveQueue" "LRingDriver$SlotQueue;", Cond.methodLink RX1 47 yX1_postNext, Cond.instanceMethod yX1_postNext, Cond.selects RX1 yX1_postNext yX1_postNext, Cond.initialized RX1, Cond.code yX1_postNext cX1_postNext 4 (some .int), Cond.methodLink RX1 71 yX0_size, Cond.instanceMethod yX0_size, Cond.selects RX0 yX0_size yX0_size, Cond.initialized RX0, Cond.code yX0_size cX0_size 1 (some .int), Cond.fieldLink RX0 21 "RingDriver$SlotQueue" "posted" "I", Cond.methodLink RX1 68 yX0_bufferAt, Cond.instanceMethod yX0_bufferAt, Cond.selects RX0 yX0_bufferAt yX0_bufferAt, Cond.code yX0_bufferAt cX0_bufferAt 2 (some .int), Cond.methodLink RX0 28 yX0_pageAt, Cond.instanceMethod yX0_pageAt, Cond.selects RX0 yX0_pageAt yX0_pageAt, Cond.code yX0_pageAt cX0_pageAt 2 (some .int), Cond.fieldLink RX0 15 "RingDriver$SlotQueue" "firstPage" "I", Cond.methodLink RX0 24 yX0_slotAt, Cond.instanceMethod yX0_slotAt, Cond.selects RX0 yX0_slotAt yX0_slotAt]
def wsX1_post_r2 : List Cond := [Cond.code yX0_slotAt cX0_slotAt 2 (some .int), Cond.fieldLink RX0 18 "RingDriver$SlotQueue" "oldest" "I", Cond.methodLink RX1 77 yX1_fillBuffer, Cond.instanceMethod yX1_fillBuffer, Cond.selects RX1 yX1_fillBuffer yX1_fillBuffer, Cond.code yX1_fillBuffer cX1_fillBuffer 4 none, Cond.fieldLink RX1 9 "RingDriver" "memory" "[I", Cond.fieldLink RX1 13 "RingDriver" "outBox" "[I", Cond.methodLink RX1 64 yX0_descriptorAt, Cond.instanceMethod yX0_descriptorAt, Cond.selects RX0 yX0_descriptorAt yX0_descriptorAt, Cond.code yX0_descriptorAt cX0_descriptorAt 2 (some .int), Cond.fieldLink RX0 9 "RingDriver$SlotQueue" "ringStart" "I", Cond.methodLink RX1 80 yX0_pageAt, Cond.methodLink RX1 83 yX1_fillDescriptor, Cond.instanceMethod yX1_fillDescriptor, Cond.selects RX1 yX1_fillDescriptor yX1_fillDescriptor, Cond.code yX1_fillDescriptor cX1_fillDescriptor 5 none, Cond.methodLink RX1 87 yX0_addNext, Cond.instanceMethod yX0_addNext, Cond.selects RX0 yX0_addNext yX0_addNext, Cond.code yX0_addNext cX0_addNext 1 none, Cond.methodLink RX1 90 yX0_slotAt]
def wsX1_post : List Cond := .code yX1_post cX1_post 1 (some .int) :: ((wsX1_post_r1 ++ wsX1_post_r2) ++ wsX10 ++ wsX00)
def wsX1_receive_r1 : List Cond := [Cond.fieldLink RX1 28 "RingDriver" "receiveQueue" "LRingDriver$SlotQueue;", Cond.fieldLink RX1 9 "RingDriver" "memory" "[I", Cond.fieldLink RX1 16 "RingDriver" "inBox" "[I", Cond.methodLink RX1 51 yX1_isGivenBack, Cond.instanceMethod yX1_isGivenBack, Cond.selects RX1 yX1_isGivenBack yX1_isGivenBack, Cond.initialized RX1, Cond.code yX1_isGivenBack cX1_isGivenBack 3 (some .boolean), Cond.methodLink RX1 71 yX0_size, Cond.instanceMethod yX0_size, Cond.selects RX0 yX0_size yX0_size, Cond.initialized RX0, Cond.code yX0_size cX0_size 1 (some .int), Cond.fieldLink RX0 21 "RingDriver$SlotQueue" "posted" "I", Cond.methodLink RX1 64 yX0_descriptorAt, Cond.instanceMethod yX0_descriptorAt, Cond.selects RX0 yX0_descriptorAt yX0_descriptorAt, Cond.code yX0_descriptorAt cX0_descriptorAt 2 (some .int), Cond.fieldLink RX0 9 "RingDriver$SlotQueue" "ringStart" "I", Cond.methodLink RX0 24 yX0_slotAt, Cond.instanceMethod yX0_slotAt, Cond.selects RX0 yX0_slotAt yX0_slotAt, Cond.code yX0_slotAt cX0_slotAt 2 (some .int), Cond.fieldLink RX0 18 "RingDriver$SlotQueue" "oldest" "I"]
def wsX1_receive_r2 : List Cond := [Cond.methodLink RX1 68 yX0_bufferAt, Cond.instanceMethod yX0_bufferAt, Cond.selects RX0 yX0_bufferAt yX0_bufferAt, Cond.code yX0_bufferAt cX0_bufferAt 2 (some .int), Cond.methodLink RX0 28 yX0_pageAt, Cond.instanceMethod yX0_pageAt, Cond.selects RX0 yX0_pageAt yX0_pageAt, Cond.code yX0_pageAt cX0_pageAt 2 (some .int), Cond.fieldLink RX0 15 "RingDriver$SlotQueue" "firstPage" "I", Cond.methodLink RX1 55 yX0_removeOldest, Cond.instanceMethod yX0_removeOldest, Cond.selects RX0 yX0_removeOldest yX0_removeOldest, Cond.code yX0_removeOldest cX0_removeOldest 1 none, Cond.methodLink RX1 43 yX1_isFrameLength, Cond.static yX1_isFrameLength, Cond.code yX1_isFrameLength cX1_isFrameLength 1 (some .boolean)]
def wsX1_receive : List Cond := .code yX1_receive cX1_receive 4 (some .int) :: ((wsX1_receive_r1 ++ wsX1_receive_r2) ++ wsX10 ++ wsX00)
def wsX1_taken : List Cond := .code yX1_taken cX1_taken 2 (some .int) :: ([.fieldLink RX1 16 "RingDriver" "inBox" "[I"] ++ wsX10)
def wsX1_withdraw_r1 : List Cond := [Cond.fieldLink RX1 28 "RingDriver" "receiveQueue" "LRingDriver$SlotQueue;", Cond.methodLink RX1 51 yX1_isGivenBack, Cond.instanceMethod yX1_isGivenBack, Cond.selects RX1 yX1_isGivenBack yX1_isGivenBack, Cond.initialized RX1, Cond.code yX1_isGivenBack cX1_isGivenBack 3 (some .boolean), Cond.fieldLink RX1 9 "RingDriver" "memory" "[I", Cond.methodLink RX1 71 yX0_size, Cond.instanceMethod yX0_size, Cond.selects RX0 yX0_size yX0_size, Cond.initialized RX0, Cond.code yX0_size cX0_size 1 (some .int), Cond.fieldLink RX0 21 "RingDriver$SlotQueue" "posted" "I", Cond.methodLink RX1 64 yX0_descriptorAt, Cond.instanceMethod yX0_descriptorAt, Cond.selects RX0 yX0_descriptorAt yX0_descriptorAt, Cond.code yX0_descriptorAt cX0_descriptorAt 2 (some .int), Cond.fieldLink RX0 9 "RingDriver$SlotQueue" "ringStart" "I", Cond.methodLink RX0 24 yX0_slotAt, Cond.instanceMethod yX0_slotAt, Cond.selects RX0 yX0_slotAt yX0_slotAt, Cond.code yX0_slotAt cX0_slotAt 2 (some .int), Cond.fieldLink RX0 18 "RingDriver$SlotQueue" "oldest" "I", Cond.methodLink RX1 61 yX1_closeAllBehind]
def wsX1_withdraw_r2 : List Cond := [Cond.instanceMethod yX1_closeAllBehind, Cond.selects RX1 yX1_closeAllBehind yX1_closeAllBehind, Cond.code yX1_closeAllBehind cX1_closeAllBehind 5 (some .int), Cond.methodLink RX1 93 yX0_keepOldest, Cond.instanceMethod yX0_keepOldest, Cond.selects RX0 yX0_keepOldest yX0_keepOldest, Cond.code yX0_keepOldest cX0_keepOldest 2 none]
def wsX1_withdraw : List Cond := .code yX1_withdraw cX1_withdraw 2 (some .int) :: ((wsX1_withdraw_r1 ++ wsX1_withdraw_r2) ++ wsX10 ++ wsX00)
def wsX1_sending : List Cond := .code yX1_sending cX1_sending 1 (some .int) :: ([.fieldLink RX1 24 "RingDriver" "transmitQueue" "LRingDriver$SlotQueue;", .methodLink RX1 71 yX0_size, .instanceMethod yX0_size, .selects RX0 yX0_size yX0_size, .initialized RX0, .code yX0_size cX0_size 1 (some .int), .fieldLink RX0 21 "RingDriver$SlotQueue" "posted" "I"] ++ wsX10 ++ wsX00)
def wsX1_receiving : List Cond := .code yX1_receiving cX1_receiving 1 (some .int) :: ([.fieldLink RX1 28 "RingDriver" "receiveQueue" "LRingDriver$SlotQueue;", .methodLink RX1 71 yX0_size, .instanceMethod yX0_size, .selects RX0 yX0_size yX0_size, .initialized RX0, .code yX0_size cX0_size 1 (some .int), .fieldLink RX0 21 "RingDriver$SlotQueue" "posted" "I"] ++ wsX10 ++ wsX00)
def wsX2_init : List Cond := .code yX2_init cX2_init 2 none :: ([.methodLink RX2 1 objectInit, .instanceMethod objectInit, .code objectInit ⟨#[0xb1]⟩ 1 none, .arrayClass .byte, .fieldLink RX2 7 "RingDriverModel" "memory" "[B", .arrayClass .boolean, .fieldLink RX2 13 "RingDriverModel" "readable" "[Z", .fieldLink RX2 17 "RingDriverModel" "writable" "[Z", .fieldLink RX2 20 "RingDriverModel" "outBox" "[B", .fieldLink RX2 23 "RingDriverModel" "inBox" "[B"] ++ wsX20)
def wsX2_deviceRead : List Cond := .code yX2_deviceRead cX2_deviceRead 2 (some .int) :: ([.fieldLink RX2 13 "RingDriverModel" "readable" "[Z", .fieldLink RX2 26 "RingDriverModel" "faults" "I", .fieldLink RX2 7 "RingDriverModel" "memory" "[B"] ++ wsX20)
def wsX2_deviceWrite : List Cond := .code yX2_deviceWrite cX2_deviceWrite 3 (some .int) :: ([.fieldLink RX2 17 "RingDriverModel" "writable" "[Z", .fieldLink RX2 26 "RingDriverModel" "faults" "I", .fieldLink RX2 7 "RingDriverModel" "memory" "[B"] ++ wsX20)
def wsX2_faults : List Cond := .code yX2_faults cX2_faults 1 (some .int) :: ([.fieldLink RX2 26 "RingDriverModel" "faults" "I"] ++ wsX20)
def wsX2_load : List Cond := .code yX2_load cX2_load 3 (some .boolean) :: ([.fieldLink RX2 20 "RingDriverModel" "outBox" "[B"] ++ wsX20)
def wsX2_describe : List Cond := .code yX2_describe cX2_describe 5 none :: ([.fieldLink RX2 7 "RingDriverModel" "memory" "[B"] ++ wsX20)
def wsX2_send : List Cond := .code yX2_send cX2_send 4 (some .int) :: ([.fieldLink RX2 30 "RingDriverModel" "n" "I", .fieldLink RX2 33 "RingDriverModel" "t" "I", .fieldLink RX2 7 "RingDriverModel" "memory" "[B", .fieldLink RX2 20 "RingDriverModel" "outBox" "[B", .fieldLink RX2 13 "RingDriverModel" "readable" "[Z", .methodLink RX2 36 yX2_describe, .instanceMethod yX2_describe, .selects RX2 yX2_describe yX2_describe, .initialized RX2, .code yX2_describe cX2_describe 5 none] ++ wsX20)
def wsX2_reclaim : List Cond := .code yX2_reclaim cX2_reclaim 3 (some .int) :: ([.fieldLink RX2 30 "RingDriverModel" "n" "I", .fieldLink RX2 7 "RingDriverModel" "memory" "[B", .fieldLink RX2 33 "RingDriverModel" "t" "I", .fieldLink RX2 13 "RingDriverModel" "readable" "[Z"] ++ wsX20)
def wsX2_revoke : List Cond := .code yX2_revoke cX2_revoke 5 (some .int) :: ([.fieldLink RX2 30 "RingDriverModel" "n" "I", .fieldLink RX2 33 "RingDriverModel" "t" "I", .fieldLink RX2 13 "RingDriverModel" "readable" "[Z", .fieldLink RX2 7 "RingDriverModel" "memory" "[B", .methodLink RX2 40 yX2_reclaim, .instanceMethod yX2_reclaim, .selects RX2 yX2_reclaim yX2_reclaim, .initialized RX2, .code yX2_reclaim cX2_reclaim 3 (some .int)] ++ wsX20)
def wsX2_post : List Cond := .code yX2_post cX2_post 3 (some .int) :: ([.fieldLink RX2 44 "RingDriverModel" "m" "I", .fieldLink RX2 47 "RingDriverModel" "\x72" "I", .fieldLink RX2 7 "RingDriverModel" "memory" "[B", .fieldLink RX2 17 "RingDriverModel" "writable" "[Z", .methodLink RX2 36 yX2_describe, .instanceMethod yX2_describe, .selects RX2 yX2_describe yX2_describe, .initialized RX2, .code yX2_describe cX2_describe 5 none] ++ wsX20)
def wsX2_receive : List Cond := .code yX2_receive cX2_receive 4 (some .int) :: ([.fieldLink RX2 44 "RingDriverModel" "m" "I", .fieldLink RX2 7 "RingDriverModel" "memory" "[B", .fieldLink RX2 47 "RingDriverModel" "\x72" "I", .fieldLink RX2 17 "RingDriverModel" "writable" "[Z", .fieldLink RX2 23 "RingDriverModel" "inBox" "[B"] ++ wsX20)
def wsX2_taken : List Cond := .code yX2_taken cX2_taken 2 (some .int) :: ([.fieldLink RX2 23 "RingDriverModel" "inBox" "[B"] ++ wsX20)
def wsX2_withdraw : List Cond := .code yX2_withdraw cX2_withdraw 5 (some .int) :: ([.fieldLink RX2 44 "RingDriverModel" "m" "I", .fieldLink RX2 7 "RingDriverModel" "memory" "[B", .fieldLink RX2 47 "RingDriverModel" "\x72" "I", .fieldLink RX2 17 "RingDriverModel" "writable" "[Z"] ++ wsX20)
def wsX2_sending : List Cond := .code yX2_sending cX2_sending 1 (some .int) :: ([.fieldLink RX2 30 "RingDriverModel" "n" "I"] ++ wsX20)
def wsX2_receiving : List Cond := .code yX2_receiving cX2_receiving 1 (some .int) :: ([.fieldLink RX2 44 "RingDriverModel" "m" "I"] ++ wsX20)
def wsL_law_r1 : List Cond := [Cond.classLink RL 7 RX1, Cond.instantiable RX1 6, Cond.initialized RX1, Cond.classLink RL 10 RX2, Cond.instantiable RX2 10, Cond.initialized RX2, Cond.methodLink RL 9 yX1_init, Cond.instanceMethod yX1_init, Cond.code yX1_init cX1_init 1 none, Cond.methodLink RX1 1 objectInit, Cond.instanceMethod objectInit, Cond.code objectInit ⟨#[0xb1]⟩ 1 none, Cond.arrayClass .int, Cond.fieldLink RX1 9 "RingDriver" "memory" "[I", Cond.fieldLink RX1 13 "RingDriver" "outBox" "[I", Cond.fieldLink RX1 16 "RingDriver" "inBox" "[I", Cond.classLink RX1 19 RX0, Cond.instantiable RX0 4, Cond.initialized RX0, Cond.fieldLink RX1 24 "RingDriver" "transmitQueue" "LRingDriver$SlotQueue;", Cond.fieldLink RX1 28 "RingDriver" "receiveQueue" "LRingDriver$SlotQueue;", Cond.fieldLink RX1 31 "RingDriver" "faultCount" "I", Cond.methodLink RX1 21 yX0_init, Cond.instanceMethod yX0_init]
def wsL_law_r2 : List Cond := [Cond.code yX0_init cX0_init 3 none, Cond.methodLink RX0 3 objectInit, Cond.fieldLink RX0 9 "RingDriver$SlotQueue" "ringStart" "I", Cond.fieldLink RX0 15 "RingDriver$SlotQueue" "firstPage" "I", Cond.fieldLink RX0 18 "RingDriver$SlotQueue" "oldest" "I", Cond.fieldLink RX0 21 "RingDriver$SlotQueue" "posted" "I", Cond.methodLink RL 12 yX2_init, Cond.instanceMethod yX2_init, Cond.code yX2_init cX2_init 2 none, Cond.methodLink RX2 1 objectInit, Cond.arrayClass .byte, Cond.fieldLink RX2 7 "RingDriverModel" "memory" "[B", Cond.arrayClass .boolean, Cond.fieldLink RX2 13 "RingDriverModel" "readable" "[Z", Cond.fieldLink RX2 17 "RingDriverModel" "writable" "[Z", Cond.fieldLink RX2 20 "RingDriverModel" "outBox" "[B", Cond.fieldLink RX2 23 "RingDriverModel" "inBox" "[B", Cond.methodLink RL 13 yX1_deviceRead, Cond.instanceMethod yX1_deviceRead, Cond.selects RX1 yX1_deviceRead yX1_deviceRead, Cond.code yX1_deviceRead cX1_deviceRead 2 (some .int), Cond.methodLink RX1 35 yX1_isOpen, Cond.static yX1_isOpen, Cond.code yX1_isOpen cX1_isOpen 2 (some .boolean)]
def wsL_law_r3 : List Cond := [Cond.methodLink RX1 74 yX0_hasPostedPage, Cond.instanceMethod yX0_hasPostedPage, Cond.selects RX0 yX0_hasPostedPage yX0_hasPostedPage, Cond.code yX0_hasPostedPage cX0_hasPostedPage 3 (some .boolean), Cond.methodLink RX1 39 yX1_fault, Cond.instanceMethod yX1_fault, Cond.selects RX1 yX1_fault yX1_fault, Cond.code yX1_fault cX1_fault 1 (some .int), Cond.methodLink RL 17 yX2_deviceRead, Cond.instanceMethod yX2_deviceRead, Cond.selects RX2 yX2_deviceRead yX2_deviceRead, Cond.code yX2_deviceRead cX2_deviceRead 2 (some .int), Cond.fieldLink RX2 26 "RingDriverModel" "faults" "I", Cond.methodLink RL 18 yX1_deviceWrite, Cond.instanceMethod yX1_deviceWrite, Cond.selects RX1 yX1_deviceWrite yX1_deviceWrite, Cond.code yX1_deviceWrite cX1_deviceWrite 3 (some .int), Cond.methodLink RL 22 yX2_deviceWrite, Cond.instanceMethod yX2_deviceWrite, Cond.selects RX2 yX2_deviceWrite yX2_deviceWrite, Cond.code yX2_deviceWrite cX2_deviceWrite 3 (some .int), Cond.methodLink RL 23 yX1_faults, Cond.instanceMethod yX1_faults, Cond.selects RX1 yX1_faults yX1_faults]
def wsL_law_r4 : List Cond := [Cond.code yX1_faults cX1_faults 1 (some .int), Cond.methodLink RL 27 yX2_faults, Cond.instanceMethod yX2_faults, Cond.selects RX2 yX2_faults yX2_faults, Cond.code yX2_faults cX2_faults 1 (some .int), Cond.methodLink RL 28 yX1_load, Cond.instanceMethod yX1_load, Cond.selects RX1 yX1_load yX1_load, Cond.code yX1_load cX1_load 3 (some .boolean), Cond.methodLink RL 32 yX2_load, Cond.instanceMethod yX2_load, Cond.selects RX2 yX2_load yX2_load, Cond.code yX2_load cX2_load 3 (some .boolean), Cond.methodLink RL 33 yX1_send, Cond.instanceMethod yX1_send, Cond.selects RX1 yX1_send yX1_send, Cond.code yX1_send cX1_send 2 (some .int), Cond.methodLink RX1 43 yX1_isFrameLength, Cond.static yX1_isFrameLength, Cond.code yX1_isFrameLength cX1_isFrameLength 1 (some .boolean), Cond.methodLink RX1 47 yX1_postNext, Cond.instanceMethod yX1_postNext, Cond.selects RX1 yX1_postNext yX1_postNext, Cond.code yX1_postNext cX1_postNext 4 (some .int)]
def wsL_law_r5 : List Cond := [Cond.methodLink RX1 71 yX0_size, Cond.instanceMethod yX0_size, Cond.selects RX0 yX0_size yX0_size, Cond.code yX0_size cX0_size 1 (some .int), Cond.methodLink RX1 68 yX0_bufferAt, Cond.instanceMethod yX0_bufferAt, Cond.selects RX0 yX0_bufferAt yX0_bufferAt, Cond.code yX0_bufferAt cX0_bufferAt 2 (some .int), Cond.methodLink RX0 28 yX0_pageAt, Cond.instanceMethod yX0_pageAt, Cond.selects RX0 yX0_pageAt yX0_pageAt, Cond.code yX0_pageAt cX0_pageAt 2 (some .int), Cond.methodLink RX0 24 yX0_slotAt, Cond.instanceMethod yX0_slotAt, Cond.selects RX0 yX0_slotAt yX0_slotAt, Cond.code yX0_slotAt cX0_slotAt 2 (some .int), Cond.methodLink RX1 77 yX1_fillBuffer, Cond.instanceMethod yX1_fillBuffer, Cond.selects RX1 yX1_fillBuffer yX1_fillBuffer, Cond.code yX1_fillBuffer cX1_fillBuffer 4 none, Cond.methodLink RX1 64 yX0_descriptorAt, Cond.instanceMethod yX0_descriptorAt, Cond.selects RX0 yX0_descriptorAt yX0_descriptorAt, Cond.code yX0_descriptorAt cX0_descriptorAt 2 (some .int)]
def wsL_law_r6 : List Cond := [Cond.methodLink RX1 80 yX0_pageAt, Cond.methodLink RX1 83 yX1_fillDescriptor, Cond.instanceMethod yX1_fillDescriptor, Cond.selects RX1 yX1_fillDescriptor yX1_fillDescriptor, Cond.code yX1_fillDescriptor cX1_fillDescriptor 5 none, Cond.methodLink RX1 87 yX0_addNext, Cond.instanceMethod yX0_addNext, Cond.selects RX0 yX0_addNext yX0_addNext, Cond.code yX0_addNext cX0_addNext 1 none, Cond.methodLink RX1 90 yX0_slotAt, Cond.methodLink RL 36 yX2_send, Cond.instanceMethod yX2_send, Cond.selects RX2 yX2_send yX2_send, Cond.code yX2_send cX2_send 4 (some .int), Cond.fieldLink RX2 30 "RingDriverModel" "n" "I", Cond.fieldLink RX2 33 "RingDriverModel" "t" "I", Cond.methodLink RX2 36 yX2_describe, Cond.instanceMethod yX2_describe, Cond.selects RX2 yX2_describe yX2_describe, Cond.code yX2_describe cX2_describe 5 none, Cond.methodLink RL 37 yX1_reclaim, Cond.instanceMethod yX1_reclaim, Cond.selects RX1 yX1_reclaim yX1_reclaim, Cond.code yX1_reclaim cX1_reclaim 2 (some .int)]
def wsL_law_r7 : List Cond := [Cond.methodLink RX1 51 yX1_isGivenBack, Cond.instanceMethod yX1_isGivenBack, Cond.selects RX1 yX1_isGivenBack yX1_isGivenBack, Cond.code yX1_isGivenBack cX1_isGivenBack 3 (some .boolean), Cond.methodLink RX1 55 yX0_removeOldest, Cond.instanceMethod yX0_removeOldest, Cond.selects RX0 yX0_removeOldest yX0_removeOldest, Cond.code yX0_removeOldest cX0_removeOldest 1 none, Cond.methodLink RL 40 yX2_reclaim, Cond.instanceMethod yX2_reclaim, Cond.selects RX2 yX2_reclaim yX2_reclaim, Cond.code yX2_reclaim cX2_reclaim 3 (some .int), Cond.methodLink RL 41 yX1_revoke, Cond.instanceMethod yX1_revoke, Cond.selects RX1 yX1_revoke yX1_revoke, Cond.code yX1_revoke cX1_revoke 1 (some .int), Cond.methodLink RX1 58 yX1_reclaim, Cond.methodLink RX1 61 yX1_closeAllBehind, Cond.instanceMethod yX1_closeAllBehind, Cond.selects RX1 yX1_closeAllBehind yX1_closeAllBehind, Cond.code yX1_closeAllBehind cX1_closeAllBehind 5 (some .int), Cond.methodLink RX1 93 yX0_keepOldest, Cond.instanceMethod yX0_keepOldest, Cond.selects RX0 yX0_keepOldest yX0_keepOldest]
def wsL_law_r8 : List Cond := [Cond.code yX0_keepOldest cX0_keepOldest 2 none, Cond.methodLink RL 44 yX2_revoke, Cond.instanceMethod yX2_revoke, Cond.selects RX2 yX2_revoke yX2_revoke, Cond.code yX2_revoke cX2_revoke 5 (some .int), Cond.methodLink RX2 40 yX2_reclaim, Cond.methodLink RL 45 yX1_post, Cond.instanceMethod yX1_post, Cond.selects RX1 yX1_post yX1_post, Cond.code yX1_post cX1_post 1 (some .int), Cond.methodLink RL 48 yX2_post, Cond.instanceMethod yX2_post, Cond.selects RX2 yX2_post yX2_post, Cond.code yX2_post cX2_post 3 (some .int), Cond.fieldLink RX2 44 "RingDriverModel" "m" "I", Cond.fieldLink RX2 47 "RingDriverModel" "\x72" "I", Cond.methodLink RL 49 yX1_receive, Cond.instanceMethod yX1_receive, Cond.selects RX1 yX1_receive yX1_receive, Cond.code yX1_receive cX1_receive 4 (some .int), Cond.methodLink RL 52 yX2_receive, Cond.instanceMethod yX2_receive, Cond.selects RX2 yX2_receive yX2_receive, Cond.code yX2_receive cX2_receive 4 (some .int)]
def wsL_law_r9 : List Cond := [Cond.methodLink RL 53 yX1_taken, Cond.instanceMethod yX1_taken, Cond.selects RX1 yX1_taken yX1_taken, Cond.code yX1_taken cX1_taken 2 (some .int), Cond.methodLink RL 56 yX2_taken, Cond.instanceMethod yX2_taken, Cond.selects RX2 yX2_taken yX2_taken, Cond.code yX2_taken cX2_taken 2 (some .int), Cond.methodLink RL 57 yX1_withdraw, Cond.instanceMethod yX1_withdraw, Cond.selects RX1 yX1_withdraw yX1_withdraw, Cond.code yX1_withdraw cX1_withdraw 2 (some .int), Cond.methodLink RL 60 yX2_withdraw, Cond.instanceMethod yX2_withdraw, Cond.selects RX2 yX2_withdraw yX2_withdraw, Cond.code yX2_withdraw cX2_withdraw 5 (some .int), Cond.methodLink RL 61 yX1_sending, Cond.instanceMethod yX1_sending, Cond.selects RX1 yX1_sending yX1_sending, Cond.code yX1_sending cX1_sending 1 (some .int), Cond.methodLink RL 64 yX2_sending, Cond.instanceMethod yX2_sending, Cond.selects RX2 yX2_sending yX2_sending, Cond.code yX2_sending cX2_sending 1 (some .int)]
def wsL_law_r10 : List Cond := [Cond.methodLink RL 65 yX1_receiving, Cond.instanceMethod yX1_receiving, Cond.selects RX1 yX1_receiving yX1_receiving, Cond.code yX1_receiving cX1_receiving 1 (some .int), Cond.methodLink RL 68 yX2_receiving, Cond.instanceMethod yX2_receiving, Cond.selects RX2 yX2_receiving yX2_receiving, Cond.code yX2_receiving cX2_receiving 1 (some .int)]
def wsL_law : List Cond := (wsL_law_r1 ++ (wsL_law_r2 ++ (wsL_law_r3 ++ (wsL_law_r4 ++ (wsL_law_r5 ++ (wsL_law_r6 ++ (wsL_law_r7 ++ (wsL_law_r8 ++ (wsL_law_r9 ++ wsL_law_r10))))))))) ++ wsX10 ++ wsX20 ++ wsX00 ++ ([] : List Cond)
set_option maxRecDepth 20000 in
theorem wsL_law_in : ∀ w ∈ wsL_law, w ∈ lw_tbl := fun w h => (goodIn_p wsL_law [15, 18, 23, 183, 61, 64, 68, 72, 221, 76, 225, 80, 229, 84, 233, 88, 91, 95, 99, 103, 107, 111, 115, 119, 124, 128, 237, 241, 133, 137, 141, 245, 145, 150, 154, 249, 158, 254, 162, 258, 166, 262, 170, 266, 174, 270, 178, 274] (by decide +kernel) (by decide +kernel) w h).1
theorem inlX0 : ∀ w ∈ wsX00, w ∈ wsL_law := fun _ h => List.mem_append_left _ (List.mem_append_right _ h)
theorem inX0 : ∀ w ∈ wsX00, w ∈ lw_tbl := fun w h => wsL_law_in w (inlX0 w h)
theorem inlX1 : ∀ w ∈ wsX10, w ∈ wsL_law := fun _ h => List.mem_append_left _ (List.mem_append_left _ (List.mem_append_left _ (List.mem_append_right _ h)))
theorem inX1 : ∀ w ∈ wsX10, w ∈ lw_tbl := fun w h => wsL_law_in w (inlX1 w h)
theorem inlX2 : ∀ w ∈ wsX20, w ∈ wsL_law := fun _ h => List.mem_append_left _ (List.mem_append_left _ (List.mem_append_right _ h))
theorem inX2 : ∀ w ∈ wsX20, w ∈ lw_tbl := fun w h => wsL_law_in w (inlX2 w h)
theorem dX0_init_0 : decode cX0_init 0 = .ok (.aload_n 0, 1) := by decide +kernel
theorem dX0_init_1 : decode cX0_init 1 = .ok (.invokespecial 3, 3) := by decide +kernel
theorem dX0_init_4 : decode cX0_init 4 = .ok (.aload_n 0, 1) := by decide +kernel
theorem dX0_init_5 : decode cX0_init 5 = .ok (.iload_n 1, 1) := by decide +kernel
theorem dX0_init_6 : decode cX0_init 6 = .ok (.putfield 9, 3) := by decide +kernel
theorem dX0_init_9 : decode cX0_init 9 = .ok (.aload_n 0, 1) := by decide +kernel
theorem dX0_init_10 : decode cX0_init 10 = .ok (.iload_n 2, 1) := by decide +kernel
theorem dX0_init_11 : decode cX0_init 11 = .ok (.putfield 15, 3) := by decide +kernel
theorem dX0_init_14 : decode cX0_init 14 = .ok (.aload_n 0, 1) := by decide +kernel
theorem dX0_init_15 : decode cX0_init 15 = .ok (.iconst 0, 1) := by decide +kernel
theorem dX0_init_16 : decode cX0_init 16 = .ok (.putfield 18, 3) := by decide +kernel
theorem dX0_init_19 : decode cX0_init 19 = .ok (.aload_n 0, 1) := by decide +kernel
theorem dX0_init_20 : decode cX0_init 20 = .ok (.iconst 0, 1) := by decide +kernel
theorem dX0_init_21 : decode cX0_init 21 = .ok (.putfield 21, 3) := by decide +kernel
theorem dX0_init_24 : decode cX0_init 24 = .ok (.return_, 1) := by decide +kernel
theorem dX0_size_0 : decode cX0_size 0 = .ok (.aload_n 0, 1) := by decide +kernel
theorem dX0_size_1 : decode cX0_size 1 = .ok (.getfield 21, 3) := by decide +kernel
theorem dX0_size_4 : decode cX0_size 4 = .ok (.ireturn, 1) := by decide +kernel
theorem dX0_slotAt_0 : decode cX0_slotAt 0 = .ok (.aload_n 0, 1) := by decide +kernel
theorem dX0_slotAt_1 : decode cX0_slotAt 1 = .ok (.getfield 18, 3) := by decide +kernel
theorem dX0_slotAt_4 : decode cX0_slotAt 4 = .ok (.iload_n 1, 1) := by decide +kernel
theorem dX0_slotAt_5 : decode cX0_slotAt 5 = .ok (.iadd, 1) := by decide +kernel
theorem dX0_slotAt_6 : decode cX0_slotAt 6 = .ok (.bipush 7, 2) := by decide +kernel
theorem dX0_slotAt_8 : decode cX0_slotAt 8 = .ok (.iand, 1) := by decide +kernel
theorem dX0_slotAt_9 : decode cX0_slotAt 9 = .ok (.ireturn, 1) := by decide +kernel
set_option maxRecDepth 20000 in
theorem ggX0_pageAt_X0_slotAt : GoodIn wsX0_pageAt wsX0_slotAt := goodIn_r _ [6, 7, 8, 9, 10, 11] (by decide +kernel) (by decide +kernel)
set_option maxRecDepth 20000 in
theorem gX0_pageAt_X0_slotAt : GoodIn wsX0_pageAt (wsV RX0 24 RX0 yX0_slotAt wsX0_slotAt) := goodIn_app (goodIn_of _ (by decide +kernel)) ggX0_pageAt_X0_slotAt
theorem dX0_pageAt_0 : decode cX0_pageAt 0 = .ok (.aload_n 0, 1) := by decide +kernel
theorem dX0_pageAt_1 : decode cX0_pageAt 1 = .ok (.getfield 15, 3) := by decide +kernel
theorem dX0_pageAt_4 : decode cX0_pageAt 4 = .ok (.aload_n 0, 1) := by decide +kernel
theorem dX0_pageAt_5 : decode cX0_pageAt 5 = .ok (.iload_n 1, 1) := by decide +kernel
theorem dX0_pageAt_6 : decode cX0_pageAt 6 = .ok (.invokevirtual 24, 3) := by decide +kernel
theorem dX0_pageAt_9 : decode cX0_pageAt 9 = .ok (.iadd, 1) := by decide +kernel
theorem dX0_pageAt_10 : decode cX0_pageAt 10 = .ok (.ireturn, 1) := by decide +kernel
set_option maxRecDepth 20000 in
theorem ggX0_bufferAt_X0_pageAt : GoodIn wsX0_bufferAt wsX0_pageAt := goodIn_r _ [5, 6, 7, 8, 9, 4, 10, 11, 12, 13, 14, 15] (by decide +kernel) (by decide +kernel)
set_option maxRecDepth 20000 in
theorem gX0_bufferAt_X0_pageAt : GoodIn wsX0_bufferAt (wsV RX0 28 RX0 yX0_pageAt wsX0_pageAt) := goodIn_app (goodIn_of _ (by decide +kernel)) ggX0_bufferAt_X0_pageAt
theorem dX0_bufferAt_0 : decode cX0_bufferAt 0 = .ok (.bipush 16, 2) := by decide +kernel
theorem dX0_bufferAt_2 : decode cX0_bufferAt 2 = .ok (.aload_n 0, 1) := by decide +kernel
theorem dX0_bufferAt_3 : decode cX0_bufferAt 3 = .ok (.iload_n 1, 1) := by decide +kernel
theorem dX0_bufferAt_4 : decode cX0_bufferAt 4 = .ok (.invokevirtual 28, 3) := by decide +kernel
theorem dX0_bufferAt_7 : decode cX0_bufferAt 7 = .ok (.imul, 1) := by decide +kernel
theorem dX0_bufferAt_8 : decode cX0_bufferAt 8 = .ok (.ireturn, 1) := by decide +kernel
set_option maxRecDepth 20000 in
theorem ggX0_descriptorAt_X0_slotAt : GoodIn wsX0_descriptorAt wsX0_slotAt := goodIn_r _ [6, 7, 8, 9, 10, 11] (by decide +kernel) (by decide +kernel)
set_option maxRecDepth 20000 in
theorem gX0_descriptorAt_X0_slotAt : GoodIn wsX0_descriptorAt (wsV RX0 24 RX0 yX0_slotAt wsX0_slotAt) := goodIn_app (goodIn_of _ (by decide +kernel)) ggX0_descriptorAt_X0_slotAt
theorem dX0_descriptorAt_0 : decode cX0_descriptorAt 0 = .ok (.aload_n 0, 1) := by decide +kernel
theorem dX0_descriptorAt_1 : decode cX0_descriptorAt 1 = .ok (.getfield 9, 3) := by decide +kernel
theorem dX0_descriptorAt_4 : decode cX0_descriptorAt 4 = .ok (.bipush 8, 2) := by decide +kernel
theorem dX0_descriptorAt_6 : decode cX0_descriptorAt 6 = .ok (.aload_n 0, 1) := by decide +kernel
theorem dX0_descriptorAt_7 : decode cX0_descriptorAt 7 = .ok (.iload_n 1, 1) := by decide +kernel
theorem dX0_descriptorAt_8 : decode cX0_descriptorAt 8 = .ok (.invokevirtual 24, 3) := by decide +kernel
theorem dX0_descriptorAt_11 : decode cX0_descriptorAt 11 = .ok (.imul, 1) := by decide +kernel
theorem dX0_descriptorAt_12 : decode cX0_descriptorAt 12 = .ok (.iadd, 1) := by decide +kernel
theorem dX0_descriptorAt_13 : decode cX0_descriptorAt 13 = .ok (.ireturn, 1) := by decide +kernel
theorem dX0_hasPostedPage_0 : decode cX0_hasPostedPage 0 = .ok (.iload_n 1, 1) := by decide +kernel
theorem dX0_hasPostedPage_1 : decode cX0_hasPostedPage 1 = .ok (.aload_n 0, 1) := by decide +kernel
theorem dX0_hasPostedPage_2 : decode cX0_hasPostedPage 2 = .ok (.getfield 15, 3) := by decide +kernel
theorem dX0_hasPostedPage_5 : decode cX0_hasPostedPage 5 = .ok (.isub, 1) := by decide +kernel
theorem dX0_hasPostedPage_6 : decode cX0_hasPostedPage 6 = .ok (.istore_n 2, 1) := by decide +kernel
theorem dX0_hasPostedPage_7 : decode cX0_hasPostedPage 7 = .ok (.iload_n 2, 1) := by decide +kernel
theorem dX0_hasPostedPage_8 : decode cX0_hasPostedPage 8 = .ok (.ifCond .lt 29, 3) := by decide +kernel
theorem dX0_hasPostedPage_11 : decode cX0_hasPostedPage 11 = .ok (.iload_n 2, 1) := by decide +kernel
theorem dX0_hasPostedPage_12 : decode cX0_hasPostedPage 12 = .ok (.bipush 8, 2) := by decide +kernel
theorem dX0_hasPostedPage_14 : decode cX0_hasPostedPage 14 = .ok (.if_icmp .ge 23, 3) := by decide +kernel
theorem dX0_hasPostedPage_17 : decode cX0_hasPostedPage 17 = .ok (.iload_n 2, 1) := by decide +kernel
theorem dX0_hasPostedPage_18 : decode cX0_hasPostedPage 18 = .ok (.aload_n 0, 1) := by decide +kernel
theorem dX0_hasPostedPage_19 : decode cX0_hasPostedPage 19 = .ok (.getfield 18, 3) := by decide +kernel
theorem dX0_hasPostedPage_22 : decode cX0_hasPostedPage 22 = .ok (.isub, 1) := by decide +kernel
theorem dX0_hasPostedPage_23 : decode cX0_hasPostedPage 23 = .ok (.bipush 7, 2) := by decide +kernel
theorem dX0_hasPostedPage_25 : decode cX0_hasPostedPage 25 = .ok (.iand, 1) := by decide +kernel
theorem dX0_hasPostedPage_26 : decode cX0_hasPostedPage 26 = .ok (.aload_n 0, 1) := by decide +kernel
theorem dX0_hasPostedPage_27 : decode cX0_hasPostedPage 27 = .ok (.getfield 21, 3) := by decide +kernel
theorem dX0_hasPostedPage_30 : decode cX0_hasPostedPage 30 = .ok (.if_icmp .ge 7, 3) := by decide +kernel
theorem dX0_hasPostedPage_33 : decode cX0_hasPostedPage 33 = .ok (.iconst 1, 1) := by decide +kernel
theorem dX0_hasPostedPage_34 : decode cX0_hasPostedPage 34 = .ok (.goto 4, 3) := by decide +kernel
theorem dX0_hasPostedPage_37 : decode cX0_hasPostedPage 37 = .ok (.iconst 0, 1) := by decide +kernel
theorem dX0_hasPostedPage_38 : decode cX0_hasPostedPage 38 = .ok (.ireturn, 1) := by decide +kernel
theorem dX0_addNext_0 : decode cX0_addNext 0 = .ok (.aload_n 0, 1) := by decide +kernel
theorem dX0_addNext_1 : decode cX0_addNext 1 = .ok (.dup, 1) := by decide +kernel
theorem dX0_addNext_2 : decode cX0_addNext 2 = .ok (.getfield 21, 3) := by decide +kernel
theorem dX0_addNext_5 : decode cX0_addNext 5 = .ok (.iconst 1, 1) := by decide +kernel
theorem dX0_addNext_6 : decode cX0_addNext 6 = .ok (.iadd, 1) := by decide +kernel
theorem dX0_addNext_7 : decode cX0_addNext 7 = .ok (.putfield 21, 3) := by decide +kernel
theorem dX0_addNext_10 : decode cX0_addNext 10 = .ok (.return_, 1) := by decide +kernel
set_option maxRecDepth 20000 in
theorem ggX0_removeOldest_X0_slotAt : GoodIn wsX0_removeOldest wsX0_slotAt := goodIn_r _ [7, 1, 8, 9, 10, 11] (by decide +kernel) (by decide +kernel)
set_option maxRecDepth 20000 in
theorem gX0_removeOldest_X0_slotAt : GoodIn wsX0_removeOldest (wsV RX0 24 RX0 yX0_slotAt wsX0_slotAt) := goodIn_app (goodIn_of _ (by decide +kernel)) ggX0_removeOldest_X0_slotAt
theorem dX0_removeOldest_0 : decode cX0_removeOldest 0 = .ok (.aload_n 0, 1) := by decide +kernel
theorem dX0_removeOldest_1 : decode cX0_removeOldest 1 = .ok (.aload_n 0, 1) := by decide +kernel
theorem dX0_removeOldest_2 : decode cX0_removeOldest 2 = .ok (.iconst 1, 1) := by decide +kernel
theorem dX0_removeOldest_3 : decode cX0_removeOldest 3 = .ok (.invokevirtual 24, 3) := by decide +kernel
theorem dX0_removeOldest_6 : decode cX0_removeOldest 6 = .ok (.putfield 18, 3) := by decide +kernel
theorem dX0_removeOldest_9 : decode cX0_removeOldest 9 = .ok (.aload_n 0, 1) := by decide +kernel
theorem dX0_removeOldest_10 : decode cX0_removeOldest 10 = .ok (.dup, 1) := by decide +kernel
theorem dX0_removeOldest_11 : decode cX0_removeOldest 11 = .ok (.getfield 21, 3) := by decide +kernel
theorem dX0_removeOldest_14 : decode cX0_removeOldest 14 = .ok (.iconst 1, 1) := by decide +kernel
theorem dX0_removeOldest_15 : decode cX0_removeOldest 15 = .ok (.isub, 1) := by decide +kernel
theorem dX0_removeOldest_16 : decode cX0_removeOldest 16 = .ok (.putfield 21, 3) := by decide +kernel
theorem dX0_removeOldest_19 : decode cX0_removeOldest 19 = .ok (.return_, 1) := by decide +kernel
theorem dX0_keepOldest_0 : decode cX0_keepOldest 0 = .ok (.aload_n 0, 1) := by decide +kernel
theorem dX0_keepOldest_1 : decode cX0_keepOldest 1 = .ok (.iload_n 1, 1) := by decide +kernel
theorem dX0_keepOldest_2 : decode cX0_keepOldest 2 = .ok (.putfield 21, 3) := by decide +kernel
theorem dX0_keepOldest_5 : decode cX0_keepOldest 5 = .ok (.return_, 1) := by decide +kernel
set_option maxRecDepth 20000 in
theorem ggX1_init_X0_init : GoodIn wsX1_init wsX0_init := goodIn_r _ [16, 17, 2, 3, 18, 19, 20, 21, 28, 29, 30, 31] (by decide +kernel) (by decide +kernel)
set_option maxRecDepth 20000 in
theorem gX1_init_X0_init : GoodIn wsX1_init (wsX0_init) := ggX1_init_X0_init
theorem dX1_init_0 : decode cX1_init 0 = .ok (.aload_n 0, 1) := by decide +kernel
theorem dX1_init_1 : decode cX1_init 1 = .ok (.invokespecial 1, 3) := by decide +kernel
theorem dX1_init_4 : decode cX1_init 4 = .ok (.aload_n 0, 1) := by decide +kernel
theorem dX1_init_5 : decode cX1_init 5 = .ok (.sipush 384, 3) := by decide +kernel
theorem dX1_init_8 : decode cX1_init 8 = .ok (.newarray .int, 2) := by decide +kernel
theorem dX1_init_10 : decode cX1_init 10 = .ok (.putfield 9, 3) := by decide +kernel
theorem dX1_init_13 : decode cX1_init 13 = .ok (.aload_n 0, 1) := by decide +kernel
theorem dX1_init_14 : decode cX1_init 14 = .ok (.bipush 16, 2) := by decide +kernel
theorem dX1_init_16 : decode cX1_init 16 = .ok (.newarray .int, 2) := by decide +kernel
theorem dX1_init_18 : decode cX1_init 18 = .ok (.putfield 13, 3) := by decide +kernel
theorem dX1_init_21 : decode cX1_init 21 = .ok (.aload_n 0, 1) := by decide +kernel
theorem dX1_init_22 : decode cX1_init 22 = .ok (.bipush 16, 2) := by decide +kernel
theorem dX1_init_24 : decode cX1_init 24 = .ok (.newarray .int, 2) := by decide +kernel
theorem dX1_init_26 : decode cX1_init 26 = .ok (.putfield 16, 3) := by decide +kernel
theorem dX1_init_29 : decode cX1_init 29 = .ok (.aload_n 0, 1) := by decide +kernel
theorem dX1_init_30 : decode cX1_init 30 = .ok (.new 19, 3) := by decide +kernel
theorem dX1_init_33 : decode cX1_init 33 = .ok (.dup, 1) := by decide +kernel
theorem dX1_init_34 : decode cX1_init 34 = .ok (.iconst 0, 1) := by decide +kernel
theorem dX1_init_35 : decode cX1_init 35 = .ok (.bipush 8, 2) := by decide +kernel
theorem dX1_init_37 : decode cX1_init 37 = .ok (.invokespecial 21, 3) := by decide +kernel
theorem dX1_init_40 : decode cX1_init 40 = .ok (.putfield 24, 3) := by decide +kernel
theorem dX1_init_43 : decode cX1_init 43 = .ok (.aload_n 0, 1) := by decide +kernel
theorem dX1_init_44 : decode cX1_init 44 = .ok (.new 19, 3) := by decide +kernel
theorem dX1_init_47 : decode cX1_init 47 = .ok (.dup, 1) := by decide +kernel
theorem dX1_init_48 : decode cX1_init 48 = .ok (.bipush 64, 2) := by decide +kernel
theorem dX1_init_50 : decode cX1_init 50 = .ok (.bipush 16, 2) := by decide +kernel
theorem dX1_init_52 : decode cX1_init 52 = .ok (.invokespecial 21, 3) := by decide +kernel
theorem dX1_init_55 : decode cX1_init 55 = .ok (.putfield 28, 3) := by decide +kernel
theorem dX1_init_58 : decode cX1_init 58 = .ok (.aload_n 0, 1) := by decide +kernel
theorem dX1_init_59 : decode cX1_init 59 = .ok (.iconst 0, 1) := by decide +kernel
theorem dX1_init_60 : decode cX1_init 60 = .ok (.putfield 31, 3) := by decide +kernel
theorem dX1_init_63 : decode cX1_init 63 = .ok (.return_, 1) := by decide +kernel
set_option maxRecDepth 20000 in
theorem ggX1_deviceRead_X1_isOpen : GoodIn wsX1_deviceRead wsX1_isOpen := goodIn_r _ [6, 7, 8, 9, 10, 11, 12, 13, 14, 26, 27, 28, 29] (by decide +kernel) (by decide +kernel)
set_option maxRecDepth 20000 in
theorem gX1_deviceRead_X1_isOpen : GoodIn wsX1_deviceRead (va_wsS RX1 35 yX1_isOpen wsX1_isOpen) := goodIn_app (goodIn_of _ (by decide +kernel)) ggX1_deviceRead_X1_isOpen
set_option maxRecDepth 20000 in
theorem ggX1_deviceRead_X1_fault : GoodIn wsX1_deviceRead wsX1_fault := goodIn_r _ [18, 19, 20, 21, 22, 23, 24, 25] (by decide +kernel) (by decide +kernel)
set_option maxRecDepth 20000 in
theorem gX1_deviceRead_X1_fault : GoodIn wsX1_deviceRead (wsV RX1 39 RX1 yX1_fault wsX1_fault) := goodIn_app (goodIn_of _ (by decide +kernel)) ggX1_deviceRead_X1_fault
theorem dX1_deviceRead_0 : decode cX1_deviceRead 0 = .ok (.iload_n 1, 1) := by decide +kernel
theorem dX1_deviceRead_1 : decode cX1_deviceRead 1 = .ok (.ifCond .lt 21, 3) := by decide +kernel
theorem dX1_deviceRead_4 : decode cX1_deviceRead 4 = .ok (.iload_n 1, 1) := by decide +kernel
theorem dX1_deviceRead_5 : decode cX1_deviceRead 5 = .ok (.sipush 384, 3) := by decide +kernel
theorem dX1_deviceRead_8 : decode cX1_deviceRead 8 = .ok (.if_icmp .ge 14, 3) := by decide +kernel
theorem dX1_deviceRead_11 : decode cX1_deviceRead 11 = .ok (.iload_n 1, 1) := by decide +kernel
theorem dX1_deviceRead_12 : decode cX1_deviceRead 12 = .ok (.aload_n 0, 1) := by decide +kernel
theorem dX1_deviceRead_13 : decode cX1_deviceRead 13 = .ok (.getfield 24, 3) := by decide +kernel
theorem dX1_deviceRead_16 : decode cX1_deviceRead 16 = .ok (.invokestatic 35, 3) := by decide +kernel
theorem dX1_deviceRead_19 : decode cX1_deviceRead 19 = .ok (.ifCond .ne 8, 3) := by decide +kernel
theorem dX1_deviceRead_22 : decode cX1_deviceRead 22 = .ok (.aload_n 0, 1) := by decide +kernel
theorem dX1_deviceRead_23 : decode cX1_deviceRead 23 = .ok (.invokevirtual 39, 3) := by decide +kernel
theorem dX1_deviceRead_26 : decode cX1_deviceRead 26 = .ok (.ireturn, 1) := by decide +kernel
theorem dX1_deviceRead_27 : decode cX1_deviceRead 27 = .ok (.aload_n 0, 1) := by decide +kernel
theorem dX1_deviceRead_28 : decode cX1_deviceRead 28 = .ok (.getfield 9, 3) := by decide +kernel
theorem dX1_deviceRead_31 : decode cX1_deviceRead 31 = .ok (.iload_n 1, 1) := by decide +kernel
theorem dX1_deviceRead_32 : decode cX1_deviceRead 32 = .ok (.iaload, 1) := by decide +kernel
theorem dX1_deviceRead_33 : decode cX1_deviceRead 33 = .ok (.ireturn, 1) := by decide +kernel
set_option maxRecDepth 20000 in
theorem ggX1_deviceWrite_X1_isOpen : GoodIn wsX1_deviceWrite wsX1_isOpen := goodIn_r _ [6, 7, 8, 9, 10, 11, 12, 13, 14, 26, 27, 28, 29] (by decide +kernel) (by decide +kernel)
set_option maxRecDepth 20000 in
theorem gX1_deviceWrite_X1_isOpen : GoodIn wsX1_deviceWrite (va_wsS RX1 35 yX1_isOpen wsX1_isOpen) := goodIn_app (goodIn_of _ (by decide +kernel)) ggX1_deviceWrite_X1_isOpen
set_option maxRecDepth 20000 in
theorem ggX1_deviceWrite_X1_fault : GoodIn wsX1_deviceWrite wsX1_fault := goodIn_r _ [18, 19, 20, 21, 22, 23, 24, 25] (by decide +kernel) (by decide +kernel)
set_option maxRecDepth 20000 in
theorem gX1_deviceWrite_X1_fault : GoodIn wsX1_deviceWrite (wsV RX1 39 RX1 yX1_fault wsX1_fault) := goodIn_app (goodIn_of _ (by decide +kernel)) ggX1_deviceWrite_X1_fault
theorem dX1_deviceWrite_0 : decode cX1_deviceWrite 0 = .ok (.iload_n 1, 1) := by decide +kernel
theorem dX1_deviceWrite_1 : decode cX1_deviceWrite 1 = .ok (.ifCond .lt 21, 3) := by decide +kernel
theorem dX1_deviceWrite_4 : decode cX1_deviceWrite 4 = .ok (.iload_n 1, 1) := by decide +kernel
theorem dX1_deviceWrite_5 : decode cX1_deviceWrite 5 = .ok (.sipush 384, 3) := by decide +kernel
theorem dX1_deviceWrite_8 : decode cX1_deviceWrite 8 = .ok (.if_icmp .ge 14, 3) := by decide +kernel
theorem dX1_deviceWrite_11 : decode cX1_deviceWrite 11 = .ok (.iload_n 1, 1) := by decide +kernel
theorem dX1_deviceWrite_12 : decode cX1_deviceWrite 12 = .ok (.aload_n 0, 1) := by decide +kernel
theorem dX1_deviceWrite_13 : decode cX1_deviceWrite 13 = .ok (.getfield 28, 3) := by decide +kernel
theorem dX1_deviceWrite_16 : decode cX1_deviceWrite 16 = .ok (.invokestatic 35, 3) := by decide +kernel
theorem dX1_deviceWrite_19 : decode cX1_deviceWrite 19 = .ok (.ifCond .ne 8, 3) := by decide +kernel
theorem dX1_deviceWrite_22 : decode cX1_deviceWrite 22 = .ok (.aload_n 0, 1) := by decide +kernel
theorem dX1_deviceWrite_23 : decode cX1_deviceWrite 23 = .ok (.invokevirtual 39, 3) := by decide +kernel
theorem dX1_deviceWrite_26 : decode cX1_deviceWrite 26 = .ok (.ireturn, 1) := by decide +kernel
theorem dX1_deviceWrite_27 : decode cX1_deviceWrite 27 = .ok (.aload_n 0, 1) := by decide +kernel
theorem dX1_deviceWrite_28 : decode cX1_deviceWrite 28 = .ok (.getfield 9, 3) := by decide +kernel
theorem dX1_deviceWrite_31 : decode cX1_deviceWrite 31 = .ok (.iload_n 1, 1) := by decide +kernel
theorem dX1_deviceWrite_32 : decode cX1_deviceWrite 32 = .ok (.iload_n 2, 1) := by decide +kernel
theorem dX1_deviceWrite_33 : decode cX1_deviceWrite 33 = .ok (.sipush 255, 3) := by decide +kernel
theorem dX1_deviceWrite_36 : decode cX1_deviceWrite 36 = .ok (.iand, 1) := by decide +kernel
theorem dX1_deviceWrite_37 : decode cX1_deviceWrite 37 = .ok (.iastore, 1) := by decide +kernel
theorem dX1_deviceWrite_38 : decode cX1_deviceWrite 38 = .ok (.iconst 0, 1) := by decide +kernel
theorem dX1_deviceWrite_39 : decode cX1_deviceWrite 39 = .ok (.ireturn, 1) := by decide +kernel
theorem dX1_faults_0 : decode cX1_faults 0 = .ok (.aload_n 0, 1) := by decide +kernel
theorem dX1_faults_1 : decode cX1_faults 1 = .ok (.getfield 31, 3) := by decide +kernel
theorem dX1_faults_4 : decode cX1_faults 4 = .ok (.ireturn, 1) := by decide +kernel
theorem dX1_load_0 : decode cX1_load 0 = .ok (.iload_n 1, 1) := by decide +kernel
theorem dX1_load_1 : decode cX1_load 1 = .ok (.ifCond .lt 9, 3) := by decide +kernel
theorem dX1_load_4 : decode cX1_load 4 = .ok (.iload_n 1, 1) := by decide +kernel
theorem dX1_load_5 : decode cX1_load 5 = .ok (.bipush 16, 2) := by decide +kernel
theorem dX1_load_7 : decode cX1_load 7 = .ok (.if_icmp .lt 5, 3) := by decide +kernel
theorem dX1_load_10 : decode cX1_load 10 = .ok (.iconst 0, 1) := by decide +kernel
theorem dX1_load_11 : decode cX1_load 11 = .ok (.ireturn, 1) := by decide +kernel
theorem dX1_load_12 : decode cX1_load 12 = .ok (.aload_n 0, 1) := by decide +kernel
theorem dX1_load_13 : decode cX1_load 13 = .ok (.getfield 13, 3) := by decide +kernel
theorem dX1_load_16 : decode cX1_load 16 = .ok (.iload_n 1, 1) := by decide +kernel
theorem dX1_load_17 : decode cX1_load 17 = .ok (.iload_n 2, 1) := by decide +kernel
theorem dX1_load_18 : decode cX1_load 18 = .ok (.sipush 255, 3) := by decide +kernel
theorem dX1_load_21 : decode cX1_load 21 = .ok (.iand, 1) := by decide +kernel
theorem dX1_load_22 : decode cX1_load 22 = .ok (.iastore, 1) := by decide +kernel
theorem dX1_load_23 : decode cX1_load 23 = .ok (.iconst 1, 1) := by decide +kernel
theorem dX1_load_24 : decode cX1_load 24 = .ok (.ireturn, 1) := by decide +kernel
set_option maxRecDepth 20000 in
theorem ggX1_send_X1_isFrameLength : GoodIn wsX1_send wsX1_isFrameLength := goodIn_r _ [5] (by decide +kernel) (by decide +kernel)
set_option maxRecDepth 20000 in
theorem gX1_send_X1_isFrameLength : GoodIn wsX1_send (va_wsS RX1 43 yX1_isFrameLength wsX1_isFrameLength) := goodIn_app (goodIn_of _ (by decide +kernel)) ggX1_send_X1_isFrameLength
set_option maxRecDepth 20000 in
theorem ggX1_send_X1_postNext : GoodIn wsX1_send wsX1_postNext := goodIn_r _ [9, 10, 11, 12, 13, 14, 15, 16, 17, 18, 19, 20, 21, 22, 23, 24, 25, 26, 27, 28, 29, 30, 31, 32, 4, 33, 34, 35, 36, 37, 38, 39, 40, 41, 42, 43, 44, 45, 46, 47, 48, 49, 50, 57, 58, 59, 60, 51, 52, 53, 54, 55, 56] (by decide +kernel) (by decide +kernel)
set_option maxRecDepth 20000 in
theorem gX1_send_X1_postNext : GoodIn wsX1_send (wsV RX1 47 RX1 yX1_postNext wsX1_postNext) := goodIn_app (goodIn_of _ (by decide +kernel)) ggX1_send_X1_postNext
theorem dX1_send_0 : decode cX1_send 0 = .ok (.iload_n 1, 1) := by decide +kernel
theorem dX1_send_1 : decode cX1_send 1 = .ok (.invokestatic 43, 3) := by decide +kernel
theorem dX1_send_4 : decode cX1_send 4 = .ok (.ifCond .ne 6, 3) := by decide +kernel
theorem dX1_send_7 : decode cX1_send 7 = .ok (.bipush (-2), 2) := by decide +kernel
theorem dX1_send_9 : decode cX1_send 9 = .ok (.ireturn, 1) := by decide +kernel
theorem dX1_send_10 : decode cX1_send 10 = .ok (.aload_n 0, 1) := by decide +kernel
theorem dX1_send_11 : decode cX1_send 11 = .ok (.aload_n 0, 1) := by decide +kernel
theorem dX1_send_12 : decode cX1_send 12 = .ok (.getfield 24, 3) := by decide +kernel
theorem dX1_send_15 : decode cX1_send 15 = .ok (.iload_n 1, 1) := by decide +kernel
theorem dX1_send_16 : decode cX1_send 16 = .ok (.invokevirtual 47, 3) := by decide +kernel
theorem dX1_send_19 : decode cX1_send 19 = .ok (.ireturn, 1) := by decide +kernel
set_option maxRecDepth 20000 in
theorem ggX1_reclaim_X1_isGivenBack : GoodIn wsX1_reclaim wsX1_isGivenBack := goodIn_r _ [6, 7, 8, 9, 10, 11, 12, 13, 14, 15, 16, 17, 18, 19, 20, 21, 22, 23, 28, 29, 30, 31, 32, 33, 34, 35, 36, 37] (by decide +kernel) (by decide +kernel)
set_option maxRecDepth 20000 in
theorem gX1_reclaim_X1_isGivenBack : GoodIn wsX1_reclaim (wsV RX1 51 RX1 yX1_isGivenBack wsX1_isGivenBack) := goodIn_app (goodIn_of _ (by decide +kernel)) ggX1_reclaim_X1_isGivenBack
set_option maxRecDepth 20000 in
theorem ggX1_reclaim_X0_removeOldest : GoodIn wsX1_reclaim wsX0_removeOldest := goodIn_r _ [27, 23, 13, 19, 20, 21, 11, 22, 34, 35, 36, 37] (by decide +kernel) (by decide +kernel)
set_option maxRecDepth 20000 in
theorem gX1_reclaim_X0_removeOldest : GoodIn wsX1_reclaim (wsV RX1 55 RX0 yX0_removeOldest wsX0_removeOldest) := goodIn_app (goodIn_of _ (by decide +kernel)) ggX1_reclaim_X0_removeOldest
theorem dX1_reclaim_0 : decode cX1_reclaim 0 = .ok (.iconst 0, 1) := by decide +kernel
theorem dX1_reclaim_1 : decode cX1_reclaim 1 = .ok (.istore_n 1, 1) := by decide +kernel
theorem dX1_reclaim_2 : decode cX1_reclaim 2 = .ok (.iload_n 1, 1) := by decide +kernel
theorem dX1_reclaim_3 : decode cX1_reclaim 3 = .ok (.bipush 8, 2) := by decide +kernel
theorem dX1_reclaim_5 : decode cX1_reclaim 5 = .ok (.if_icmp .ge 28, 3) := by decide +kernel
theorem dX1_reclaim_8 : decode cX1_reclaim 8 = .ok (.aload_n 0, 1) := by decide +kernel
theorem dX1_reclaim_9 : decode cX1_reclaim 9 = .ok (.aload_n 0, 1) := by decide +kernel
theorem dX1_reclaim_10 : decode cX1_reclaim 10 = .ok (.getfield 24, 3) := by decide +kernel
theorem dX1_reclaim_13 : decode cX1_reclaim 13 = .ok (.iconst 0, 1) := by decide +kernel
theorem dX1_reclaim_14 : decode cX1_reclaim 14 = .ok (.invokevirtual 51, 3) := by decide +kernel
theorem dX1_reclaim_17 : decode cX1_reclaim 17 = .ok (.ifCond .eq 16, 3) := by decide +kernel
theorem dX1_reclaim_20 : decode cX1_reclaim 20 = .ok (.aload_n 0, 1) := by decide +kernel
theorem dX1_reclaim_21 : decode cX1_reclaim 21 = .ok (.getfield 24, 3) := by decide +kernel
theorem dX1_reclaim_24 : decode cX1_reclaim 24 = .ok (.invokevirtual 55, 3) := by decide +kernel
theorem dX1_reclaim_27 : decode cX1_reclaim 27 = .ok (.iinc 1 1, 3) := by decide +kernel
theorem dX1_reclaim_30 : decode cX1_reclaim 30 = .ok (.goto (-28), 3) := by decide +kernel
theorem dX1_reclaim_33 : decode cX1_reclaim 33 = .ok (.iload_n 1, 1) := by decide +kernel
theorem dX1_reclaim_34 : decode cX1_reclaim 34 = .ok (.ireturn, 1) := by decide +kernel
set_option maxRecDepth 20000 in
theorem ggX1_revoke_X1_reclaim : GoodIn wsX1_revoke wsX1_reclaim := goodIn_r _ [6, 1, 7, 8, 9, 5, 10, 11, 12, 13, 14, 15, 16, 17, 18, 19, 20, 21, 22, 23, 24, 25, 26, 27, 28, 29, 30, 31, 40, 41, 42, 43, 44, 45, 46, 47, 48, 49] (by decide +kernel) (by decide +kernel)
set_option maxRecDepth 20000 in
theorem gX1_revoke_X1_reclaim : GoodIn wsX1_revoke (wsV RX1 58 RX1 yX1_reclaim wsX1_reclaim) := goodIn_app (goodIn_of _ (by decide +kernel)) ggX1_revoke_X1_reclaim
set_option maxRecDepth 20000 in
theorem ggX1_revoke_X1_closeAllBehind : GoodIn wsX1_revoke wsX1_closeAllBehind := goodIn_r _ [35, 11, 12, 13, 14, 15, 16, 17, 18, 19, 20, 21, 22, 23, 24, 25, 26, 27, 36, 37, 38, 39, 40, 41, 42, 43, 44, 45, 46, 47, 48, 49] (by decide +kernel) (by decide +kernel)
set_option maxRecDepth 20000 in
theorem gX1_revoke_X1_closeAllBehind : GoodIn wsX1_revoke (wsV RX1 61 RX1 yX1_closeAllBehind wsX1_closeAllBehind) := goodIn_app (goodIn_of _ (by decide +kernel)) ggX1_revoke_X1_closeAllBehind
theorem dX1_revoke_0 : decode cX1_revoke 0 = .ok (.aload_n 0, 1) := by decide +kernel
theorem dX1_revoke_1 : decode cX1_revoke 1 = .ok (.invokevirtual 58, 3) := by decide +kernel
theorem dX1_revoke_4 : decode cX1_revoke 4 = .ok (.pop, 1) := by decide +kernel
theorem dX1_revoke_5 : decode cX1_revoke 5 = .ok (.aload_n 0, 1) := by decide +kernel
theorem dX1_revoke_6 : decode cX1_revoke 6 = .ok (.aload_n 0, 1) := by decide +kernel
theorem dX1_revoke_7 : decode cX1_revoke 7 = .ok (.getfield 24, 3) := by decide +kernel
theorem dX1_revoke_10 : decode cX1_revoke 10 = .ok (.iconst 0, 1) := by decide +kernel
theorem dX1_revoke_11 : decode cX1_revoke 11 = .ok (.invokevirtual 61, 3) := by decide +kernel
theorem dX1_revoke_14 : decode cX1_revoke 14 = .ok (.ireturn, 1) := by decide +kernel
set_option maxRecDepth 20000 in
theorem ggX1_post_X1_postNext : GoodIn wsX1_post wsX1_postNext := goodIn_r _ [6, 7, 8, 9, 10, 11, 12, 13, 14, 15, 16, 17, 18, 19, 20, 21, 22, 23, 24, 25, 26, 27, 28, 29, 5, 30, 31, 32, 33, 34, 35, 36, 37, 38, 39, 40, 41, 42, 43, 44, 45, 46, 47, 54, 55, 56, 57, 48, 49, 50, 51, 52, 53] (by decide +kernel) (by decide +kernel)
set_option maxRecDepth 20000 in
theorem gX1_post_X1_postNext : GoodIn wsX1_post (wsV RX1 47 RX1 yX1_postNext wsX1_postNext) := goodIn_app (goodIn_of _ (by decide +kernel)) ggX1_post_X1_postNext
theorem dX1_post_0 : decode cX1_post 0 = .ok (.aload_n 0, 1) := by decide +kernel
theorem dX1_post_1 : decode cX1_post 1 = .ok (.aload_n 0, 1) := by decide +kernel
theorem dX1_post_2 : decode cX1_post 2 = .ok (.getfield 28, 3) := by decide +kernel
theorem dX1_post_5 : decode cX1_post 5 = .ok (.iconst 0, 1) := by decide +kernel
theorem dX1_post_6 : decode cX1_post 6 = .ok (.invokevirtual 47, 3) := by decide +kernel
theorem dX1_post_9 : decode cX1_post 9 = .ok (.ireturn, 1) := by decide +kernel
set_option maxRecDepth 20000 in
theorem ggX1_receive_X1_isGivenBack : GoodIn wsX1_receive wsX1_isGivenBack := goodIn_r _ [8, 2, 9, 10, 11, 12, 13, 14, 15, 16, 17, 18, 19, 20, 21, 22, 23, 24, 41, 42, 43, 44, 45, 46, 47, 48, 49, 50] (by decide +kernel) (by decide +kernel)
set_option maxRecDepth 20000 in
theorem gX1_receive_X1_isGivenBack : GoodIn wsX1_receive (wsV RX1 51 RX1 yX1_isGivenBack wsX1_isGivenBack) := goodIn_app (goodIn_of _ (by decide +kernel)) ggX1_receive_X1_isGivenBack
set_option maxRecDepth 20000 in
theorem ggX1_receive_X0_descriptorAt : GoodIn wsX1_receive wsX0_descriptorAt := goodIn_r _ [18, 19, 20, 21, 22, 12, 23, 24, 47, 48, 49, 50] (by decide +kernel) (by decide +kernel)
set_option maxRecDepth 20000 in
theorem gX1_receive_X0_descriptorAt : GoodIn wsX1_receive (wsV RX1 64 RX0 yX0_descriptorAt wsX0_descriptorAt) := goodIn_app (goodIn_of _ (by decide +kernel)) ggX1_receive_X0_descriptorAt
set_option maxRecDepth 20000 in
theorem ggX1_receive_X0_bufferAt : GoodIn wsX1_receive wsX0_bufferAt := goodIn_r _ [28, 29, 30, 31, 12, 32, 33, 20, 21, 22, 23, 24, 47, 48, 49, 50] (by decide +kernel) (by decide +kernel)
set_option maxRecDepth 20000 in
theorem gX1_receive_X0_bufferAt : GoodIn wsX1_receive (wsV RX1 68 RX0 yX0_bufferAt wsX0_bufferAt) := goodIn_app (goodIn_of _ (by decide +kernel)) ggX1_receive_X0_bufferAt
set_option maxRecDepth 20000 in
theorem ggX1_receive_X0_removeOldest : GoodIn wsX1_receive wsX0_removeOldest := goodIn_r _ [37, 24, 14, 20, 21, 22, 12, 23, 47, 48, 49, 50] (by decide +kernel) (by decide +kernel)
set_option maxRecDepth 20000 in
theorem gX1_receive_X0_removeOldest : GoodIn wsX1_receive (wsV RX1 55 RX0 yX0_removeOldest wsX0_removeOldest) := goodIn_app (goodIn_of _ (by decide +kernel)) ggX1_receive_X0_removeOldest
set_option maxRecDepth 20000 in
theorem ggX1_receive_X1_isFrameLength : GoodIn wsX1_receive wsX1_isFrameLength := goodIn_r _ [40] (by decide +kernel) (by decide +kernel)
set_option maxRecDepth 20000 in
theorem gX1_receive_X1_isFrameLength : GoodIn wsX1_receive (va_wsS RX1 43 yX1_isFrameLength wsX1_isFrameLength) := goodIn_app (goodIn_of _ (by decide +kernel)) ggX1_receive_X1_isFrameLength
theorem dX1_receive_0 : decode cX1_receive 0 = .ok (.aload_n 0, 1) := by decide +kernel
theorem dX1_receive_1 : decode cX1_receive 1 = .ok (.aload_n 0, 1) := by decide +kernel
theorem dX1_receive_2 : decode cX1_receive 2 = .ok (.getfield 28, 3) := by decide +kernel
theorem dX1_receive_5 : decode cX1_receive 5 = .ok (.iconst 0, 1) := by decide +kernel
theorem dX1_receive_6 : decode cX1_receive 6 = .ok (.invokevirtual 51, 3) := by decide +kernel
theorem dX1_receive_9 : decode cX1_receive 9 = .ok (.ifCond .ne 5, 3) := by decide +kernel
theorem dX1_receive_12 : decode cX1_receive 12 = .ok (.iconst (-1), 1) := by decide +kernel
theorem dX1_receive_13 : decode cX1_receive 13 = .ok (.ireturn, 1) := by decide +kernel
theorem dX1_receive_14 : decode cX1_receive 14 = .ok (.aload_n 0, 1) := by decide +kernel
theorem dX1_receive_15 : decode cX1_receive 15 = .ok (.getfield 9, 3) := by decide +kernel
theorem dX1_receive_18 : decode cX1_receive 18 = .ok (.aload_n 0, 1) := by decide +kernel
theorem dX1_receive_19 : decode cX1_receive 19 = .ok (.getfield 28, 3) := by decide +kernel
theorem dX1_receive_22 : decode cX1_receive 22 = .ok (.iconst 0, 1) := by decide +kernel
theorem dX1_receive_23 : decode cX1_receive 23 = .ok (.invokevirtual 64, 3) := by decide +kernel
theorem dX1_receive_26 : decode cX1_receive 26 = .ok (.iconst 1, 1) := by decide +kernel
theorem dX1_receive_27 : decode cX1_receive 27 = .ok (.iadd, 1) := by decide +kernel
theorem dX1_receive_28 : decode cX1_receive 28 = .ok (.iaload, 1) := by decide +kernel
theorem dX1_receive_29 : decode cX1_receive 29 = .ok (.istore_n 1, 1) := by decide +kernel
theorem dX1_receive_30 : decode cX1_receive 30 = .ok (.aload_n 0, 1) := by decide +kernel
theorem dX1_receive_31 : decode cX1_receive 31 = .ok (.getfield 28, 3) := by decide +kernel
theorem dX1_receive_34 : decode cX1_receive 34 = .ok (.iconst 0, 1) := by decide +kernel
theorem dX1_receive_35 : decode cX1_receive 35 = .ok (.invokevirtual 68, 3) := by decide +kernel
theorem dX1_receive_38 : decode cX1_receive 38 = .ok (.istore_n 2, 1) := by decide +kernel
theorem dX1_receive_39 : decode cX1_receive 39 = .ok (.aload_n 0, 1) := by decide +kernel
theorem dX1_receive_40 : decode cX1_receive 40 = .ok (.getfield 28, 3) := by decide +kernel
theorem dX1_receive_43 : decode cX1_receive 43 = .ok (.invokevirtual 55, 3) := by decide +kernel
theorem dX1_receive_46 : decode cX1_receive 46 = .ok (.iload_n 1, 1) := by decide +kernel
theorem dX1_receive_47 : decode cX1_receive 47 = .ok (.invokestatic 43, 3) := by decide +kernel
theorem dX1_receive_50 : decode cX1_receive 50 = .ok (.ifCond .ne 6, 3) := by decide +kernel
theorem dX1_receive_53 : decode cX1_receive 53 = .ok (.bipush (-3), 2) := by decide +kernel
theorem dX1_receive_55 : decode cX1_receive 55 = .ok (.ireturn, 1) := by decide +kernel
theorem dX1_receive_56 : decode cX1_receive 56 = .ok (.iconst 0, 1) := by decide +kernel
theorem dX1_receive_57 : decode cX1_receive 57 = .ok (.istore_n 3, 1) := by decide +kernel
theorem dX1_receive_58 : decode cX1_receive 58 = .ok (.iload_n 3, 1) := by decide +kernel
theorem dX1_receive_59 : decode cX1_receive 59 = .ok (.iload_n 1, 1) := by decide +kernel
theorem dX1_receive_60 : decode cX1_receive 60 = .ok (.if_icmp .ge 23, 3) := by decide +kernel
theorem dX1_receive_63 : decode cX1_receive 63 = .ok (.aload_n 0, 1) := by decide +kernel
theorem dX1_receive_64 : decode cX1_receive 64 = .ok (.getfield 16, 3) := by decide +kernel
theorem dX1_receive_67 : decode cX1_receive 67 = .ok (.iload_n 3, 1) := by decide +kernel
theorem dX1_receive_68 : decode cX1_receive 68 = .ok (.aload_n 0, 1) := by decide +kernel
theorem dX1_receive_69 : decode cX1_receive 69 = .ok (.getfield 9, 3) := by decide +kernel
theorem dX1_receive_72 : decode cX1_receive 72 = .ok (.iload_n 2, 1) := by decide +kernel
theorem dX1_receive_73 : decode cX1_receive 73 = .ok (.iload_n 3, 1) := by decide +kernel
theorem dX1_receive_74 : decode cX1_receive 74 = .ok (.iadd, 1) := by decide +kernel
theorem dX1_receive_75 : decode cX1_receive 75 = .ok (.iaload, 1) := by decide +kernel
theorem dX1_receive_76 : decode cX1_receive 76 = .ok (.iastore, 1) := by decide +kernel
theorem dX1_receive_77 : decode cX1_receive 77 = .ok (.iinc 3 1, 3) := by decide +kernel
theorem dX1_receive_80 : decode cX1_receive 80 = .ok (.goto (-22), 3) := by decide +kernel
theorem dX1_receive_83 : decode cX1_receive 83 = .ok (.iload_n 1, 1) := by decide +kernel
theorem dX1_receive_84 : decode cX1_receive 84 = .ok (.ireturn, 1) := by decide +kernel
theorem dX1_taken_0 : decode cX1_taken 0 = .ok (.iload_n 1, 1) := by decide +kernel
theorem dX1_taken_1 : decode cX1_taken 1 = .ok (.ifCond .lt 9, 3) := by decide +kernel
theorem dX1_taken_4 : decode cX1_taken 4 = .ok (.iload_n 1, 1) := by decide +kernel
theorem dX1_taken_5 : decode cX1_taken 5 = .ok (.bipush 16, 2) := by decide +kernel
theorem dX1_taken_7 : decode cX1_taken 7 = .ok (.if_icmp .lt 5, 3) := by decide +kernel
theorem dX1_taken_10 : decode cX1_taken 10 = .ok (.iconst (-1), 1) := by decide +kernel
theorem dX1_taken_11 : decode cX1_taken 11 = .ok (.ireturn, 1) := by decide +kernel
theorem dX1_taken_12 : decode cX1_taken 12 = .ok (.aload_n 0, 1) := by decide +kernel
theorem dX1_taken_13 : decode cX1_taken 13 = .ok (.getfield 16, 3) := by decide +kernel
theorem dX1_taken_16 : decode cX1_taken 16 = .ok (.iload_n 1, 1) := by decide +kernel
theorem dX1_taken_17 : decode cX1_taken 17 = .ok (.iaload, 1) := by decide +kernel
theorem dX1_taken_18 : decode cX1_taken 18 = .ok (.ireturn, 1) := by decide +kernel
set_option maxRecDepth 20000 in
theorem ggX1_withdraw_X1_isGivenBack : GoodIn wsX1_withdraw wsX1_isGivenBack := goodIn_r _ [6, 7, 8, 9, 10, 11, 12, 13, 14, 15, 16, 17, 18, 19, 20, 21, 22, 23, 32, 33, 34, 35, 36, 37, 38, 39, 40, 41] (by decide +kernel) (by decide +kernel)
set_option maxRecDepth 20000 in
theorem gX1_withdraw_X1_isGivenBack : GoodIn wsX1_withdraw (wsV RX1 51 RX1 yX1_isGivenBack wsX1_isGivenBack) := goodIn_app (goodIn_of _ (by decide +kernel)) ggX1_withdraw_X1_isGivenBack
set_option maxRecDepth 20000 in
theorem ggX1_withdraw_X1_closeAllBehind : GoodIn wsX1_withdraw wsX1_closeAllBehind := goodIn_r _ [27, 7, 8, 9, 10, 11, 12, 13, 14, 15, 16, 17, 18, 19, 20, 21, 22, 23, 28, 29, 30, 31, 32, 33, 34, 35, 36, 37, 38, 39, 40, 41] (by decide +kernel) (by decide +kernel)
set_option maxRecDepth 20000 in
theorem gX1_withdraw_X1_closeAllBehind : GoodIn wsX1_withdraw (wsV RX1 61 RX1 yX1_closeAllBehind wsX1_closeAllBehind) := goodIn_app (goodIn_of _ (by decide +kernel)) ggX1_withdraw_X1_closeAllBehind
theorem dX1_withdraw_0 : decode cX1_withdraw 0 = .ok (.iconst 0, 1) := by decide +kernel
theorem dX1_withdraw_1 : decode cX1_withdraw 1 = .ok (.istore_n 1, 1) := by decide +kernel
theorem dX1_withdraw_2 : decode cX1_withdraw 2 = .ok (.iload_n 1, 1) := by decide +kernel
theorem dX1_withdraw_3 : decode cX1_withdraw 3 = .ok (.bipush 8, 2) := by decide +kernel
theorem dX1_withdraw_5 : decode cX1_withdraw 5 = .ok (.if_icmp .ge 21, 3) := by decide +kernel
theorem dX1_withdraw_8 : decode cX1_withdraw 8 = .ok (.aload_n 0, 1) := by decide +kernel
theorem dX1_withdraw_9 : decode cX1_withdraw 9 = .ok (.aload_n 0, 1) := by decide +kernel
theorem dX1_withdraw_10 : decode cX1_withdraw 10 = .ok (.getfield 28, 3) := by decide +kernel
theorem dX1_withdraw_13 : decode cX1_withdraw 13 = .ok (.iload_n 1, 1) := by decide +kernel
theorem dX1_withdraw_14 : decode cX1_withdraw 14 = .ok (.invokevirtual 51, 3) := by decide +kernel
theorem dX1_withdraw_17 : decode cX1_withdraw 17 = .ok (.ifCond .eq 9, 3) := by decide +kernel
theorem dX1_withdraw_20 : decode cX1_withdraw 20 = .ok (.iinc 1 1, 3) := by decide +kernel
theorem dX1_withdraw_23 : decode cX1_withdraw 23 = .ok (.goto (-21), 3) := by decide +kernel
theorem dX1_withdraw_26 : decode cX1_withdraw 26 = .ok (.aload_n 0, 1) := by decide +kernel
theorem dX1_withdraw_27 : decode cX1_withdraw 27 = .ok (.aload_n 0, 1) := by decide +kernel
theorem dX1_withdraw_28 : decode cX1_withdraw 28 = .ok (.getfield 28, 3) := by decide +kernel
theorem dX1_withdraw_31 : decode cX1_withdraw 31 = .ok (.iload_n 1, 1) := by decide +kernel
theorem dX1_withdraw_32 : decode cX1_withdraw 32 = .ok (.invokevirtual 61, 3) := by decide +kernel
theorem dX1_withdraw_35 : decode cX1_withdraw 35 = .ok (.ireturn, 1) := by decide +kernel
set_option maxRecDepth 20000 in
theorem ggX1_sending_X0_size : GoodIn wsX1_sending wsX0_size := goodIn_r _ [6, 7, 14, 15, 16, 17] (by decide +kernel) (by decide +kernel)
set_option maxRecDepth 20000 in
theorem gX1_sending_X0_size : GoodIn wsX1_sending (wsV RX1 71 RX0 yX0_size wsX0_size) := goodIn_app (goodIn_of _ (by decide +kernel)) ggX1_sending_X0_size
theorem dX1_sending_0 : decode cX1_sending 0 = .ok (.aload_n 0, 1) := by decide +kernel
theorem dX1_sending_1 : decode cX1_sending 1 = .ok (.getfield 24, 3) := by decide +kernel
theorem dX1_sending_4 : decode cX1_sending 4 = .ok (.invokevirtual 71, 3) := by decide +kernel
theorem dX1_sending_7 : decode cX1_sending 7 = .ok (.ireturn, 1) := by decide +kernel
set_option maxRecDepth 20000 in
theorem ggX1_receiving_X0_size : GoodIn wsX1_receiving wsX0_size := goodIn_r _ [6, 7, 14, 15, 16, 17] (by decide +kernel) (by decide +kernel)
set_option maxRecDepth 20000 in
theorem gX1_receiving_X0_size : GoodIn wsX1_receiving (wsV RX1 71 RX0 yX0_size wsX0_size) := goodIn_app (goodIn_of _ (by decide +kernel)) ggX1_receiving_X0_size
theorem dX1_receiving_0 : decode cX1_receiving 0 = .ok (.aload_n 0, 1) := by decide +kernel
theorem dX1_receiving_1 : decode cX1_receiving 1 = .ok (.getfield 28, 3) := by decide +kernel
theorem dX1_receiving_4 : decode cX1_receiving 4 = .ok (.invokevirtual 71, 3) := by decide +kernel
theorem dX1_receiving_7 : decode cX1_receiving 7 = .ok (.ireturn, 1) := by decide +kernel
theorem dX1_fault_0 : decode cX1_fault 0 = .ok (.aload_n 0, 1) := by decide +kernel
theorem dX1_fault_1 : decode cX1_fault 1 = .ok (.dup, 1) := by decide +kernel
theorem dX1_fault_2 : decode cX1_fault 2 = .ok (.getfield 31, 3) := by decide +kernel
theorem dX1_fault_5 : decode cX1_fault 5 = .ok (.iconst 1, 1) := by decide +kernel
theorem dX1_fault_6 : decode cX1_fault 6 = .ok (.iadd, 1) := by decide +kernel
theorem dX1_fault_7 : decode cX1_fault 7 = .ok (.putfield 31, 3) := by decide +kernel
theorem dX1_fault_10 : decode cX1_fault 10 = .ok (.iconst (-1), 1) := by decide +kernel
theorem dX1_fault_11 : decode cX1_fault 11 = .ok (.ireturn, 1) := by decide +kernel
set_option maxRecDepth 20000 in
theorem ggX1_isOpen_X0_hasPostedPage : GoodIn wsX1_isOpen wsX0_hasPostedPage := goodIn_r _ [5, 6, 7, 8, 9, 10, 11, 12] (by decide +kernel) (by decide +kernel)
set_option maxRecDepth 20000 in
theorem gX1_isOpen_X0_hasPostedPage : GoodIn wsX1_isOpen (wsV RX1 74 RX0 yX0_hasPostedPage wsX0_hasPostedPage) := goodIn_app (goodIn_of _ (by decide +kernel)) ggX1_isOpen_X0_hasPostedPage
theorem dX1_isOpen_0 : decode cX1_isOpen 0 = .ok (.iload_n 0, 1) := by decide +kernel
theorem dX1_isOpen_1 : decode cX1_isOpen 1 = .ok (.sipush 128, 3) := by decide +kernel
theorem dX1_isOpen_4 : decode cX1_isOpen 4 = .ok (.if_icmp .lt 14, 3) := by decide +kernel
theorem dX1_isOpen_7 : decode cX1_isOpen 7 = .ok (.aload_n 1, 1) := by decide +kernel
theorem dX1_isOpen_8 : decode cX1_isOpen 8 = .ok (.iload_n 0, 1) := by decide +kernel
theorem dX1_isOpen_9 : decode cX1_isOpen 9 = .ok (.bipush 16, 2) := by decide +kernel
theorem dX1_isOpen_11 : decode cX1_isOpen 11 = .ok (.idiv, 1) := by decide +kernel
theorem dX1_isOpen_12 : decode cX1_isOpen 12 = .ok (.invokevirtual 74, 3) := by decide +kernel
theorem dX1_isOpen_15 : decode cX1_isOpen 15 = .ok (.ifCond .eq 7, 3) := by decide +kernel
theorem dX1_isOpen_18 : decode cX1_isOpen 18 = .ok (.iconst 1, 1) := by decide +kernel
theorem dX1_isOpen_19 : decode cX1_isOpen 19 = .ok (.goto 4, 3) := by decide +kernel
theorem dX1_isOpen_22 : decode cX1_isOpen 22 = .ok (.iconst 0, 1) := by decide +kernel
theorem dX1_isOpen_23 : decode cX1_isOpen 23 = .ok (.ireturn, 1) := by decide +kernel
theorem dX1_isFrameLength_0 : decode cX1_isFrameLength 0 = .ok (.iload_n 0, 1) := by decide +kernel
theorem dX1_isFrameLength_1 : decode cX1_isFrameLength 1 = .ok (.iconst 1, 1) := by decide +kernel
theorem dX1_isFrameLength_2 : decode cX1_isFrameLength 2 = .ok (.if_icmp .lt 13, 3) := by decide +kernel
theorem dX1_isFrameLength_5 : decode cX1_isFrameLength 5 = .ok (.iload_n 0, 1) := by decide +kernel
theorem dX1_isFrameLength_6 : decode cX1_isFrameLength 6 = .ok (.bipush 16, 2) := by decide +kernel
theorem dX1_isFrameLength_8 : decode cX1_isFrameLength 8 = .ok (.if_icmp .gt 7, 3) := by decide +kernel
theorem dX1_isFrameLength_11 : decode cX1_isFrameLength 11 = .ok (.iconst 1, 1) := by decide +kernel
theorem dX1_isFrameLength_12 : decode cX1_isFrameLength 12 = .ok (.goto 4, 3) := by decide +kernel
theorem dX1_isFrameLength_15 : decode cX1_isFrameLength 15 = .ok (.iconst 0, 1) := by decide +kernel
theorem dX1_isFrameLength_16 : decode cX1_isFrameLength 16 = .ok (.ireturn, 1) := by decide +kernel
set_option maxRecDepth 20000 in
theorem ggX1_isGivenBack_X0_size : GoodIn wsX1_isGivenBack wsX0_size := goodIn_r _ [6, 7, 24, 25, 26, 27] (by decide +kernel) (by decide +kernel)
set_option maxRecDepth 20000 in
theorem gX1_isGivenBack_X0_size : GoodIn wsX1_isGivenBack (wsV RX1 71 RX0 yX0_size wsX0_size) := goodIn_app (goodIn_of _ (by decide +kernel)) ggX1_isGivenBack_X0_size
set_option maxRecDepth 20000 in
theorem ggX1_isGivenBack_X0_descriptorAt : GoodIn wsX1_isGivenBack wsX0_descriptorAt := goodIn_r _ [11, 12, 13, 14, 15, 5, 16, 17, 24, 25, 26, 27] (by decide +kernel) (by decide +kernel)
set_option maxRecDepth 20000 in
theorem gX1_isGivenBack_X0_descriptorAt : GoodIn wsX1_isGivenBack (wsV RX1 64 RX0 yX0_descriptorAt wsX0_descriptorAt) := goodIn_app (goodIn_of _ (by decide +kernel)) ggX1_isGivenBack_X0_descriptorAt
theorem dX1_isGivenBack_0 : decode cX1_isGivenBack 0 = .ok (.iload_n 2, 1) := by decide +kernel
theorem dX1_isGivenBack_1 : decode cX1_isGivenBack 1 = .ok (.aload_n 1, 1) := by decide +kernel
theorem dX1_isGivenBack_2 : decode cX1_isGivenBack 2 = .ok (.invokevirtual 71, 3) := by decide +kernel
theorem dX1_isGivenBack_5 : decode cX1_isGivenBack 5 = .ok (.if_icmp .ge 22, 3) := by decide +kernel
theorem dX1_isGivenBack_8 : decode cX1_isGivenBack 8 = .ok (.aload_n 0, 1) := by decide +kernel
theorem dX1_isGivenBack_9 : decode cX1_isGivenBack 9 = .ok (.getfield 9, 3) := by decide +kernel
theorem dX1_isGivenBack_12 : decode cX1_isGivenBack 12 = .ok (.aload_n 1, 1) := by decide +kernel
theorem dX1_isGivenBack_13 : decode cX1_isGivenBack 13 = .ok (.iload_n 2, 1) := by decide +kernel
theorem dX1_isGivenBack_14 : decode cX1_isGivenBack 14 = .ok (.invokevirtual 64, 3) := by decide +kernel
theorem dX1_isGivenBack_17 : decode cX1_isGivenBack 17 = .ok (.iconst 2, 1) := by decide +kernel
theorem dX1_isGivenBack_18 : decode cX1_isGivenBack 18 = .ok (.iadd, 1) := by decide +kernel
theorem dX1_isGivenBack_19 : decode cX1_isGivenBack 19 = .ok (.iaload, 1) := by decide +kernel
theorem dX1_isGivenBack_20 : decode cX1_isGivenBack 20 = .ok (.ifCond .ne 7, 3) := by decide +kernel
theorem dX1_isGivenBack_23 : decode cX1_isGivenBack 23 = .ok (.iconst 1, 1) := by decide +kernel
theorem dX1_isGivenBack_24 : decode cX1_isGivenBack 24 = .ok (.goto 4, 3) := by decide +kernel
theorem dX1_isGivenBack_27 : decode cX1_isGivenBack 27 = .ok (.iconst 0, 1) := by decide +kernel
theorem dX1_isGivenBack_28 : decode cX1_isGivenBack 28 = .ok (.ireturn, 1) := by decide +kernel
set_option maxRecDepth 20000 in
theorem ggX1_postNext_X0_size : GoodIn wsX1_postNext wsX0_size := goodIn_r _ [5, 6, 43, 44, 45, 46] (by decide +kernel) (by decide +kernel)
set_option maxRecDepth 20000 in
theorem gX1_postNext_X0_size : GoodIn wsX1_postNext (wsV RX1 71 RX0 yX0_size wsX0_size) := goodIn_app (goodIn_of _ (by decide +kernel)) ggX1_postNext_X0_size
set_option maxRecDepth 20000 in
theorem ggX1_postNext_X0_bufferAt : GoodIn wsX1_postNext wsX0_bufferAt := goodIn_r _ [10, 11, 12, 13, 4, 14, 15, 16, 17, 18, 19, 20, 43, 44, 45, 46] (by decide +kernel) (by decide +kernel)
set_option maxRecDepth 20000 in
theorem gX1_postNext_X0_bufferAt : GoodIn wsX1_postNext (wsV RX1 68 RX0 yX0_bufferAt wsX0_bufferAt) := goodIn_app (goodIn_of _ (by decide +kernel)) ggX1_postNext_X0_bufferAt
set_option maxRecDepth 20000 in
theorem ggX1_postNext_X1_fillBuffer : GoodIn wsX1_postNext wsX1_fillBuffer := goodIn_r _ [25, 26, 27, 47, 48, 49, 50, 51, 52] (by decide +kernel) (by decide +kernel)
set_option maxRecDepth 20000 in
theorem gX1_postNext_X1_fillBuffer : GoodIn wsX1_postNext (wsV RX1 77 RX1 yX1_fillBuffer wsX1_fillBuffer) := goodIn_app (goodIn_of _ (by decide +kernel)) ggX1_postNext_X1_fillBuffer
set_option maxRecDepth 20000 in
theorem ggX1_postNext_X0_descriptorAt : GoodIn wsX1_postNext wsX0_descriptorAt := goodIn_r _ [31, 32, 16, 17, 18, 4, 19, 20, 43, 44, 45, 46] (by decide +kernel) (by decide +kernel)
set_option maxRecDepth 20000 in
theorem gX1_postNext_X0_descriptorAt : GoodIn wsX1_postNext (wsV RX1 64 RX0 yX0_descriptorAt wsX0_descriptorAt) := goodIn_app (goodIn_of _ (by decide +kernel)) ggX1_postNext_X0_descriptorAt
set_option maxRecDepth 20000 in
theorem ggX1_postNext_X0_pageAt : GoodIn wsX1_postNext wsX0_pageAt := goodIn_r _ [14, 15, 16, 17, 18, 4, 19, 20, 43, 44, 45, 46] (by decide +kernel) (by decide +kernel)
set_option maxRecDepth 20000 in
theorem gX1_postNext_X0_pageAt : GoodIn wsX1_postNext (wsV RX1 80 RX0 yX0_pageAt wsX0_pageAt) := goodIn_app (goodIn_of _ (by decide +kernel)) ggX1_postNext_X0_pageAt
set_option maxRecDepth 20000 in
theorem ggX1_postNext_X1_fillDescriptor : GoodIn wsX1_postNext wsX1_fillDescriptor := goodIn_r _ [37, 26, 47, 48, 49, 50, 51, 52] (by decide +kernel) (by decide +kernel)
set_option maxRecDepth 20000 in
theorem gX1_postNext_X1_fillDescriptor : GoodIn wsX1_postNext (wsV RX1 83 RX1 yX1_fillDescriptor wsX1_fillDescriptor) := goodIn_app (goodIn_of _ (by decide +kernel)) ggX1_postNext_X1_fillDescriptor
set_option maxRecDepth 20000 in
theorem ggX1_postNext_X0_addNext : GoodIn wsX1_postNext wsX0_addNext := goodIn_r _ [41, 6, 43, 44, 45, 46] (by decide +kernel) (by decide +kernel)
set_option maxRecDepth 20000 in
theorem gX1_postNext_X0_addNext : GoodIn wsX1_postNext (wsV RX1 87 RX0 yX0_addNext wsX0_addNext) := goodIn_app (goodIn_of _ (by decide +kernel)) ggX1_postNext_X0_addNext
set_option maxRecDepth 20000 in
theorem ggX1_postNext_X0_slotAt : GoodIn wsX1_postNext wsX0_slotAt := goodIn_r _ [19, 20, 43, 44, 45, 46] (by decide +kernel) (by decide +kernel)
set_option maxRecDepth 20000 in
theorem gX1_postNext_X0_slotAt : GoodIn wsX1_postNext (wsV RX1 90 RX0 yX0_slotAt wsX0_slotAt) := goodIn_app (goodIn_of _ (by decide +kernel)) ggX1_postNext_X0_slotAt
theorem dX1_postNext_0 : decode cX1_postNext 0 = .ok (.aload_n 1, 1) := by decide +kernel
theorem dX1_postNext_1 : decode cX1_postNext 1 = .ok (.invokevirtual 71, 3) := by decide +kernel
theorem dX1_postNext_4 : decode cX1_postNext 4 = .ok (.istore_n 3, 1) := by decide +kernel
theorem dX1_postNext_5 : decode cX1_postNext 5 = .ok (.iload_n 3, 1) := by decide +kernel
theorem dX1_postNext_6 : decode cX1_postNext 6 = .ok (.bipush 8, 2) := by decide +kernel
theorem dX1_postNext_8 : decode cX1_postNext 8 = .ok (.if_icmp .lt 5, 3) := by decide +kernel
theorem dX1_postNext_11 : decode cX1_postNext 11 = .ok (.iconst (-1), 1) := by decide +kernel
theorem dX1_postNext_12 : decode cX1_postNext 12 = .ok (.ireturn, 1) := by decide +kernel
theorem dX1_postNext_13 : decode cX1_postNext 13 = .ok (.aload_n 0, 1) := by decide +kernel
theorem dX1_postNext_14 : decode cX1_postNext 14 = .ok (.aload_n 1, 1) := by decide +kernel
theorem dX1_postNext_15 : decode cX1_postNext 15 = .ok (.iload_n 3, 1) := by decide +kernel
theorem dX1_postNext_16 : decode cX1_postNext 16 = .ok (.invokevirtual 68, 3) := by decide +kernel
theorem dX1_postNext_19 : decode cX1_postNext 19 = .ok (.iload_n 2, 1) := by decide +kernel
theorem dX1_postNext_20 : decode cX1_postNext 20 = .ok (.invokevirtual 77, 3) := by decide +kernel
theorem dX1_postNext_23 : decode cX1_postNext 23 = .ok (.aload_n 0, 1) := by decide +kernel
theorem dX1_postNext_24 : decode cX1_postNext 24 = .ok (.aload_n 1, 1) := by decide +kernel
theorem dX1_postNext_25 : decode cX1_postNext 25 = .ok (.iload_n 3, 1) := by decide +kernel
theorem dX1_postNext_26 : decode cX1_postNext 26 = .ok (.invokevirtual 64, 3) := by decide +kernel
theorem dX1_postNext_29 : decode cX1_postNext 29 = .ok (.aload_n 1, 1) := by decide +kernel
theorem dX1_postNext_30 : decode cX1_postNext 30 = .ok (.iload_n 3, 1) := by decide +kernel
theorem dX1_postNext_31 : decode cX1_postNext 31 = .ok (.invokevirtual 80, 3) := by decide +kernel
theorem dX1_postNext_34 : decode cX1_postNext 34 = .ok (.iload_n 2, 1) := by decide +kernel
theorem dX1_postNext_35 : decode cX1_postNext 35 = .ok (.invokevirtual 83, 3) := by decide +kernel
theorem dX1_postNext_38 : decode cX1_postNext 38 = .ok (.aload_n 1, 1) := by decide +kernel
theorem dX1_postNext_39 : decode cX1_postNext 39 = .ok (.invokevirtual 87, 3) := by decide +kernel
theorem dX1_postNext_42 : decode cX1_postNext 42 = .ok (.aload_n 1, 1) := by decide +kernel
theorem dX1_postNext_43 : decode cX1_postNext 43 = .ok (.iload_n 3, 1) := by decide +kernel
theorem dX1_postNext_44 : decode cX1_postNext 44 = .ok (.invokevirtual 90, 3) := by decide +kernel
theorem dX1_postNext_47 : decode cX1_postNext 47 = .ok (.ireturn, 1) := by decide +kernel
theorem dX1_fillBuffer_0 : decode cX1_fillBuffer 0 = .ok (.iconst 0, 1) := by decide +kernel
theorem dX1_fillBuffer_1 : decode cX1_fillBuffer 1 = .ok (.istore_n 3, 1) := by decide +kernel
theorem dX1_fillBuffer_2 : decode cX1_fillBuffer 2 = .ok (.iload_n 3, 1) := by decide +kernel
theorem dX1_fillBuffer_3 : decode cX1_fillBuffer 3 = .ok (.bipush 16, 2) := by decide +kernel
theorem dX1_fillBuffer_5 : decode cX1_fillBuffer 5 = .ok (.if_icmp .ge 32, 3) := by decide +kernel
theorem dX1_fillBuffer_8 : decode cX1_fillBuffer 8 = .ok (.aload_n 0, 1) := by decide +kernel
theorem dX1_fillBuffer_9 : decode cX1_fillBuffer 9 = .ok (.getfield 9, 3) := by decide +kernel
theorem dX1_fillBuffer_12 : decode cX1_fillBuffer 12 = .ok (.iload_n 1, 1) := by decide +kernel
theorem dX1_fillBuffer_13 : decode cX1_fillBuffer 13 = .ok (.iload_n 3, 1) := by decide +kernel
theorem dX1_fillBuffer_14 : decode cX1_fillBuffer 14 = .ok (.iadd, 1) := by decide +kernel
theorem dX1_fillBuffer_15 : decode cX1_fillBuffer 15 = .ok (.iload_n 3, 1) := by decide +kernel
theorem dX1_fillBuffer_16 : decode cX1_fillBuffer 16 = .ok (.iload_n 2, 1) := by decide +kernel
theorem dX1_fillBuffer_17 : decode cX1_fillBuffer 17 = .ok (.if_icmp .ge 12, 3) := by decide +kernel
theorem dX1_fillBuffer_20 : decode cX1_fillBuffer 20 = .ok (.aload_n 0, 1) := by decide +kernel
theorem dX1_fillBuffer_21 : decode cX1_fillBuffer 21 = .ok (.getfield 13, 3) := by decide +kernel
theorem dX1_fillBuffer_24 : decode cX1_fillBuffer 24 = .ok (.iload_n 3, 1) := by decide +kernel
theorem dX1_fillBuffer_25 : decode cX1_fillBuffer 25 = .ok (.iaload, 1) := by decide +kernel
theorem dX1_fillBuffer_26 : decode cX1_fillBuffer 26 = .ok (.goto 4, 3) := by decide +kernel
theorem dX1_fillBuffer_29 : decode cX1_fillBuffer 29 = .ok (.iconst 0, 1) := by decide +kernel
theorem dX1_fillBuffer_30 : decode cX1_fillBuffer 30 = .ok (.iastore, 1) := by decide +kernel
theorem dX1_fillBuffer_31 : decode cX1_fillBuffer 31 = .ok (.iinc 3 1, 3) := by decide +kernel
theorem dX1_fillBuffer_34 : decode cX1_fillBuffer 34 = .ok (.goto (-32), 3) := by decide +kernel
theorem dX1_fillBuffer_37 : decode cX1_fillBuffer 37 = .ok (.return_, 1) := by decide +kernel
theorem dX1_fillDescriptor_0 : decode cX1_fillDescriptor 0 = .ok (.aload_n 0, 1) := by decide +kernel
theorem dX1_fillDescriptor_1 : decode cX1_fillDescriptor 1 = .ok (.getfield 9, 3) := by decide +kernel
theorem dX1_fillDescriptor_4 : decode cX1_fillDescriptor 4 = .ok (.iload_n 1, 1) := by decide +kernel
theorem dX1_fillDescriptor_5 : decode cX1_fillDescriptor 5 = .ok (.iload_n 2, 1) := by decide +kernel
theorem dX1_fillDescriptor_6 : decode cX1_fillDescriptor 6 = .ok (.iastore, 1) := by decide +kernel
theorem dX1_fillDescriptor_7 : decode cX1_fillDescriptor 7 = .ok (.aload_n 0, 1) := by decide +kernel
theorem dX1_fillDescriptor_8 : decode cX1_fillDescriptor 8 = .ok (.getfield 9, 3) := by decide +kernel
theorem dX1_fillDescriptor_11 : decode cX1_fillDescriptor 11 = .ok (.iload_n 1, 1) := by decide +kernel
theorem dX1_fillDescriptor_12 : decode cX1_fillDescriptor 12 = .ok (.iconst 1, 1) := by decide +kernel
theorem dX1_fillDescriptor_13 : decode cX1_fillDescriptor 13 = .ok (.iadd, 1) := by decide +kernel
theorem dX1_fillDescriptor_14 : decode cX1_fillDescriptor 14 = .ok (.iload_n 3, 1) := by decide +kernel
theorem dX1_fillDescriptor_15 : decode cX1_fillDescriptor 15 = .ok (.iastore, 1) := by decide +kernel
theorem dX1_fillDescriptor_16 : decode cX1_fillDescriptor 16 = .ok (.aload_n 0, 1) := by decide +kernel
theorem dX1_fillDescriptor_17 : decode cX1_fillDescriptor 17 = .ok (.getfield 9, 3) := by decide +kernel
theorem dX1_fillDescriptor_20 : decode cX1_fillDescriptor 20 = .ok (.iload_n 1, 1) := by decide +kernel
theorem dX1_fillDescriptor_21 : decode cX1_fillDescriptor 21 = .ok (.iconst 2, 1) := by decide +kernel
theorem dX1_fillDescriptor_22 : decode cX1_fillDescriptor 22 = .ok (.iadd, 1) := by decide +kernel
theorem dX1_fillDescriptor_23 : decode cX1_fillDescriptor 23 = .ok (.iconst 1, 1) := by decide +kernel
theorem dX1_fillDescriptor_24 : decode cX1_fillDescriptor 24 = .ok (.iastore, 1) := by decide +kernel
theorem dX1_fillDescriptor_25 : decode cX1_fillDescriptor 25 = .ok (.iconst 3, 1) := by decide +kernel
theorem dX1_fillDescriptor_26 : decode cX1_fillDescriptor 26 = .ok (.istore 4, 2) := by decide +kernel
theorem dX1_fillDescriptor_28 : decode cX1_fillDescriptor 28 = .ok (.iload 4, 2) := by decide +kernel
theorem dX1_fillDescriptor_30 : decode cX1_fillDescriptor 30 = .ok (.bipush 8, 2) := by decide +kernel
theorem dX1_fillDescriptor_32 : decode cX1_fillDescriptor 32 = .ok (.if_icmp .ge 19, 3) := by decide +kernel
theorem dX1_fillDescriptor_35 : decode cX1_fillDescriptor 35 = .ok (.aload_n 0, 1) := by decide +kernel
theorem dX1_fillDescriptor_36 : decode cX1_fillDescriptor 36 = .ok (.getfield 9, 3) := by decide +kernel
theorem dX1_fillDescriptor_39 : decode cX1_fillDescriptor 39 = .ok (.iload_n 1, 1) := by decide +kernel
theorem dX1_fillDescriptor_40 : decode cX1_fillDescriptor 40 = .ok (.iload 4, 2) := by decide +kernel
theorem dX1_fillDescriptor_42 : decode cX1_fillDescriptor 42 = .ok (.iadd, 1) := by decide +kernel
theorem dX1_fillDescriptor_43 : decode cX1_fillDescriptor 43 = .ok (.iconst 0, 1) := by decide +kernel
theorem dX1_fillDescriptor_44 : decode cX1_fillDescriptor 44 = .ok (.iastore, 1) := by decide +kernel
theorem dX1_fillDescriptor_45 : decode cX1_fillDescriptor 45 = .ok (.iinc 4 1, 3) := by decide +kernel
theorem dX1_fillDescriptor_48 : decode cX1_fillDescriptor 48 = .ok (.goto (-20), 3) := by decide +kernel
theorem dX1_fillDescriptor_51 : decode cX1_fillDescriptor 51 = .ok (.return_, 1) := by decide +kernel
set_option maxRecDepth 20000 in
theorem ggX1_closeAllBehind_X0_size : GoodIn wsX1_closeAllBehind wsX0_size := goodIn_r _ [6, 7, 28, 29, 30, 31] (by decide +kernel) (by decide +kernel)
set_option maxRecDepth 20000 in
theorem gX1_closeAllBehind_X0_size : GoodIn wsX1_closeAllBehind (wsV RX1 71 RX0 yX0_size wsX0_size) := goodIn_app (goodIn_of _ (by decide +kernel)) ggX1_closeAllBehind_X0_size
set_option maxRecDepth 20000 in
theorem ggX1_closeAllBehind_X0_descriptorAt : GoodIn wsX1_closeAllBehind wsX0_descriptorAt := goodIn_r _ [11, 12, 13, 14, 15, 5, 16, 17, 28, 29, 30, 31] (by decide +kernel) (by decide +kernel)
set_option maxRecDepth 20000 in
theorem gX1_closeAllBehind_X0_descriptorAt : GoodIn wsX1_closeAllBehind (wsV RX1 64 RX0 yX0_descriptorAt wsX0_descriptorAt) := goodIn_app (goodIn_of _ (by decide +kernel)) ggX1_closeAllBehind_X0_descriptorAt
set_option maxRecDepth 20000 in
theorem ggX1_closeAllBehind_X0_keepOldest : GoodIn wsX1_closeAllBehind wsX0_keepOldest := goodIn_r _ [21, 7, 28, 29, 30, 31] (by decide +kernel) (by decide +kernel)
set_option maxRecDepth 20000 in
theorem gX1_closeAllBehind_X0_keepOldest : GoodIn wsX1_closeAllBehind (wsV RX1 93 RX0 yX0_keepOldest wsX0_keepOldest) := goodIn_app (goodIn_of _ (by decide +kernel)) ggX1_closeAllBehind_X0_keepOldest
theorem dX1_closeAllBehind_0 : decode cX1_closeAllBehind 0 = .ok (.aload_n 1, 1) := by decide +kernel
theorem dX1_closeAllBehind_1 : decode cX1_closeAllBehind 1 = .ok (.invokevirtual 71, 3) := by decide +kernel
theorem dX1_closeAllBehind_4 : decode cX1_closeAllBehind 4 = .ok (.istore_n 3, 1) := by decide +kernel
theorem dX1_closeAllBehind_5 : decode cX1_closeAllBehind 5 = .ok (.iload_n 2, 1) := by decide +kernel
theorem dX1_closeAllBehind_6 : decode cX1_closeAllBehind 6 = .ok (.istore 4, 2) := by decide +kernel
theorem dX1_closeAllBehind_8 : decode cX1_closeAllBehind 8 = .ok (.iload 4, 2) := by decide +kernel
theorem dX1_closeAllBehind_10 : decode cX1_closeAllBehind 10 = .ok (.iload_n 3, 1) := by decide +kernel
theorem dX1_closeAllBehind_11 : decode cX1_closeAllBehind 11 = .ok (.if_icmp .ge 23, 3) := by decide +kernel
theorem dX1_closeAllBehind_14 : decode cX1_closeAllBehind 14 = .ok (.aload_n 0, 1) := by decide +kernel
theorem dX1_closeAllBehind_15 : decode cX1_closeAllBehind 15 = .ok (.getfield 9, 3) := by decide +kernel
theorem dX1_closeAllBehind_18 : decode cX1_closeAllBehind 18 = .ok (.aload_n 1, 1) := by decide +kernel
theorem dX1_closeAllBehind_19 : decode cX1_closeAllBehind 19 = .ok (.iload 4, 2) := by decide +kernel
theorem dX1_closeAllBehind_21 : decode cX1_closeAllBehind 21 = .ok (.invokevirtual 64, 3) := by decide +kernel
theorem dX1_closeAllBehind_24 : decode cX1_closeAllBehind 24 = .ok (.iconst 2, 1) := by decide +kernel
theorem dX1_closeAllBehind_25 : decode cX1_closeAllBehind 25 = .ok (.iadd, 1) := by decide +kernel
theorem dX1_closeAllBehind_26 : decode cX1_closeAllBehind 26 = .ok (.iconst 0, 1) := by decide +kernel
theorem dX1_closeAllBehind_27 : decode cX1_closeAllBehind 27 = .ok (.iastore, 1) := by decide +kernel
theorem dX1_closeAllBehind_28 : decode cX1_closeAllBehind 28 = .ok (.iinc 4 1, 3) := by decide +kernel
theorem dX1_closeAllBehind_31 : decode cX1_closeAllBehind 31 = .ok (.goto (-23), 3) := by decide +kernel
theorem dX1_closeAllBehind_34 : decode cX1_closeAllBehind 34 = .ok (.aload_n 1, 1) := by decide +kernel
theorem dX1_closeAllBehind_35 : decode cX1_closeAllBehind 35 = .ok (.iload_n 2, 1) := by decide +kernel
theorem dX1_closeAllBehind_36 : decode cX1_closeAllBehind 36 = .ok (.invokevirtual 93, 3) := by decide +kernel
theorem dX1_closeAllBehind_39 : decode cX1_closeAllBehind 39 = .ok (.iload_n 3, 1) := by decide +kernel
theorem dX1_closeAllBehind_40 : decode cX1_closeAllBehind 40 = .ok (.iload_n 2, 1) := by decide +kernel
theorem dX1_closeAllBehind_41 : decode cX1_closeAllBehind 41 = .ok (.isub, 1) := by decide +kernel
theorem dX1_closeAllBehind_42 : decode cX1_closeAllBehind 42 = .ok (.ireturn, 1) := by decide +kernel
abbrev vwCl : List vw_C := [(RX0, TX0, 4), (RX1, TX1, 6), (RX2, TX2, 10)]
end
section
theorem dX2_init_0 : decode cX2_init 0 = .ok (.aload_n 0, 1) := by decide +kernel
theorem dX2_init_1 : decode cX2_init 1 = .ok (.invokespecial 1, 3) := by decide +kernel
theorem dX2_init_4 : decode cX2_init 4 = .ok (.aload_n 0, 1) := by decide +kernel
theorem dX2_init_5 : decode cX2_init 5 = .ok (.sipush 384, 3) := by decide +kernel
theorem dX2_init_8 : decode cX2_init 8 = .ok (.newarray .byte, 2) := by decide +kernel
theorem dX2_init_10 : decode cX2_init 10 = .ok (.putfield 7, 3) := by decide +kernel
theorem dX2_init_13 : decode cX2_init 13 = .ok (.aload_n 0, 1) := by decide +kernel
theorem dX2_init_14 : decode cX2_init 14 = .ok (.bipush 24, 2) := by decide +kernel
theorem dX2_init_16 : decode cX2_init 16 = .ok (.newarray .boolean, 2) := by decide +kernel
theorem dX2_init_18 : decode cX2_init 18 = .ok (.putfield 13, 3) := by decide +kernel
theorem dX2_init_21 : decode cX2_init 21 = .ok (.aload_n 0, 1) := by decide +kernel
theorem dX2_init_22 : decode cX2_init 22 = .ok (.bipush 24, 2) := by decide +kernel
theorem dX2_init_24 : decode cX2_init 24 = .ok (.newarray .boolean, 2) := by decide +kernel
theorem dX2_init_26 : decode cX2_init 26 = .ok (.putfield 17, 3) := by decide +kernel
theorem dX2_init_29 : decode cX2_init 29 = .ok (.aload_n 0, 1) := by decide +kernel
theorem dX2_init_30 : decode cX2_init 30 = .ok (.bipush 16, 2) := by decide +kernel
theorem dX2_init_32 : decode cX2_init 32 = .ok (.newarray .byte, 2) := by decide +kernel
theorem dX2_init_34 : decode cX2_init 34 = .ok (.putfield 20, 3) := by decide +kernel
theorem dX2_init_37 : decode cX2_init 37 = .ok (.aload_n 0, 1) := by decide +kernel
theorem dX2_init_38 : decode cX2_init 38 = .ok (.bipush 16, 2) := by decide +kernel
theorem dX2_init_40 : decode cX2_init 40 = .ok (.newarray .byte, 2) := by decide +kernel
theorem dX2_init_42 : decode cX2_init 42 = .ok (.putfield 23, 3) := by decide +kernel
theorem dX2_init_45 : decode cX2_init 45 = .ok (.iconst 0, 1) := by decide +kernel
theorem dX2_init_46 : decode cX2_init 46 = .ok (.istore_n 1, 1) := by decide +kernel
theorem dX2_init_47 : decode cX2_init 47 = .ok (.iload_n 1, 1) := by decide +kernel
theorem dX2_init_48 : decode cX2_init 48 = .ok (.bipush 8, 2) := by decide +kernel
theorem dX2_init_50 : decode cX2_init 50 = .ok (.if_icmp .ge 23, 3) := by decide +kernel
theorem dX2_init_53 : decode cX2_init 53 = .ok (.aload_n 0, 1) := by decide +kernel
theorem dX2_init_54 : decode cX2_init 54 = .ok (.getfield 13, 3) := by decide +kernel
theorem dX2_init_57 : decode cX2_init 57 = .ok (.iload_n 1, 1) := by decide +kernel
theorem dX2_init_58 : decode cX2_init 58 = .ok (.iconst 1, 1) := by decide +kernel
theorem dX2_init_59 : decode cX2_init 59 = .ok (.bastore, 1) := by decide +kernel
theorem dX2_init_60 : decode cX2_init 60 = .ok (.aload_n 0, 1) := by decide +kernel
theorem dX2_init_61 : decode cX2_init 61 = .ok (.getfield 17, 3) := by decide +kernel
theorem dX2_init_64 : decode cX2_init 64 = .ok (.iload_n 1, 1) := by decide +kernel
theorem dX2_init_65 : decode cX2_init 65 = .ok (.iconst 1, 1) := by decide +kernel
theorem dX2_init_66 : decode cX2_init 66 = .ok (.bastore, 1) := by decide +kernel
theorem dX2_init_67 : decode cX2_init 67 = .ok (.iinc 1 1, 3) := by decide +kernel
theorem dX2_init_70 : decode cX2_init 70 = .ok (.goto (-23), 3) := by decide +kernel
theorem dX2_init_73 : decode cX2_init 73 = .ok (.return_, 1) := by decide +kernel
theorem dX2_deviceRead_0 : decode cX2_deviceRead 0 = .ok (.iload_n 1, 1) := by decide +kernel
theorem dX2_deviceRead_1 : decode cX2_deviceRead 1 = .ok (.ifCond .lt 22, 3) := by decide +kernel
theorem dX2_deviceRead_4 : decode cX2_deviceRead 4 = .ok (.iload_n 1, 1) := by decide +kernel
theorem dX2_deviceRead_5 : decode cX2_deviceRead 5 = .ok (.sipush 383, 3) := by decide +kernel
theorem dX2_deviceRead_8 : decode cX2_deviceRead 8 = .ok (.if_icmp .gt 15, 3) := by decide +kernel
theorem dX2_deviceRead_11 : decode cX2_deviceRead 11 = .ok (.aload_n 0, 1) := by decide +kernel
theorem dX2_deviceRead_12 : decode cX2_deviceRead 12 = .ok (.getfield 13, 3) := by decide +kernel
theorem dX2_deviceRead_15 : decode cX2_deviceRead 15 = .ok (.iload_n 1, 1) := by decide +kernel
theorem dX2_deviceRead_16 : decode cX2_deviceRead 16 = .ok (.bipush 16, 2) := by decide +kernel
theorem dX2_deviceRead_18 : decode cX2_deviceRead 18 = .ok (.idiv, 1) := by decide +kernel
theorem dX2_deviceRead_19 : decode cX2_deviceRead 19 = .ok (.baload, 1) := by decide +kernel
theorem dX2_deviceRead_20 : decode cX2_deviceRead 20 = .ok (.ifCond .ne 15, 3) := by decide +kernel
theorem dX2_deviceRead_23 : decode cX2_deviceRead 23 = .ok (.aload_n 0, 1) := by decide +kernel
theorem dX2_deviceRead_24 : decode cX2_deviceRead 24 = .ok (.aload_n 0, 1) := by decide +kernel
theorem dX2_deviceRead_25 : decode cX2_deviceRead 25 = .ok (.getfield 26, 3) := by decide +kernel
theorem dX2_deviceRead_28 : decode cX2_deviceRead 28 = .ok (.iconst 1, 1) := by decide +kernel
theorem dX2_deviceRead_29 : decode cX2_deviceRead 29 = .ok (.iadd, 1) := by decide +kernel
theorem dX2_deviceRead_30 : decode cX2_deviceRead 30 = .ok (.putfield 26, 3) := by decide +kernel
theorem dX2_deviceRead_33 : decode cX2_deviceRead 33 = .ok (.iconst (-1), 1) := by decide +kernel
theorem dX2_deviceRead_34 : decode cX2_deviceRead 34 = .ok (.ireturn, 1) := by decide +kernel
theorem dX2_deviceRead_35 : decode cX2_deviceRead 35 = .ok (.aload_n 0, 1) := by decide +kernel
theorem dX2_deviceRead_36 : decode cX2_deviceRead 36 = .ok (.getfield 7, 3) := by decide +kernel
theorem dX2_deviceRead_39 : decode cX2_deviceRead 39 = .ok (.iload_n 1, 1) := by decide +kernel
theorem dX2_deviceRead_40 : decode cX2_deviceRead 40 = .ok (.baload, 1) := by decide +kernel
theorem dX2_deviceRead_41 : decode cX2_deviceRead 41 = .ok (.sipush 255, 3) := by decide +kernel
theorem dX2_deviceRead_44 : decode cX2_deviceRead 44 = .ok (.iand, 1) := by decide +kernel
theorem dX2_deviceRead_45 : decode cX2_deviceRead 45 = .ok (.ireturn, 1) := by decide +kernel
theorem dX2_deviceWrite_0 : decode cX2_deviceWrite 0 = .ok (.iload_n 1, 1) := by decide +kernel
theorem dX2_deviceWrite_1 : decode cX2_deviceWrite 1 = .ok (.ifCond .lt 22, 3) := by decide +kernel
theorem dX2_deviceWrite_4 : decode cX2_deviceWrite 4 = .ok (.iload_n 1, 1) := by decide +kernel
theorem dX2_deviceWrite_5 : decode cX2_deviceWrite 5 = .ok (.sipush 383, 3) := by decide +kernel
theorem dX2_deviceWrite_8 : decode cX2_deviceWrite 8 = .ok (.if_icmp .gt 15, 3) := by decide +kernel
theorem dX2_deviceWrite_11 : decode cX2_deviceWrite 11 = .ok (.aload_n 0, 1) := by decide +kernel
theorem dX2_deviceWrite_12 : decode cX2_deviceWrite 12 = .ok (.getfield 17, 3) := by decide +kernel
theorem dX2_deviceWrite_15 : decode cX2_deviceWrite 15 = .ok (.iload_n 1, 1) := by decide +kernel
theorem dX2_deviceWrite_16 : decode cX2_deviceWrite 16 = .ok (.bipush 16, 2) := by decide +kernel
theorem dX2_deviceWrite_18 : decode cX2_deviceWrite 18 = .ok (.idiv, 1) := by decide +kernel
theorem dX2_deviceWrite_19 : decode cX2_deviceWrite 19 = .ok (.baload, 1) := by decide +kernel
theorem dX2_deviceWrite_20 : decode cX2_deviceWrite 20 = .ok (.ifCond .ne 15, 3) := by decide +kernel
theorem dX2_deviceWrite_23 : decode cX2_deviceWrite 23 = .ok (.aload_n 0, 1) := by decide +kernel
theorem dX2_deviceWrite_24 : decode cX2_deviceWrite 24 = .ok (.aload_n 0, 1) := by decide +kernel
theorem dX2_deviceWrite_25 : decode cX2_deviceWrite 25 = .ok (.getfield 26, 3) := by decide +kernel
theorem dX2_deviceWrite_28 : decode cX2_deviceWrite 28 = .ok (.iconst 1, 1) := by decide +kernel
theorem dX2_deviceWrite_29 : decode cX2_deviceWrite 29 = .ok (.iadd, 1) := by decide +kernel
theorem dX2_deviceWrite_30 : decode cX2_deviceWrite 30 = .ok (.putfield 26, 3) := by decide +kernel
theorem dX2_deviceWrite_33 : decode cX2_deviceWrite 33 = .ok (.iconst (-1), 1) := by decide +kernel
theorem dX2_deviceWrite_34 : decode cX2_deviceWrite 34 = .ok (.ireturn, 1) := by decide +kernel
theorem dX2_deviceWrite_35 : decode cX2_deviceWrite 35 = .ok (.aload_n 0, 1) := by decide +kernel
theorem dX2_deviceWrite_36 : decode cX2_deviceWrite 36 = .ok (.getfield 7, 3) := by decide +kernel
theorem dX2_deviceWrite_39 : decode cX2_deviceWrite 39 = .ok (.iload_n 1, 1) := by decide +kernel
theorem dX2_deviceWrite_40 : decode cX2_deviceWrite 40 = .ok (.iload_n 2, 1) := by decide +kernel
theorem dX2_deviceWrite_41 : decode cX2_deviceWrite 41 = .ok (.i2b, 1) := by decide +kernel
theorem dX2_deviceWrite_42 : decode cX2_deviceWrite 42 = .ok (.bastore, 1) := by decide +kernel
theorem dX2_deviceWrite_43 : decode cX2_deviceWrite 43 = .ok (.iconst 0, 1) := by decide +kernel
theorem dX2_deviceWrite_44 : decode cX2_deviceWrite 44 = .ok (.ireturn, 1) := by decide +kernel
theorem dX2_faults_0 : decode cX2_faults 0 = .ok (.aload_n 0, 1) := by decide +kernel
theorem dX2_faults_1 : decode cX2_faults 1 = .ok (.getfield 26, 3) := by decide +kernel
theorem dX2_faults_4 : decode cX2_faults 4 = .ok (.ireturn, 1) := by decide +kernel
theorem dX2_load_0 : decode cX2_load 0 = .ok (.iload_n 1, 1) := by decide +kernel
theorem dX2_load_1 : decode cX2_load 1 = .ok (.ifCond .lt 9, 3) := by decide +kernel
theorem dX2_load_4 : decode cX2_load 4 = .ok (.iload_n 1, 1) := by decide +kernel
theorem dX2_load_5 : decode cX2_load 5 = .ok (.bipush 15, 2) := by decide +kernel
theorem dX2_load_7 : decode cX2_load 7 = .ok (.if_icmp .le 5, 3) := by decide +kernel
theorem dX2_load_10 : decode cX2_load 10 = .ok (.iconst 0, 1) := by decide +kernel
theorem dX2_load_11 : decode cX2_load 11 = .ok (.ireturn, 1) := by decide +kernel
theorem dX2_load_12 : decode cX2_load 12 = .ok (.aload_n 0, 1) := by decide +kernel
theorem dX2_load_13 : decode cX2_load 13 = .ok (.getfield 20, 3) := by decide +kernel
theorem dX2_load_16 : decode cX2_load 16 = .ok (.iload_n 1, 1) := by decide +kernel
theorem dX2_load_17 : decode cX2_load 17 = .ok (.iload_n 2, 1) := by decide +kernel
theorem dX2_load_18 : decode cX2_load 18 = .ok (.i2b, 1) := by decide +kernel
theorem dX2_load_19 : decode cX2_load 19 = .ok (.bastore, 1) := by decide +kernel
theorem dX2_load_20 : decode cX2_load 20 = .ok (.iconst 1, 1) := by decide +kernel
theorem dX2_load_21 : decode cX2_load 21 = .ok (.ireturn, 1) := by decide +kernel
theorem dX2_describe_0 : decode cX2_describe 0 = .ok (.iconst 0, 1) := by decide +kernel
theorem dX2_describe_1 : decode cX2_describe 1 = .ok (.istore 4, 2) := by decide +kernel
theorem dX2_describe_3 : decode cX2_describe 3 = .ok (.iload 4, 2) := by decide +kernel
theorem dX2_describe_5 : decode cX2_describe 5 = .ok (.bipush 8, 2) := by decide +kernel
theorem dX2_describe_7 : decode cX2_describe 7 = .ok (.if_icmp .ge 19, 3) := by decide +kernel
theorem dX2_describe_10 : decode cX2_describe 10 = .ok (.aload_n 0, 1) := by decide +kernel
theorem dX2_describe_11 : decode cX2_describe 11 = .ok (.getfield 7, 3) := by decide +kernel
theorem dX2_describe_14 : decode cX2_describe 14 = .ok (.iload_n 1, 1) := by decide +kernel
theorem dX2_describe_15 : decode cX2_describe 15 = .ok (.iload 4, 2) := by decide +kernel
theorem dX2_describe_17 : decode cX2_describe 17 = .ok (.iadd, 1) := by decide +kernel
theorem dX2_describe_18 : decode cX2_describe 18 = .ok (.iconst 0, 1) := by decide +kernel
theorem dX2_describe_19 : decode cX2_describe 19 = .ok (.bastore, 1) := by decide +kernel
theorem dX2_describe_20 : decode cX2_describe 20 = .ok (.iinc 4 1, 3) := by decide +kernel
theorem dX2_describe_23 : decode cX2_describe 23 = .ok (.goto (-20), 3) := by decide +kernel
theorem dX2_describe_26 : decode cX2_describe 26 = .ok (.aload_n 0, 1) := by decide +kernel
theorem dX2_describe_27 : decode cX2_describe 27 = .ok (.getfield 7, 3) := by decide +kernel
theorem dX2_describe_30 : decode cX2_describe 30 = .ok (.iload_n 1, 1) := by decide +kernel
theorem dX2_describe_31 : decode cX2_describe 31 = .ok (.iload_n 2, 1) := by decide +kernel
theorem dX2_describe_32 : decode cX2_describe 32 = .ok (.i2b, 1) := by decide +kernel
theorem dX2_describe_33 : decode cX2_describe 33 = .ok (.bastore, 1) := by decide +kernel
theorem dX2_describe_34 : decode cX2_describe 34 = .ok (.aload_n 0, 1) := by decide +kernel
theorem dX2_describe_35 : decode cX2_describe 35 = .ok (.getfield 7, 3) := by decide +kernel
theorem dX2_describe_38 : decode cX2_describe 38 = .ok (.iload_n 1, 1) := by decide +kernel
theorem dX2_describe_39 : decode cX2_describe 39 = .ok (.iconst 1, 1) := by decide +kernel
theorem dX2_describe_40 : decode cX2_describe 40 = .ok (.iadd, 1) := by decide +kernel
theorem dX2_describe_41 : decode cX2_describe 41 = .ok (.iload_n 3, 1) := by decide +kernel
theorem dX2_describe_42 : decode cX2_describe 42 = .ok (.i2b, 1) := by decide +kernel
theorem dX2_describe_43 : decode cX2_describe 43 = .ok (.bastore, 1) := by decide +kernel
theorem dX2_describe_44 : decode cX2_describe 44 = .ok (.aload_n 0, 1) := by decide +kernel
theorem dX2_describe_45 : decode cX2_describe 45 = .ok (.getfield 7, 3) := by decide +kernel
theorem dX2_describe_48 : decode cX2_describe 48 = .ok (.iload_n 1, 1) := by decide +kernel
theorem dX2_describe_49 : decode cX2_describe 49 = .ok (.iconst 2, 1) := by decide +kernel
theorem dX2_describe_50 : decode cX2_describe 50 = .ok (.iadd, 1) := by decide +kernel
theorem dX2_describe_51 : decode cX2_describe 51 = .ok (.iconst 1, 1) := by decide +kernel
theorem dX2_describe_52 : decode cX2_describe 52 = .ok (.bastore, 1) := by decide +kernel
theorem dX2_describe_53 : decode cX2_describe 53 = .ok (.return_, 1) := by decide +kernel
set_option maxRecDepth 20000 in
theorem ggX2_send_X2_describe : GoodIn wsX2_send wsX2_describe := goodIn_r _ [10, 3, 11, 12, 13, 14, 15, 16, 17, 18, 19, 20] (by decide +kernel) (by decide +kernel)
set_option maxRecDepth 20000 in
theorem gX2_send_X2_describe : GoodIn wsX2_send (wsV RX2 36 RX2 yX2_describe wsX2_describe) := goodIn_app (goodIn_of _ (by decide +kernel)) ggX2_send_X2_describe
theorem dX2_send_0 : decode cX2_send 0 = .ok (.iload_n 1, 1) := by decide +kernel
theorem dX2_send_1 : decode cX2_send 1 = .ok (.iconst 1, 1) := by decide +kernel
theorem dX2_send_2 : decode cX2_send 2 = .ok (.if_icmp .lt 9, 3) := by decide +kernel
theorem dX2_send_5 : decode cX2_send 5 = .ok (.iload_n 1, 1) := by decide +kernel
theorem dX2_send_6 : decode cX2_send 6 = .ok (.bipush 16, 2) := by decide +kernel
theorem dX2_send_8 : decode cX2_send 8 = .ok (.if_icmp .le 6, 3) := by decide +kernel
theorem dX2_send_11 : decode cX2_send 11 = .ok (.bipush (-2), 2) := by decide +kernel
theorem dX2_send_13 : decode cX2_send 13 = .ok (.ireturn, 1) := by decide +kernel
theorem dX2_send_14 : decode cX2_send 14 = .ok (.aload_n 0, 1) := by decide +kernel
theorem dX2_send_15 : decode cX2_send 15 = .ok (.getfield 30, 3) := by decide +kernel
theorem dX2_send_18 : decode cX2_send 18 = .ok (.bipush 8, 2) := by decide +kernel
theorem dX2_send_20 : decode cX2_send 20 = .ok (.if_icmp .ne 5, 3) := by decide +kernel
theorem dX2_send_23 : decode cX2_send 23 = .ok (.iconst (-1), 1) := by decide +kernel
theorem dX2_send_24 : decode cX2_send 24 = .ok (.ireturn, 1) := by decide +kernel
theorem dX2_send_25 : decode cX2_send 25 = .ok (.aload_n 0, 1) := by decide +kernel
theorem dX2_send_26 : decode cX2_send 26 = .ok (.getfield 33, 3) := by decide +kernel
theorem dX2_send_29 : decode cX2_send 29 = .ok (.aload_n 0, 1) := by decide +kernel
theorem dX2_send_30 : decode cX2_send 30 = .ok (.getfield 30, 3) := by decide +kernel
theorem dX2_send_33 : decode cX2_send 33 = .ok (.iadd, 1) := by decide +kernel
theorem dX2_send_34 : decode cX2_send 34 = .ok (.bipush 8, 2) := by decide +kernel
theorem dX2_send_36 : decode cX2_send 36 = .ok (.irem, 1) := by decide +kernel
theorem dX2_send_37 : decode cX2_send 37 = .ok (.istore_n 2, 1) := by decide +kernel
theorem dX2_send_38 : decode cX2_send 38 = .ok (.iconst 0, 1) := by decide +kernel
theorem dX2_send_39 : decode cX2_send 39 = .ok (.istore_n 3, 1) := by decide +kernel
theorem dX2_send_40 : decode cX2_send 40 = .ok (.iload_n 3, 1) := by decide +kernel
theorem dX2_send_41 : decode cX2_send 41 = .ok (.bipush 16, 2) := by decide +kernel
theorem dX2_send_43 : decode cX2_send 43 = .ok (.if_icmp .ge 38, 3) := by decide +kernel
theorem dX2_send_46 : decode cX2_send 46 = .ok (.aload_n 0, 1) := by decide +kernel
theorem dX2_send_47 : decode cX2_send 47 = .ok (.getfield 7, 3) := by decide +kernel
theorem dX2_send_50 : decode cX2_send 50 = .ok (.bipush 8, 2) := by decide +kernel
theorem dX2_send_52 : decode cX2_send 52 = .ok (.iload_n 2, 1) := by decide +kernel
theorem dX2_send_53 : decode cX2_send 53 = .ok (.iadd, 1) := by decide +kernel
theorem dX2_send_54 : decode cX2_send 54 = .ok (.bipush 16, 2) := by decide +kernel
theorem dX2_send_56 : decode cX2_send 56 = .ok (.imul, 1) := by decide +kernel
theorem dX2_send_57 : decode cX2_send 57 = .ok (.iload_n 3, 1) := by decide +kernel
theorem dX2_send_58 : decode cX2_send 58 = .ok (.iadd, 1) := by decide +kernel
theorem dX2_send_59 : decode cX2_send 59 = .ok (.iload_n 3, 1) := by decide +kernel
theorem dX2_send_60 : decode cX2_send 60 = .ok (.iload_n 1, 1) := by decide +kernel
theorem dX2_send_61 : decode cX2_send 61 = .ok (.if_icmp .ge 12, 3) := by decide +kernel
theorem dX2_send_64 : decode cX2_send 64 = .ok (.aload_n 0, 1) := by decide +kernel
theorem dX2_send_65 : decode cX2_send 65 = .ok (.getfield 20, 3) := by decide +kernel
theorem dX2_send_68 : decode cX2_send 68 = .ok (.iload_n 3, 1) := by decide +kernel
theorem dX2_send_69 : decode cX2_send 69 = .ok (.baload, 1) := by decide +kernel
theorem dX2_send_70 : decode cX2_send 70 = .ok (.goto 4, 3) := by decide +kernel
theorem dX2_send_73 : decode cX2_send 73 = .ok (.iconst 0, 1) := by decide +kernel
theorem dX2_send_74 : decode cX2_send 74 = .ok (.bastore, 1) := by decide +kernel
theorem dX2_send_75 : decode cX2_send 75 = .ok (.iinc 3 1, 3) := by decide +kernel
theorem dX2_send_78 : decode cX2_send 78 = .ok (.goto (-38), 3) := by decide +kernel
theorem dX2_send_81 : decode cX2_send 81 = .ok (.aload_n 0, 1) := by decide +kernel
theorem dX2_send_82 : decode cX2_send 82 = .ok (.getfield 13, 3) := by decide +kernel
theorem dX2_send_85 : decode cX2_send 85 = .ok (.bipush 8, 2) := by decide +kernel
theorem dX2_send_87 : decode cX2_send 87 = .ok (.iload_n 2, 1) := by decide +kernel
theorem dX2_send_88 : decode cX2_send 88 = .ok (.iadd, 1) := by decide +kernel
theorem dX2_send_89 : decode cX2_send 89 = .ok (.iconst 1, 1) := by decide +kernel
theorem dX2_send_90 : decode cX2_send 90 = .ok (.bastore, 1) := by decide +kernel
theorem dX2_send_91 : decode cX2_send 91 = .ok (.aload_n 0, 1) := by decide +kernel
theorem dX2_send_92 : decode cX2_send 92 = .ok (.bipush 8, 2) := by decide +kernel
theorem dX2_send_94 : decode cX2_send 94 = .ok (.iload_n 2, 1) := by decide +kernel
theorem dX2_send_95 : decode cX2_send 95 = .ok (.imul, 1) := by decide +kernel
theorem dX2_send_96 : decode cX2_send 96 = .ok (.bipush 8, 2) := by decide +kernel
theorem dX2_send_98 : decode cX2_send 98 = .ok (.iload_n 2, 1) := by decide +kernel
theorem dX2_send_99 : decode cX2_send 99 = .ok (.iadd, 1) := by decide +kernel
theorem dX2_send_100 : decode cX2_send 100 = .ok (.iload_n 1, 1) := by decide +kernel
theorem dX2_send_101 : decode cX2_send 101 = .ok (.invokevirtual 36, 3) := by decide +kernel
theorem dX2_send_104 : decode cX2_send 104 = .ok (.aload_n 0, 1) := by decide +kernel
theorem dX2_send_105 : decode cX2_send 105 = .ok (.aload_n 0, 1) := by decide +kernel
theorem dX2_send_106 : decode cX2_send 106 = .ok (.getfield 30, 3) := by decide +kernel
theorem dX2_send_109 : decode cX2_send 109 = .ok (.iconst 1, 1) := by decide +kernel
theorem dX2_send_110 : decode cX2_send 110 = .ok (.iadd, 1) := by decide +kernel
theorem dX2_send_111 : decode cX2_send 111 = .ok (.putfield 30, 3) := by decide +kernel
theorem dX2_send_114 : decode cX2_send 114 = .ok (.iload_n 2, 1) := by decide +kernel
theorem dX2_send_115 : decode cX2_send 115 = .ok (.ireturn, 1) := by decide +kernel
theorem dX2_reclaim_0 : decode cX2_reclaim 0 = .ok (.iconst 0, 1) := by decide +kernel
theorem dX2_reclaim_1 : decode cX2_reclaim 1 = .ok (.istore_n 1, 1) := by decide +kernel
theorem dX2_reclaim_2 : decode cX2_reclaim 2 = .ok (.iconst 0, 1) := by decide +kernel
theorem dX2_reclaim_3 : decode cX2_reclaim 3 = .ok (.istore_n 2, 1) := by decide +kernel
theorem dX2_reclaim_4 : decode cX2_reclaim 4 = .ok (.iload_n 2, 1) := by decide +kernel
theorem dX2_reclaim_5 : decode cX2_reclaim 5 = .ok (.bipush 8, 2) := by decide +kernel
theorem dX2_reclaim_7 : decode cX2_reclaim 7 = .ok (.if_icmp .ge 73, 3) := by decide +kernel
theorem dX2_reclaim_10 : decode cX2_reclaim 10 = .ok (.aload_n 0, 1) := by decide +kernel
theorem dX2_reclaim_11 : decode cX2_reclaim 11 = .ok (.getfield 30, 3) := by decide +kernel
theorem dX2_reclaim_14 : decode cX2_reclaim 14 = .ok (.ifCond .le 60, 3) := by decide +kernel
theorem dX2_reclaim_17 : decode cX2_reclaim 17 = .ok (.aload_n 0, 1) := by decide +kernel
theorem dX2_reclaim_18 : decode cX2_reclaim 18 = .ok (.getfield 7, 3) := by decide +kernel
theorem dX2_reclaim_21 : decode cX2_reclaim 21 = .ok (.bipush 8, 2) := by decide +kernel
theorem dX2_reclaim_23 : decode cX2_reclaim 23 = .ok (.aload_n 0, 1) := by decide +kernel
theorem dX2_reclaim_24 : decode cX2_reclaim 24 = .ok (.getfield 33, 3) := by decide +kernel
theorem dX2_reclaim_27 : decode cX2_reclaim 27 = .ok (.imul, 1) := by decide +kernel
theorem dX2_reclaim_28 : decode cX2_reclaim 28 = .ok (.iconst 2, 1) := by decide +kernel
theorem dX2_reclaim_29 : decode cX2_reclaim 29 = .ok (.iadd, 1) := by decide +kernel
theorem dX2_reclaim_30 : decode cX2_reclaim 30 = .ok (.baload, 1) := by decide +kernel
theorem dX2_reclaim_31 : decode cX2_reclaim 31 = .ok (.ifCond .ne 43, 3) := by decide +kernel
theorem dX2_reclaim_34 : decode cX2_reclaim 34 = .ok (.aload_n 0, 1) := by decide +kernel
theorem dX2_reclaim_35 : decode cX2_reclaim 35 = .ok (.getfield 13, 3) := by decide +kernel
theorem dX2_reclaim_38 : decode cX2_reclaim 38 = .ok (.bipush 8, 2) := by decide +kernel
theorem dX2_reclaim_40 : decode cX2_reclaim 40 = .ok (.aload_n 0, 1) := by decide +kernel
theorem dX2_reclaim_41 : decode cX2_reclaim 41 = .ok (.getfield 33, 3) := by decide +kernel
theorem dX2_reclaim_44 : decode cX2_reclaim 44 = .ok (.iadd, 1) := by decide +kernel
theorem dX2_reclaim_45 : decode cX2_reclaim 45 = .ok (.iconst 0, 1) := by decide +kernel
theorem dX2_reclaim_46 : decode cX2_reclaim 46 = .ok (.bastore, 1) := by decide +kernel
theorem dX2_reclaim_47 : decode cX2_reclaim 47 = .ok (.aload_n 0, 1) := by decide +kernel
theorem dX2_reclaim_48 : decode cX2_reclaim 48 = .ok (.aload_n 0, 1) := by decide +kernel
theorem dX2_reclaim_49 : decode cX2_reclaim 49 = .ok (.getfield 33, 3) := by decide +kernel
theorem dX2_reclaim_52 : decode cX2_reclaim 52 = .ok (.iconst 1, 1) := by decide +kernel
theorem dX2_reclaim_53 : decode cX2_reclaim 53 = .ok (.iadd, 1) := by decide +kernel
theorem dX2_reclaim_54 : decode cX2_reclaim 54 = .ok (.bipush 8, 2) := by decide +kernel
theorem dX2_reclaim_56 : decode cX2_reclaim 56 = .ok (.irem, 1) := by decide +kernel
theorem dX2_reclaim_57 : decode cX2_reclaim 57 = .ok (.putfield 33, 3) := by decide +kernel
theorem dX2_reclaim_60 : decode cX2_reclaim 60 = .ok (.aload_n 0, 1) := by decide +kernel
theorem dX2_reclaim_61 : decode cX2_reclaim 61 = .ok (.aload_n 0, 1) := by decide +kernel
theorem dX2_reclaim_62 : decode cX2_reclaim 62 = .ok (.getfield 30, 3) := by decide +kernel
theorem dX2_reclaim_65 : decode cX2_reclaim 65 = .ok (.iconst 1, 1) := by decide +kernel
theorem dX2_reclaim_66 : decode cX2_reclaim 66 = .ok (.isub, 1) := by decide +kernel
theorem dX2_reclaim_67 : decode cX2_reclaim 67 = .ok (.putfield 30, 3) := by decide +kernel
theorem dX2_reclaim_70 : decode cX2_reclaim 70 = .ok (.iload_n 1, 1) := by decide +kernel
theorem dX2_reclaim_71 : decode cX2_reclaim 71 = .ok (.iconst 1, 1) := by decide +kernel
theorem dX2_reclaim_72 : decode cX2_reclaim 72 = .ok (.iadd, 1) := by decide +kernel
theorem dX2_reclaim_73 : decode cX2_reclaim 73 = .ok (.istore_n 1, 1) := by decide +kernel
theorem dX2_reclaim_74 : decode cX2_reclaim 74 = .ok (.iinc 2 1, 3) := by decide +kernel
theorem dX2_reclaim_77 : decode cX2_reclaim 77 = .ok (.goto (-73), 3) := by decide +kernel
theorem dX2_reclaim_80 : decode cX2_reclaim 80 = .ok (.iload_n 1, 1) := by decide +kernel
theorem dX2_reclaim_81 : decode cX2_reclaim 81 = .ok (.ireturn, 1) := by decide +kernel
set_option maxRecDepth 20000 in
theorem ggX2_revoke_X2_reclaim : GoodIn wsX2_revoke wsX2_reclaim := goodIn_r _ [9, 1, 4, 2, 3, 10, 11, 12, 13, 14, 15, 16, 17, 18, 19] (by decide +kernel) (by decide +kernel)
set_option maxRecDepth 20000 in
theorem gX2_revoke_X2_reclaim : GoodIn wsX2_revoke (wsV RX2 40 RX2 yX2_reclaim wsX2_reclaim) := goodIn_app (goodIn_of _ (by decide +kernel)) ggX2_revoke_X2_reclaim
theorem dX2_revoke_0 : decode cX2_revoke 0 = .ok (.aload_n 0, 1) := by decide +kernel
theorem dX2_revoke_1 : decode cX2_revoke 1 = .ok (.invokevirtual 40, 3) := by decide +kernel
theorem dX2_revoke_4 : decode cX2_revoke 4 = .ok (.istore_n 1, 1) := by decide +kernel
theorem dX2_revoke_5 : decode cX2_revoke 5 = .ok (.aload_n 0, 1) := by decide +kernel
theorem dX2_revoke_6 : decode cX2_revoke 6 = .ok (.getfield 30, 3) := by decide +kernel
theorem dX2_revoke_9 : decode cX2_revoke 9 = .ok (.istore_n 2, 1) := by decide +kernel
theorem dX2_revoke_10 : decode cX2_revoke 10 = .ok (.iconst 0, 1) := by decide +kernel
theorem dX2_revoke_11 : decode cX2_revoke 11 = .ok (.istore_n 3, 1) := by decide +kernel
theorem dX2_revoke_12 : decode cX2_revoke 12 = .ok (.iload_n 3, 1) := by decide +kernel
theorem dX2_revoke_13 : decode cX2_revoke 13 = .ok (.iload_n 2, 1) := by decide +kernel
theorem dX2_revoke_14 : decode cX2_revoke 14 = .ok (.if_icmp .ge 44, 3) := by decide +kernel
theorem dX2_revoke_17 : decode cX2_revoke 17 = .ok (.aload_n 0, 1) := by decide +kernel
theorem dX2_revoke_18 : decode cX2_revoke 18 = .ok (.getfield 33, 3) := by decide +kernel
theorem dX2_revoke_21 : decode cX2_revoke 21 = .ok (.iload_n 3, 1) := by decide +kernel
theorem dX2_revoke_22 : decode cX2_revoke 22 = .ok (.iadd, 1) := by decide +kernel
theorem dX2_revoke_23 : decode cX2_revoke 23 = .ok (.bipush 8, 2) := by decide +kernel
theorem dX2_revoke_25 : decode cX2_revoke 25 = .ok (.irem, 1) := by decide +kernel
theorem dX2_revoke_26 : decode cX2_revoke 26 = .ok (.istore 4, 2) := by decide +kernel
theorem dX2_revoke_28 : decode cX2_revoke 28 = .ok (.aload_n 0, 1) := by decide +kernel
theorem dX2_revoke_29 : decode cX2_revoke 29 = .ok (.getfield 13, 3) := by decide +kernel
theorem dX2_revoke_32 : decode cX2_revoke 32 = .ok (.bipush 8, 2) := by decide +kernel
theorem dX2_revoke_34 : decode cX2_revoke 34 = .ok (.iload 4, 2) := by decide +kernel
theorem dX2_revoke_36 : decode cX2_revoke 36 = .ok (.iadd, 1) := by decide +kernel
theorem dX2_revoke_37 : decode cX2_revoke 37 = .ok (.iconst 0, 1) := by decide +kernel
theorem dX2_revoke_38 : decode cX2_revoke 38 = .ok (.bastore, 1) := by decide +kernel
theorem dX2_revoke_39 : decode cX2_revoke 39 = .ok (.aload_n 0, 1) := by decide +kernel
theorem dX2_revoke_40 : decode cX2_revoke 40 = .ok (.getfield 7, 3) := by decide +kernel
theorem dX2_revoke_43 : decode cX2_revoke 43 = .ok (.bipush 8, 2) := by decide +kernel
theorem dX2_revoke_45 : decode cX2_revoke 45 = .ok (.iload 4, 2) := by decide +kernel
theorem dX2_revoke_47 : decode cX2_revoke 47 = .ok (.imul, 1) := by decide +kernel
theorem dX2_revoke_48 : decode cX2_revoke 48 = .ok (.iconst 2, 1) := by decide +kernel
theorem dX2_revoke_49 : decode cX2_revoke 49 = .ok (.iadd, 1) := by decide +kernel
theorem dX2_revoke_50 : decode cX2_revoke 50 = .ok (.iconst 0, 1) := by decide +kernel
theorem dX2_revoke_51 : decode cX2_revoke 51 = .ok (.bastore, 1) := by decide +kernel
theorem dX2_revoke_52 : decode cX2_revoke 52 = .ok (.iinc 3 1, 3) := by decide +kernel
theorem dX2_revoke_55 : decode cX2_revoke 55 = .ok (.goto (-43), 3) := by decide +kernel
theorem dX2_revoke_58 : decode cX2_revoke 58 = .ok (.aload_n 0, 1) := by decide +kernel
theorem dX2_revoke_59 : decode cX2_revoke 59 = .ok (.iconst 0, 1) := by decide +kernel
theorem dX2_revoke_60 : decode cX2_revoke 60 = .ok (.putfield 30, 3) := by decide +kernel
theorem dX2_revoke_63 : decode cX2_revoke 63 = .ok (.iload_n 2, 1) := by decide +kernel
theorem dX2_revoke_64 : decode cX2_revoke 64 = .ok (.ireturn, 1) := by decide +kernel
set_option maxRecDepth 20000 in
theorem ggX2_post_X2_describe : GoodIn wsX2_post wsX2_describe := goodIn_r _ [9, 3, 10, 11, 12, 13, 14, 15, 16, 17, 18, 19] (by decide +kernel) (by decide +kernel)
set_option maxRecDepth 20000 in
theorem gX2_post_X2_describe : GoodIn wsX2_post (wsV RX2 36 RX2 yX2_describe wsX2_describe) := goodIn_app (goodIn_of _ (by decide +kernel)) ggX2_post_X2_describe
theorem dX2_post_0 : decode cX2_post 0 = .ok (.aload_n 0, 1) := by decide +kernel
theorem dX2_post_1 : decode cX2_post 1 = .ok (.getfield 44, 3) := by decide +kernel
theorem dX2_post_4 : decode cX2_post 4 = .ok (.bipush 8, 2) := by decide +kernel
theorem dX2_post_6 : decode cX2_post 6 = .ok (.if_icmp .ne 5, 3) := by decide +kernel
theorem dX2_post_9 : decode cX2_post 9 = .ok (.iconst (-1), 1) := by decide +kernel
theorem dX2_post_10 : decode cX2_post 10 = .ok (.ireturn, 1) := by decide +kernel
theorem dX2_post_11 : decode cX2_post 11 = .ok (.aload_n 0, 1) := by decide +kernel
theorem dX2_post_12 : decode cX2_post 12 = .ok (.getfield 47, 3) := by decide +kernel
theorem dX2_post_15 : decode cX2_post 15 = .ok (.aload_n 0, 1) := by decide +kernel
theorem dX2_post_16 : decode cX2_post 16 = .ok (.getfield 44, 3) := by decide +kernel
theorem dX2_post_19 : decode cX2_post 19 = .ok (.iadd, 1) := by decide +kernel
theorem dX2_post_20 : decode cX2_post 20 = .ok (.bipush 8, 2) := by decide +kernel
theorem dX2_post_22 : decode cX2_post 22 = .ok (.irem, 1) := by decide +kernel
theorem dX2_post_23 : decode cX2_post 23 = .ok (.istore_n 1, 1) := by decide +kernel
theorem dX2_post_24 : decode cX2_post 24 = .ok (.iconst 0, 1) := by decide +kernel
theorem dX2_post_25 : decode cX2_post 25 = .ok (.istore_n 2, 1) := by decide +kernel
theorem dX2_post_26 : decode cX2_post 26 = .ok (.iload_n 2, 1) := by decide +kernel
theorem dX2_post_27 : decode cX2_post 27 = .ok (.bipush 16, 2) := by decide +kernel
theorem dX2_post_29 : decode cX2_post 29 = .ok (.if_icmp .ge 24, 3) := by decide +kernel
theorem dX2_post_32 : decode cX2_post 32 = .ok (.aload_n 0, 1) := by decide +kernel
theorem dX2_post_33 : decode cX2_post 33 = .ok (.getfield 7, 3) := by decide +kernel
theorem dX2_post_36 : decode cX2_post 36 = .ok (.bipush 16, 2) := by decide +kernel
theorem dX2_post_38 : decode cX2_post 38 = .ok (.iload_n 1, 1) := by decide +kernel
theorem dX2_post_39 : decode cX2_post 39 = .ok (.iadd, 1) := by decide +kernel
theorem dX2_post_40 : decode cX2_post 40 = .ok (.bipush 16, 2) := by decide +kernel
theorem dX2_post_42 : decode cX2_post 42 = .ok (.imul, 1) := by decide +kernel
theorem dX2_post_43 : decode cX2_post 43 = .ok (.iload_n 2, 1) := by decide +kernel
theorem dX2_post_44 : decode cX2_post 44 = .ok (.iadd, 1) := by decide +kernel
theorem dX2_post_45 : decode cX2_post 45 = .ok (.iconst 0, 1) := by decide +kernel
theorem dX2_post_46 : decode cX2_post 46 = .ok (.bastore, 1) := by decide +kernel
theorem dX2_post_47 : decode cX2_post 47 = .ok (.iinc 2 1, 3) := by decide +kernel
theorem dX2_post_50 : decode cX2_post 50 = .ok (.goto (-24), 3) := by decide +kernel
theorem dX2_post_53 : decode cX2_post 53 = .ok (.aload_n 0, 1) := by decide +kernel
theorem dX2_post_54 : decode cX2_post 54 = .ok (.getfield 17, 3) := by decide +kernel
theorem dX2_post_57 : decode cX2_post 57 = .ok (.bipush 16, 2) := by decide +kernel
theorem dX2_post_59 : decode cX2_post 59 = .ok (.iload_n 1, 1) := by decide +kernel
theorem dX2_post_60 : decode cX2_post 60 = .ok (.iadd, 1) := by decide +kernel
theorem dX2_post_61 : decode cX2_post 61 = .ok (.iconst 1, 1) := by decide +kernel
theorem dX2_post_62 : decode cX2_post 62 = .ok (.bastore, 1) := by decide +kernel
theorem dX2_post_63 : decode cX2_post 63 = .ok (.aload_n 0, 1) := by decide +kernel
theorem dX2_post_64 : decode cX2_post 64 = .ok (.bipush 64, 2) := by decide +kernel
theorem dX2_post_66 : decode cX2_post 66 = .ok (.bipush 8, 2) := by decide +kernel
theorem dX2_post_68 : decode cX2_post 68 = .ok (.iload_n 1, 1) := by decide +kernel
theorem dX2_post_69 : decode cX2_post 69 = .ok (.imul, 1) := by decide +kernel
theorem dX2_post_70 : decode cX2_post 70 = .ok (.iadd, 1) := by decide +kernel
theorem dX2_post_71 : decode cX2_post 71 = .ok (.bipush 16, 2) := by decide +kernel
theorem dX2_post_73 : decode cX2_post 73 = .ok (.iload_n 1, 1) := by decide +kernel
theorem dX2_post_74 : decode cX2_post 74 = .ok (.iadd, 1) := by decide +kernel
theorem dX2_post_75 : decode cX2_post 75 = .ok (.iconst 0, 1) := by decide +kernel
theorem dX2_post_76 : decode cX2_post 76 = .ok (.invokevirtual 36, 3) := by decide +kernel
theorem dX2_post_79 : decode cX2_post 79 = .ok (.aload_n 0, 1) := by decide +kernel
theorem dX2_post_80 : decode cX2_post 80 = .ok (.aload_n 0, 1) := by decide +kernel
theorem dX2_post_81 : decode cX2_post 81 = .ok (.getfield 44, 3) := by decide +kernel
theorem dX2_post_84 : decode cX2_post 84 = .ok (.iconst 1, 1) := by decide +kernel
theorem dX2_post_85 : decode cX2_post 85 = .ok (.iadd, 1) := by decide +kernel
theorem dX2_post_86 : decode cX2_post 86 = .ok (.putfield 44, 3) := by decide +kernel
theorem dX2_post_89 : decode cX2_post 89 = .ok (.iload_n 1, 1) := by decide +kernel
theorem dX2_post_90 : decode cX2_post 90 = .ok (.ireturn, 1) := by decide +kernel
theorem dX2_receive_0 : decode cX2_receive 0 = .ok (.aload_n 0, 1) := by decide +kernel
theorem dX2_receive_1 : decode cX2_receive 1 = .ok (.getfield 44, 3) := by decide +kernel
theorem dX2_receive_4 : decode cX2_receive 4 = .ok (.ifCond .eq 23, 3) := by decide +kernel
theorem dX2_receive_7 : decode cX2_receive 7 = .ok (.aload_n 0, 1) := by decide +kernel
theorem dX2_receive_8 : decode cX2_receive 8 = .ok (.getfield 7, 3) := by decide +kernel
theorem dX2_receive_11 : decode cX2_receive 11 = .ok (.bipush 64, 2) := by decide +kernel
theorem dX2_receive_13 : decode cX2_receive 13 = .ok (.bipush 8, 2) := by decide +kernel
theorem dX2_receive_15 : decode cX2_receive 15 = .ok (.aload_n 0, 1) := by decide +kernel
theorem dX2_receive_16 : decode cX2_receive 16 = .ok (.getfield 47, 3) := by decide +kernel
theorem dX2_receive_19 : decode cX2_receive 19 = .ok (.imul, 1) := by decide +kernel
theorem dX2_receive_20 : decode cX2_receive 20 = .ok (.iadd, 1) := by decide +kernel
theorem dX2_receive_21 : decode cX2_receive 21 = .ok (.iconst 2, 1) := by decide +kernel
theorem dX2_receive_22 : decode cX2_receive 22 = .ok (.iadd, 1) := by decide +kernel
theorem dX2_receive_23 : decode cX2_receive 23 = .ok (.baload, 1) := by decide +kernel
theorem dX2_receive_24 : decode cX2_receive 24 = .ok (.ifCond .eq 5, 3) := by decide +kernel
theorem dX2_receive_27 : decode cX2_receive 27 = .ok (.iconst (-1), 1) := by decide +kernel
theorem dX2_receive_28 : decode cX2_receive 28 = .ok (.ireturn, 1) := by decide +kernel
theorem dX2_receive_29 : decode cX2_receive 29 = .ok (.aload_n 0, 1) := by decide +kernel
theorem dX2_receive_30 : decode cX2_receive 30 = .ok (.getfield 47, 3) := by decide +kernel
theorem dX2_receive_33 : decode cX2_receive 33 = .ok (.istore_n 1, 1) := by decide +kernel
theorem dX2_receive_34 : decode cX2_receive 34 = .ok (.aload_n 0, 1) := by decide +kernel
theorem dX2_receive_35 : decode cX2_receive 35 = .ok (.getfield 17, 3) := by decide +kernel
theorem dX2_receive_38 : decode cX2_receive 38 = .ok (.bipush 16, 2) := by decide +kernel
theorem dX2_receive_40 : decode cX2_receive 40 = .ok (.iload_n 1, 1) := by decide +kernel
theorem dX2_receive_41 : decode cX2_receive 41 = .ok (.iadd, 1) := by decide +kernel
theorem dX2_receive_42 : decode cX2_receive 42 = .ok (.iconst 0, 1) := by decide +kernel
theorem dX2_receive_43 : decode cX2_receive 43 = .ok (.bastore, 1) := by decide +kernel
theorem dX2_receive_44 : decode cX2_receive 44 = .ok (.aload_n 0, 1) := by decide +kernel
theorem dX2_receive_45 : decode cX2_receive 45 = .ok (.aload_n 0, 1) := by decide +kernel
theorem dX2_receive_46 : decode cX2_receive 46 = .ok (.getfield 47, 3) := by decide +kernel
theorem dX2_receive_49 : decode cX2_receive 49 = .ok (.iconst 1, 1) := by decide +kernel
theorem dX2_receive_50 : decode cX2_receive 50 = .ok (.iadd, 1) := by decide +kernel
theorem dX2_receive_51 : decode cX2_receive 51 = .ok (.bipush 8, 2) := by decide +kernel
theorem dX2_receive_53 : decode cX2_receive 53 = .ok (.irem, 1) := by decide +kernel
theorem dX2_receive_54 : decode cX2_receive 54 = .ok (.putfield 47, 3) := by decide +kernel
theorem dX2_receive_57 : decode cX2_receive 57 = .ok (.aload_n 0, 1) := by decide +kernel
theorem dX2_receive_58 : decode cX2_receive 58 = .ok (.aload_n 0, 1) := by decide +kernel
theorem dX2_receive_59 : decode cX2_receive 59 = .ok (.getfield 44, 3) := by decide +kernel
theorem dX2_receive_62 : decode cX2_receive 62 = .ok (.iconst 1, 1) := by decide +kernel
theorem dX2_receive_63 : decode cX2_receive 63 = .ok (.isub, 1) := by decide +kernel
theorem dX2_receive_64 : decode cX2_receive 64 = .ok (.putfield 44, 3) := by decide +kernel
theorem dX2_receive_67 : decode cX2_receive 67 = .ok (.aload_n 0, 1) := by decide +kernel
theorem dX2_receive_68 : decode cX2_receive 68 = .ok (.getfield 7, 3) := by decide +kernel
theorem dX2_receive_71 : decode cX2_receive 71 = .ok (.bipush 64, 2) := by decide +kernel
theorem dX2_receive_73 : decode cX2_receive 73 = .ok (.bipush 8, 2) := by decide +kernel
theorem dX2_receive_75 : decode cX2_receive 75 = .ok (.iload_n 1, 1) := by decide +kernel
theorem dX2_receive_76 : decode cX2_receive 76 = .ok (.imul, 1) := by decide +kernel
theorem dX2_receive_77 : decode cX2_receive 77 = .ok (.iadd, 1) := by decide +kernel
theorem dX2_receive_78 : decode cX2_receive 78 = .ok (.iconst 1, 1) := by decide +kernel
theorem dX2_receive_79 : decode cX2_receive 79 = .ok (.iadd, 1) := by decide +kernel
theorem dX2_receive_80 : decode cX2_receive 80 = .ok (.baload, 1) := by decide +kernel
theorem dX2_receive_81 : decode cX2_receive 81 = .ok (.sipush 255, 3) := by decide +kernel
theorem dX2_receive_84 : decode cX2_receive 84 = .ok (.iand, 1) := by decide +kernel
theorem dX2_receive_85 : decode cX2_receive 85 = .ok (.istore_n 2, 1) := by decide +kernel
theorem dX2_receive_86 : decode cX2_receive 86 = .ok (.iload_n 2, 1) := by decide +kernel
theorem dX2_receive_87 : decode cX2_receive 87 = .ok (.ifCond .eq 9, 3) := by decide +kernel
theorem dX2_receive_90 : decode cX2_receive 90 = .ok (.iload_n 2, 1) := by decide +kernel
theorem dX2_receive_91 : decode cX2_receive 91 = .ok (.bipush 16, 2) := by decide +kernel
theorem dX2_receive_93 : decode cX2_receive 93 = .ok (.if_icmp .le 6, 3) := by decide +kernel
theorem dX2_receive_96 : decode cX2_receive 96 = .ok (.bipush (-3), 2) := by decide +kernel
theorem dX2_receive_98 : decode cX2_receive 98 = .ok (.ireturn, 1) := by decide +kernel
theorem dX2_receive_99 : decode cX2_receive 99 = .ok (.iconst 0, 1) := by decide +kernel
theorem dX2_receive_100 : decode cX2_receive 100 = .ok (.istore_n 3, 1) := by decide +kernel
theorem dX2_receive_101 : decode cX2_receive 101 = .ok (.iload_n 3, 1) := by decide +kernel
theorem dX2_receive_102 : decode cX2_receive 102 = .ok (.iload_n 2, 1) := by decide +kernel
theorem dX2_receive_103 : decode cX2_receive 103 = .ok (.if_icmp .ge 29, 3) := by decide +kernel
theorem dX2_receive_106 : decode cX2_receive 106 = .ok (.aload_n 0, 1) := by decide +kernel
theorem dX2_receive_107 : decode cX2_receive 107 = .ok (.getfield 23, 3) := by decide +kernel
theorem dX2_receive_110 : decode cX2_receive 110 = .ok (.iload_n 3, 1) := by decide +kernel
theorem dX2_receive_111 : decode cX2_receive 111 = .ok (.aload_n 0, 1) := by decide +kernel
theorem dX2_receive_112 : decode cX2_receive 112 = .ok (.getfield 7, 3) := by decide +kernel
theorem dX2_receive_115 : decode cX2_receive 115 = .ok (.bipush 16, 2) := by decide +kernel
theorem dX2_receive_117 : decode cX2_receive 117 = .ok (.iload_n 1, 1) := by decide +kernel
theorem dX2_receive_118 : decode cX2_receive 118 = .ok (.iadd, 1) := by decide +kernel
theorem dX2_receive_119 : decode cX2_receive 119 = .ok (.bipush 16, 2) := by decide +kernel
theorem dX2_receive_121 : decode cX2_receive 121 = .ok (.imul, 1) := by decide +kernel
theorem dX2_receive_122 : decode cX2_receive 122 = .ok (.iload_n 3, 1) := by decide +kernel
theorem dX2_receive_123 : decode cX2_receive 123 = .ok (.iadd, 1) := by decide +kernel
theorem dX2_receive_124 : decode cX2_receive 124 = .ok (.baload, 1) := by decide +kernel
theorem dX2_receive_125 : decode cX2_receive 125 = .ok (.bastore, 1) := by decide +kernel
theorem dX2_receive_126 : decode cX2_receive 126 = .ok (.iinc 3 1, 3) := by decide +kernel
theorem dX2_receive_129 : decode cX2_receive 129 = .ok (.goto (-28), 3) := by decide +kernel
theorem dX2_receive_132 : decode cX2_receive 132 = .ok (.iload_n 2, 1) := by decide +kernel
theorem dX2_receive_133 : decode cX2_receive 133 = .ok (.ireturn, 1) := by decide +kernel
theorem dX2_taken_0 : decode cX2_taken 0 = .ok (.iload_n 1, 1) := by decide +kernel
theorem dX2_taken_1 : decode cX2_taken 1 = .ok (.ifCond .lt 9, 3) := by decide +kernel
theorem dX2_taken_4 : decode cX2_taken 4 = .ok (.iload_n 1, 1) := by decide +kernel
theorem dX2_taken_5 : decode cX2_taken 5 = .ok (.bipush 15, 2) := by decide +kernel
theorem dX2_taken_7 : decode cX2_taken 7 = .ok (.if_icmp .le 7, 3) := by decide +kernel
theorem dX2_taken_10 : decode cX2_taken 10 = .ok (.iconst (-1), 1) := by decide +kernel
theorem dX2_taken_11 : decode cX2_taken 11 = .ok (.goto 13, 3) := by decide +kernel
theorem dX2_taken_14 : decode cX2_taken 14 = .ok (.aload_n 0, 1) := by decide +kernel
theorem dX2_taken_15 : decode cX2_taken 15 = .ok (.getfield 23, 3) := by decide +kernel
theorem dX2_taken_18 : decode cX2_taken 18 = .ok (.iload_n 1, 1) := by decide +kernel
theorem dX2_taken_19 : decode cX2_taken 19 = .ok (.baload, 1) := by decide +kernel
theorem dX2_taken_20 : decode cX2_taken 20 = .ok (.sipush 255, 3) := by decide +kernel
theorem dX2_taken_23 : decode cX2_taken 23 = .ok (.iand, 1) := by decide +kernel
theorem dX2_taken_24 : decode cX2_taken 24 = .ok (.ireturn, 1) := by decide +kernel
theorem dX2_withdraw_0 : decode cX2_withdraw 0 = .ok (.iconst 0, 1) := by decide +kernel
theorem dX2_withdraw_1 : decode cX2_withdraw 1 = .ok (.istore_n 1, 1) := by decide +kernel
theorem dX2_withdraw_2 : decode cX2_withdraw 2 = .ok (.iconst 0, 1) := by decide +kernel
theorem dX2_withdraw_3 : decode cX2_withdraw 3 = .ok (.istore_n 2, 1) := by decide +kernel
theorem dX2_withdraw_4 : decode cX2_withdraw 4 = .ok (.iload_n 2, 1) := by decide +kernel
theorem dX2_withdraw_5 : decode cX2_withdraw 5 = .ok (.bipush 8, 2) := by decide +kernel
theorem dX2_withdraw_7 : decode cX2_withdraw 7 = .ok (.if_icmp .ge 51, 3) := by decide +kernel
theorem dX2_withdraw_10 : decode cX2_withdraw 10 = .ok (.iload_n 1, 1) := by decide +kernel
theorem dX2_withdraw_11 : decode cX2_withdraw 11 = .ok (.iload_n 2, 1) := by decide +kernel
theorem dX2_withdraw_12 : decode cX2_withdraw 12 = .ok (.if_icmp .ne 40, 3) := by decide +kernel
theorem dX2_withdraw_15 : decode cX2_withdraw 15 = .ok (.iload_n 2, 1) := by decide +kernel
theorem dX2_withdraw_16 : decode cX2_withdraw 16 = .ok (.aload_n 0, 1) := by decide +kernel
theorem dX2_withdraw_17 : decode cX2_withdraw 17 = .ok (.getfield 44, 3) := by decide +kernel
theorem dX2_withdraw_20 : decode cX2_withdraw 20 = .ok (.if_icmp .ge 32, 3) := by decide +kernel
theorem dX2_withdraw_23 : decode cX2_withdraw 23 = .ok (.aload_n 0, 1) := by decide +kernel
theorem dX2_withdraw_24 : decode cX2_withdraw 24 = .ok (.getfield 7, 3) := by decide +kernel
theorem dX2_withdraw_27 : decode cX2_withdraw 27 = .ok (.bipush 64, 2) := by decide +kernel
theorem dX2_withdraw_29 : decode cX2_withdraw 29 = .ok (.bipush 8, 2) := by decide +kernel
theorem dX2_withdraw_31 : decode cX2_withdraw 31 = .ok (.aload_n 0, 1) := by decide +kernel
theorem dX2_withdraw_32 : decode cX2_withdraw 32 = .ok (.getfield 47, 3) := by decide +kernel
theorem dX2_withdraw_35 : decode cX2_withdraw 35 = .ok (.iload_n 2, 1) := by decide +kernel
theorem dX2_withdraw_36 : decode cX2_withdraw 36 = .ok (.iadd, 1) := by decide +kernel
theorem dX2_withdraw_37 : decode cX2_withdraw 37 = .ok (.bipush 8, 2) := by decide +kernel
theorem dX2_withdraw_39 : decode cX2_withdraw 39 = .ok (.irem, 1) := by decide +kernel
theorem dX2_withdraw_40 : decode cX2_withdraw 40 = .ok (.imul, 1) := by decide +kernel
theorem dX2_withdraw_41 : decode cX2_withdraw 41 = .ok (.iadd, 1) := by decide +kernel
theorem dX2_withdraw_42 : decode cX2_withdraw 42 = .ok (.iconst 2, 1) := by decide +kernel
theorem dX2_withdraw_43 : decode cX2_withdraw 43 = .ok (.iadd, 1) := by decide +kernel
theorem dX2_withdraw_44 : decode cX2_withdraw 44 = .ok (.baload, 1) := by decide +kernel
theorem dX2_withdraw_45 : decode cX2_withdraw 45 = .ok (.ifCond .ne 7, 3) := by decide +kernel
theorem dX2_withdraw_48 : decode cX2_withdraw 48 = .ok (.iload_n 1, 1) := by decide +kernel
theorem dX2_withdraw_49 : decode cX2_withdraw 49 = .ok (.iconst 1, 1) := by decide +kernel
theorem dX2_withdraw_50 : decode cX2_withdraw 50 = .ok (.iadd, 1) := by decide +kernel
theorem dX2_withdraw_51 : decode cX2_withdraw 51 = .ok (.istore_n 1, 1) := by decide +kernel
theorem dX2_withdraw_52 : decode cX2_withdraw 52 = .ok (.iinc 2 1, 3) := by decide +kernel
theorem dX2_withdraw_55 : decode cX2_withdraw 55 = .ok (.goto (-51), 3) := by decide +kernel
theorem dX2_withdraw_58 : decode cX2_withdraw 58 = .ok (.aload_n 0, 1) := by decide +kernel
theorem dX2_withdraw_59 : decode cX2_withdraw 59 = .ok (.getfield 44, 3) := by decide +kernel
theorem dX2_withdraw_62 : decode cX2_withdraw 62 = .ok (.iload_n 1, 1) := by decide +kernel
theorem dX2_withdraw_63 : decode cX2_withdraw 63 = .ok (.isub, 1) := by decide +kernel
theorem dX2_withdraw_64 : decode cX2_withdraw 64 = .ok (.istore_n 2, 1) := by decide +kernel
theorem dX2_withdraw_65 : decode cX2_withdraw 65 = .ok (.iload_n 1, 1) := by decide +kernel
theorem dX2_withdraw_66 : decode cX2_withdraw 66 = .ok (.istore_n 3, 1) := by decide +kernel
theorem dX2_withdraw_67 : decode cX2_withdraw 67 = .ok (.iload_n 3, 1) := by decide +kernel
theorem dX2_withdraw_68 : decode cX2_withdraw 68 = .ok (.aload_n 0, 1) := by decide +kernel
theorem dX2_withdraw_69 : decode cX2_withdraw 69 = .ok (.getfield 44, 3) := by decide +kernel
theorem dX2_withdraw_72 : decode cX2_withdraw 72 = .ok (.if_icmp .ge 47, 3) := by decide +kernel
theorem dX2_withdraw_75 : decode cX2_withdraw 75 = .ok (.aload_n 0, 1) := by decide +kernel
theorem dX2_withdraw_76 : decode cX2_withdraw 76 = .ok (.getfield 47, 3) := by decide +kernel
theorem dX2_withdraw_79 : decode cX2_withdraw 79 = .ok (.iload_n 3, 1) := by decide +kernel
theorem dX2_withdraw_80 : decode cX2_withdraw 80 = .ok (.iadd, 1) := by decide +kernel
theorem dX2_withdraw_81 : decode cX2_withdraw 81 = .ok (.bipush 8, 2) := by decide +kernel
theorem dX2_withdraw_83 : decode cX2_withdraw 83 = .ok (.irem, 1) := by decide +kernel
theorem dX2_withdraw_84 : decode cX2_withdraw 84 = .ok (.istore 4, 2) := by decide +kernel
theorem dX2_withdraw_86 : decode cX2_withdraw 86 = .ok (.aload_n 0, 1) := by decide +kernel
theorem dX2_withdraw_87 : decode cX2_withdraw 87 = .ok (.getfield 17, 3) := by decide +kernel
theorem dX2_withdraw_90 : decode cX2_withdraw 90 = .ok (.bipush 16, 2) := by decide +kernel
theorem dX2_withdraw_92 : decode cX2_withdraw 92 = .ok (.iload 4, 2) := by decide +kernel
theorem dX2_withdraw_94 : decode cX2_withdraw 94 = .ok (.iadd, 1) := by decide +kernel
theorem dX2_withdraw_95 : decode cX2_withdraw 95 = .ok (.iconst 0, 1) := by decide +kernel
theorem dX2_withdraw_96 : decode cX2_withdraw 96 = .ok (.bastore, 1) := by decide +kernel
theorem dX2_withdraw_97 : decode cX2_withdraw 97 = .ok (.aload_n 0, 1) := by decide +kernel
theorem dX2_withdraw_98 : decode cX2_withdraw 98 = .ok (.getfield 7, 3) := by decide +kernel
theorem dX2_withdraw_101 : decode cX2_withdraw 101 = .ok (.bipush 64, 2) := by decide +kernel
theorem dX2_withdraw_103 : decode cX2_withdraw 103 = .ok (.bipush 8, 2) := by decide +kernel
theorem dX2_withdraw_105 : decode cX2_withdraw 105 = .ok (.iload 4, 2) := by decide +kernel
theorem dX2_withdraw_107 : decode cX2_withdraw 107 = .ok (.imul, 1) := by decide +kernel
theorem dX2_withdraw_108 : decode cX2_withdraw 108 = .ok (.iadd, 1) := by decide +kernel
theorem dX2_withdraw_109 : decode cX2_withdraw 109 = .ok (.iconst 2, 1) := by decide +kernel
theorem dX2_withdraw_110 : decode cX2_withdraw 110 = .ok (.iadd, 1) := by decide +kernel
theorem dX2_withdraw_111 : decode cX2_withdraw 111 = .ok (.iconst 0, 1) := by decide +kernel
theorem dX2_withdraw_112 : decode cX2_withdraw 112 = .ok (.bastore, 1) := by decide +kernel
theorem dX2_withdraw_113 : decode cX2_withdraw 113 = .ok (.iinc 3 1, 3) := by decide +kernel
theorem dX2_withdraw_116 : decode cX2_withdraw 116 = .ok (.goto (-49), 3) := by decide +kernel
theorem dX2_withdraw_119 : decode cX2_withdraw 119 = .ok (.aload_n 0, 1) := by decide +kernel
theorem dX2_withdraw_120 : decode cX2_withdraw 120 = .ok (.iload_n 1, 1) := by decide +kernel
theorem dX2_withdraw_121 : decode cX2_withdraw 121 = .ok (.putfield 44, 3) := by decide +kernel
theorem dX2_withdraw_124 : decode cX2_withdraw 124 = .ok (.iload_n 2, 1) := by decide +kernel
theorem dX2_withdraw_125 : decode cX2_withdraw 125 = .ok (.ireturn, 1) := by decide +kernel
theorem dX2_sending_0 : decode cX2_sending 0 = .ok (.aload_n 0, 1) := by decide +kernel
theorem dX2_sending_1 : decode cX2_sending 1 = .ok (.getfield 30, 3) := by decide +kernel
theorem dX2_sending_4 : decode cX2_sending 4 = .ok (.ireturn, 1) := by decide +kernel
theorem dX2_receiving_0 : decode cX2_receiving 0 = .ok (.aload_n 0, 1) := by decide +kernel
theorem dX2_receiving_1 : decode cX2_receiving 1 = .ok (.getfield 44, 3) := by decide +kernel
theorem dX2_receiving_4 : decode cX2_receiving 4 = .ok (.ireturn, 1) := by decide +kernel
end
section
set_option maxRecDepth 20000 in
theorem ggL_law_X1_init : GoodIn wsL_law wsX1_init := goodIn_r _ [8, 9, 10, 11, 12, 13, 14, 15, 16, 17, 18, 19, 20, 21, 22, 23, 24, 25, 26, 27, 28, 29, 224, 225, 226, 227, 228, 229, 240, 241, 242, 243] (by decide +kernel) (by decide +kernel)
set_option maxRecDepth 20000 in
theorem gL_law_X1_init : GoodIn wsL_law (wsX1_init) := ggL_law_X1_init
set_option maxRecDepth 20000 in
theorem ggL_law_X2_init : GoodIn wsL_law wsX2_init := goodIn_r _ [32, 33, 10, 11, 34, 35, 36, 37, 38, 39, 40, 230, 231, 232, 233, 234, 235, 236, 237, 238, 239] (by decide +kernel) (by decide +kernel)
set_option maxRecDepth 20000 in
theorem gL_law_X2_init : GoodIn wsL_law (wsX2_init) := ggL_law_X2_init
set_option maxRecDepth 20000 in
theorem ggL_law_X1_deviceRead : GoodIn wsL_law wsX1_deviceRead := goodIn_r _ [44, 19, 13, 45, 46, 2, 47, 48, 49, 50, 18, 51, 27, 28, 29, 52, 53, 54, 55, 21, 224, 225, 226, 227, 228, 229, 240, 241, 242, 243] (by decide +kernel) (by decide +kernel)
set_option maxRecDepth 20000 in
theorem gL_law_X1_deviceRead : GoodIn wsL_law (wsV RL 13 RX1 yX1_deviceRead wsX1_deviceRead) := goodIn_app (goodIn_of _ (by decide +kernel)) ggL_law_X1_deviceRead
set_option maxRecDepth 20000 in
theorem ggL_law_X2_deviceRead : GoodIn wsL_law wsX2_deviceRead := goodIn_r _ [59, 37, 60, 35, 230, 231, 232, 233, 234, 235, 236, 237, 238, 239] (by decide +kernel) (by decide +kernel)
set_option maxRecDepth 20000 in
theorem gL_law_X2_deviceRead : GoodIn wsL_law (wsV RL 17 RX2 yX2_deviceRead wsX2_deviceRead) := goodIn_app (goodIn_of _ (by decide +kernel)) ggL_law_X2_deviceRead
set_option maxRecDepth 20000 in
theorem ggL_law_X1_deviceWrite : GoodIn wsL_law wsX1_deviceWrite := goodIn_r _ [64, 20, 13, 45, 46, 2, 47, 48, 49, 50, 18, 51, 27, 28, 29, 52, 53, 54, 55, 21, 224, 225, 226, 227, 228, 229, 240, 241, 242, 243] (by decide +kernel) (by decide +kernel)
set_option maxRecDepth 20000 in
theorem gL_law_X1_deviceWrite : GoodIn wsL_law (wsV RL 18 RX1 yX1_deviceWrite wsX1_deviceWrite) := goodIn_app (goodIn_of _ (by decide +kernel)) ggL_law_X1_deviceWrite
set_option maxRecDepth 20000 in
theorem ggL_law_X2_deviceWrite : GoodIn wsL_law wsX2_deviceWrite := goodIn_r _ [68, 38, 60, 35, 230, 231, 232, 233, 234, 235, 236, 237, 238, 239] (by decide +kernel) (by decide +kernel)
set_option maxRecDepth 20000 in
theorem gL_law_X2_deviceWrite : GoodIn wsL_law (wsV RL 22 RX2 yX2_deviceWrite wsX2_deviceWrite) := goodIn_app (goodIn_of _ (by decide +kernel)) ggL_law_X2_deviceWrite
set_option maxRecDepth 20000 in
theorem ggL_law_X1_faults : GoodIn wsL_law wsX1_faults := goodIn_r _ [72, 21, 224, 225, 226, 227, 228, 229] (by decide +kernel) (by decide +kernel)
set_option maxRecDepth 20000 in
theorem gL_law_X1_faults : GoodIn wsL_law (wsV RL 23 RX1 yX1_faults wsX1_faults) := goodIn_app (goodIn_of _ (by decide +kernel)) ggL_law_X1_faults
set_option maxRecDepth 20000 in
theorem ggL_law_X2_faults : GoodIn wsL_law wsX2_faults := goodIn_r _ [76, 60, 230, 231, 232, 233, 234, 235, 236, 237, 238, 239] (by decide +kernel) (by decide +kernel)
set_option maxRecDepth 20000 in
theorem gL_law_X2_faults : GoodIn wsL_law (wsV RL 27 RX2 yX2_faults wsX2_faults) := goodIn_app (goodIn_of _ (by decide +kernel)) ggL_law_X2_faults
set_option maxRecDepth 20000 in
theorem ggL_law_X1_load : GoodIn wsL_law wsX1_load := goodIn_r _ [80, 14, 224, 225, 226, 227, 228, 229] (by decide +kernel) (by decide +kernel)
set_option maxRecDepth 20000 in
theorem gL_law_X1_load : GoodIn wsL_law (wsV RL 28 RX1 yX1_load wsX1_load) := goodIn_app (goodIn_of _ (by decide +kernel)) ggL_law_X1_load
set_option maxRecDepth 20000 in
theorem ggL_law_X2_load : GoodIn wsL_law wsX2_load := goodIn_r _ [84, 39, 230, 231, 232, 233, 234, 235, 236, 237, 238, 239] (by decide +kernel) (by decide +kernel)
set_option maxRecDepth 20000 in
theorem gL_law_X2_load : GoodIn wsL_law (wsV RL 32 RX2 yX2_load wsX2_load) := goodIn_app (goodIn_of _ (by decide +kernel)) ggL_law_X2_load
set_option maxRecDepth 20000 in
theorem ggL_law_X1_send : GoodIn wsL_law wsX1_send := goodIn_r _ [88, 19, 89, 90, 2, 91, 92, 93, 94, 95, 96, 97, 98, 18, 99, 29, 100, 101, 102, 103, 104, 105, 106, 107, 27, 108, 109, 110, 111, 28, 112, 113, 114, 115, 13, 14, 116, 117, 118, 119, 26, 120, 121, 122, 123, 124, 125, 126, 127, 128, 129, 224, 225, 226, 227, 228, 229, 240, 241, 242, 243] (by decide +kernel) (by decide +kernel)
set_option maxRecDepth 20000 in
theorem gL_law_X1_send : GoodIn wsL_law (wsV RL 33 RX1 yX1_send wsX1_send) := goodIn_app (goodIn_of _ (by decide +kernel)) ggL_law_X1_send
set_option maxRecDepth 20000 in
theorem ggL_law_X2_send : GoodIn wsL_law wsX2_send := goodIn_r _ [133, 134, 135, 35, 39, 37, 136, 137, 138, 5, 139, 230, 231, 232, 233, 234, 235, 236, 237, 238, 239] (by decide +kernel) (by decide +kernel)
set_option maxRecDepth 20000 in
theorem gL_law_X2_send : GoodIn wsL_law (wsV RL 36 RX2 yX2_send wsX2_send) := goodIn_app (goodIn_of _ (by decide +kernel)) ggL_law_X2_send
set_option maxRecDepth 20000 in
theorem ggL_law_X1_reclaim : GoodIn wsL_law wsX1_reclaim := goodIn_r _ [143, 19, 144, 145, 146, 2, 147, 13, 96, 97, 98, 18, 99, 29, 116, 117, 118, 119, 26, 108, 109, 110, 111, 28, 148, 149, 150, 151, 224, 225, 226, 227, 228, 229, 240, 241, 242, 243] (by decide +kernel) (by decide +kernel)
set_option maxRecDepth 20000 in
theorem gL_law_X1_reclaim : GoodIn wsL_law (wsV RL 37 RX1 yX1_reclaim wsX1_reclaim) := goodIn_app (goodIn_of _ (by decide +kernel)) ggL_law_X1_reclaim
set_option maxRecDepth 20000 in
theorem ggL_law_X2_reclaim : GoodIn wsL_law wsX2_reclaim := goodIn_r _ [155, 134, 35, 135, 37, 230, 231, 232, 233, 234, 235, 236, 237, 238, 239] (by decide +kernel) (by decide +kernel)
set_option maxRecDepth 20000 in
theorem gL_law_X2_reclaim : GoodIn wsL_law (wsV RL 40 RX2 yX2_reclaim wsX2_reclaim) := goodIn_app (goodIn_of _ (by decide +kernel)) ggL_law_X2_reclaim
set_option maxRecDepth 20000 in
theorem ggL_law_X1_revoke : GoodIn wsL_law wsX1_revoke := goodIn_r _ [159, 19, 160, 141, 142, 2, 143, 144, 145, 146, 147, 13, 96, 97, 98, 18, 99, 29, 116, 117, 118, 119, 26, 108, 109, 110, 111, 28, 148, 149, 150, 151, 161, 162, 163, 164, 165, 166, 167, 168, 224, 225, 226, 227, 228, 229, 240, 241, 242, 243] (by decide +kernel) (by decide +kernel)
set_option maxRecDepth 20000 in
theorem gL_law_X1_revoke : GoodIn wsL_law (wsV RL 41 RX1 yX1_revoke wsX1_revoke) := goodIn_app (goodIn_of _ (by decide +kernel)) ggL_law_X1_revoke
set_option maxRecDepth 20000 in
theorem ggL_law_X2_revoke : GoodIn wsL_law wsX2_revoke := goodIn_r _ [172, 134, 135, 37, 35, 173, 153, 154, 5, 155, 230, 231, 232, 233, 234, 235, 236, 237, 238, 239] (by decide +kernel) (by decide +kernel)
set_option maxRecDepth 20000 in
theorem gL_law_X2_revoke : GoodIn wsL_law (wsV RL 44 RX2 yX2_revoke wsX2_revoke) := goodIn_app (goodIn_of _ (by decide +kernel)) ggL_law_X2_revoke
set_option maxRecDepth 20000 in
theorem ggL_law_X1_post : GoodIn wsL_law wsX1_post := goodIn_r _ [177, 20, 92, 93, 94, 2, 95, 96, 97, 98, 18, 99, 29, 100, 101, 102, 103, 104, 105, 106, 107, 27, 108, 109, 110, 111, 28, 112, 113, 114, 115, 13, 14, 116, 117, 118, 119, 26, 120, 121, 122, 123, 124, 125, 126, 127, 128, 129, 224, 225, 226, 227, 228, 229, 240, 241, 242, 243] (by decide +kernel) (by decide +kernel)
set_option maxRecDepth 20000 in
theorem gL_law_X1_post : GoodIn wsL_law (wsV RL 45 RX1 yX1_post wsX1_post) := goodIn_app (goodIn_of _ (by decide +kernel)) ggL_law_X1_post
set_option maxRecDepth 20000 in
theorem ggL_law_X2_post : GoodIn wsL_law wsX2_post := goodIn_r _ [181, 182, 183, 35, 38, 136, 137, 138, 5, 139, 230, 231, 232, 233, 234, 235, 236, 237, 238, 239] (by decide +kernel) (by decide +kernel)
set_option maxRecDepth 20000 in
theorem gL_law_X2_post : GoodIn wsL_law (wsV RL 48 RX2 yX2_post wsX2_post) := goodIn_app (goodIn_of _ (by decide +kernel)) ggL_law_X2_post
set_option maxRecDepth 20000 in
theorem ggL_law_X1_receive : GoodIn wsL_law wsX1_receive := goodIn_r _ [187, 20, 13, 15, 144, 145, 146, 2, 147, 96, 97, 98, 18, 99, 29, 116, 117, 118, 119, 26, 108, 109, 110, 111, 28, 100, 101, 102, 103, 104, 105, 106, 107, 27, 148, 149, 150, 151, 89, 90, 91, 224, 225, 226, 227, 228, 229, 240, 241, 242, 243] (by decide +kernel) (by decide +kernel)
set_option maxRecDepth 20000 in
theorem gL_law_X1_receive : GoodIn wsL_law (wsV RL 49 RX1 yX1_receive wsX1_receive) := goodIn_app (goodIn_of _ (by decide +kernel)) ggL_law_X1_receive
set_option maxRecDepth 20000 in
theorem ggL_law_X2_receive : GoodIn wsL_law wsX2_receive := goodIn_r _ [191, 182, 35, 183, 38, 40, 230, 231, 232, 233, 234, 235, 236, 237, 238, 239] (by decide +kernel) (by decide +kernel)
set_option maxRecDepth 20000 in
theorem gL_law_X2_receive : GoodIn wsL_law (wsV RL 52 RX2 yX2_receive wsX2_receive) := goodIn_app (goodIn_of _ (by decide +kernel)) ggL_law_X2_receive
set_option maxRecDepth 20000 in
theorem ggL_law_X1_taken : GoodIn wsL_law wsX1_taken := goodIn_r _ [195, 15, 224, 225, 226, 227, 228, 229] (by decide +kernel) (by decide +kernel)
set_option maxRecDepth 20000 in
theorem gL_law_X1_taken : GoodIn wsL_law (wsV RL 53 RX1 yX1_taken wsX1_taken) := goodIn_app (goodIn_of _ (by decide +kernel)) ggL_law_X1_taken
set_option maxRecDepth 20000 in
theorem ggL_law_X2_taken : GoodIn wsL_law wsX2_taken := goodIn_r _ [199, 40, 230, 231, 232, 233, 234, 235, 236, 237, 238, 239] (by decide +kernel) (by decide +kernel)
set_option maxRecDepth 20000 in
theorem gL_law_X2_taken : GoodIn wsL_law (wsV RL 56 RX2 yX2_taken wsX2_taken) := goodIn_app (goodIn_of _ (by decide +kernel)) ggL_law_X2_taken
set_option maxRecDepth 20000 in
theorem ggL_law_X1_withdraw : GoodIn wsL_law wsX1_withdraw := goodIn_r _ [203, 20, 144, 145, 146, 2, 147, 13, 96, 97, 98, 18, 99, 29, 116, 117, 118, 119, 26, 108, 109, 110, 111, 28, 161, 162, 163, 164, 165, 166, 167, 168, 224, 225, 226, 227, 228, 229, 240, 241, 242, 243] (by decide +kernel) (by decide +kernel)
set_option maxRecDepth 20000 in
theorem gL_law_X1_withdraw : GoodIn wsL_law (wsV RL 57 RX1 yX1_withdraw wsX1_withdraw) := goodIn_app (goodIn_of _ (by decide +kernel)) ggL_law_X1_withdraw
set_option maxRecDepth 20000 in
theorem ggL_law_X2_withdraw : GoodIn wsL_law wsX2_withdraw := goodIn_r _ [207, 182, 35, 183, 38, 230, 231, 232, 233, 234, 235, 236, 237, 238, 239] (by decide +kernel) (by decide +kernel)
set_option maxRecDepth 20000 in
theorem gL_law_X2_withdraw : GoodIn wsL_law (wsV RL 60 RX2 yX2_withdraw wsX2_withdraw) := goodIn_app (goodIn_of _ (by decide +kernel)) ggL_law_X2_withdraw
set_option maxRecDepth 20000 in
theorem ggL_law_X1_sending : GoodIn wsL_law wsX1_sending := goodIn_r _ [211, 19, 96, 97, 98, 18, 99, 29, 224, 225, 226, 227, 228, 229, 240, 241, 242, 243] (by decide +kernel) (by decide +kernel)
set_option maxRecDepth 20000 in
theorem gL_law_X1_sending : GoodIn wsL_law (wsV RL 61 RX1 yX1_sending wsX1_sending) := goodIn_app (goodIn_of _ (by decide +kernel)) ggL_law_X1_sending
set_option maxRecDepth 20000 in
theorem ggL_law_X2_sending : GoodIn wsL_law wsX2_sending := goodIn_r _ [215, 134, 230, 231, 232, 233, 234, 235, 236, 237, 238, 239] (by decide +kernel) (by decide +kernel)
set_option maxRecDepth 20000 in
theorem gL_law_X2_sending : GoodIn wsL_law (wsV RL 64 RX2 yX2_sending wsX2_sending) := goodIn_app (goodIn_of _ (by decide +kernel)) ggL_law_X2_sending
set_option maxRecDepth 20000 in
theorem ggL_law_X1_receiving : GoodIn wsL_law wsX1_receiving := goodIn_r _ [219, 20, 96, 97, 98, 18, 99, 29, 224, 225, 226, 227, 228, 229, 240, 241, 242, 243] (by decide +kernel) (by decide +kernel)
set_option maxRecDepth 20000 in
theorem gL_law_X1_receiving : GoodIn wsL_law (wsV RL 65 RX1 yX1_receiving wsX1_receiving) := goodIn_app (goodIn_of _ (by decide +kernel)) ggL_law_X1_receiving
set_option maxRecDepth 20000 in
theorem ggL_law_X2_receiving : GoodIn wsL_law wsX2_receiving := goodIn_r _ [223, 182, 230, 231, 232, 233, 234, 235, 236, 237, 238, 239] (by decide +kernel) (by decide +kernel)
set_option maxRecDepth 20000 in
theorem gL_law_X2_receiving : GoodIn wsL_law (wsV RL 68 RX2 yX2_receiving wsX2_receiving) := goodIn_app (goodIn_of _ (by decide +kernel)) ggL_law_X2_receiving
theorem dL_law_0 : decode cL_law 0 = .ok (.new 7, 3) := by decide +kernel
theorem dL_law_3 : decode cL_law 3 = .ok (.dup, 1) := by decide +kernel
theorem dL_law_4 : decode cL_law 4 = .ok (.invokespecial 9, 3) := by decide +kernel
theorem dL_law_7 : decode cL_law 7 = .ok (.astore_n 1, 1) := by decide +kernel
theorem dL_law_8 : decode cL_law 8 = .ok (.new 10, 3) := by decide +kernel
theorem dL_law_11 : decode cL_law 11 = .ok (.dup, 1) := by decide +kernel
theorem dL_law_12 : decode cL_law 12 = .ok (.invokespecial 12, 3) := by decide +kernel
theorem dL_law_15 : decode cL_law 15 = .ok (.astore_n 2, 1) := by decide +kernel
theorem dL_law_16 : decode cL_law 16 = .ok (.iconst 0, 1) := by decide +kernel
theorem dL_law_17 : decode cL_law 17 = .ok (.istore_n 3, 1) := by decide +kernel
theorem dL_law_18 : decode cL_law 18 = .ok (.iload_n 3, 1) := by decide +kernel
theorem dL_law_19 : decode cL_law 19 = .ok (.aload_n 0, 1) := by decide +kernel
theorem dL_law_20 : decode cL_law 20 = .ok (.arraylength, 1) := by decide +kernel
theorem dL_law_21 : decode cL_law 21 = .ok (.iconst 3, 1) := by decide +kernel
theorem dL_law_22 : decode cL_law 22 = .ok (.isub, 1) := by decide +kernel
theorem dL_law_23 : decode cL_law 23 = .ok (.if_icmp .gt 322, 3) := by decide +kernel
theorem dL_law_26 : decode cL_law 26 = .ok (.aload_n 0, 1) := by decide +kernel
theorem dL_law_27 : decode cL_law 27 = .ok (.iload_n 3, 1) := by decide +kernel
theorem dL_law_28 : decode cL_law 28 = .ok (.iaload, 1) := by decide +kernel
theorem dL_law_29 : decode cL_law 29 = .ok (.bipush 15, 2) := by decide +kernel
theorem dL_law_31 : decode cL_law 31 = .ok (.iand, 1) := by decide +kernel
theorem dL_law_32 : decode cL_law 32 = .ok (.tableswitch 307 0 12 #[68, 91, 124, 137, 170, 193, 206, 219, 232, 245, 268, 281, 294], 68) := by decide +kernel
theorem dL_law_100 : decode cL_law 100 = .ok (.aload_n 1, 1) := by decide +kernel
theorem dL_law_101 : decode cL_law 101 = .ok (.aload_n 0, 1) := by decide +kernel
theorem dL_law_102 : decode cL_law 102 = .ok (.iload_n 3, 1) := by decide +kernel
theorem dL_law_103 : decode cL_law 103 = .ok (.iconst 1, 1) := by decide +kernel
theorem dL_law_104 : decode cL_law 104 = .ok (.iadd, 1) := by decide +kernel
theorem dL_law_105 : decode cL_law 105 = .ok (.iaload, 1) := by decide +kernel
theorem dL_law_106 : decode cL_law 106 = .ok (.invokevirtual 13, 3) := by decide +kernel
theorem dL_law_109 : decode cL_law 109 = .ok (.aload_n 2, 1) := by decide +kernel
theorem dL_law_110 : decode cL_law 110 = .ok (.aload_n 0, 1) := by decide +kernel
theorem dL_law_111 : decode cL_law 111 = .ok (.iload_n 3, 1) := by decide +kernel
theorem dL_law_112 : decode cL_law 112 = .ok (.iconst 1, 1) := by decide +kernel
theorem dL_law_113 : decode cL_law 113 = .ok (.iadd, 1) := by decide +kernel
theorem dL_law_114 : decode cL_law 114 = .ok (.iaload, 1) := by decide +kernel
theorem dL_law_115 : decode cL_law 115 = .ok (.invokevirtual 17, 3) := by decide +kernel
theorem dL_law_118 : decode cL_law 118 = .ok (.if_icmp .eq 221, 3) := by decide +kernel
theorem dL_law_121 : decode cL_law 121 = .ok (.iconst 0, 1) := by decide +kernel
theorem dL_law_122 : decode cL_law 122 = .ok (.ireturn, 1) := by decide +kernel
theorem dL_law_123 : decode cL_law 123 = .ok (.aload_n 1, 1) := by decide +kernel
theorem dL_law_124 : decode cL_law 124 = .ok (.aload_n 0, 1) := by decide +kernel
theorem dL_law_125 : decode cL_law 125 = .ok (.iload_n 3, 1) := by decide +kernel
theorem dL_law_126 : decode cL_law 126 = .ok (.iconst 1, 1) := by decide +kernel
theorem dL_law_127 : decode cL_law 127 = .ok (.iadd, 1) := by decide +kernel
theorem dL_law_128 : decode cL_law 128 = .ok (.iaload, 1) := by decide +kernel
theorem dL_law_129 : decode cL_law 129 = .ok (.aload_n 0, 1) := by decide +kernel
theorem dL_law_130 : decode cL_law 130 = .ok (.iload_n 3, 1) := by decide +kernel
theorem dL_law_131 : decode cL_law 131 = .ok (.iconst 2, 1) := by decide +kernel
theorem dL_law_132 : decode cL_law 132 = .ok (.iadd, 1) := by decide +kernel
theorem dL_law_133 : decode cL_law 133 = .ok (.iaload, 1) := by decide +kernel
theorem dL_law_134 : decode cL_law 134 = .ok (.invokevirtual 18, 3) := by decide +kernel
theorem dL_law_137 : decode cL_law 137 = .ok (.aload_n 2, 1) := by decide +kernel
theorem dL_law_138 : decode cL_law 138 = .ok (.aload_n 0, 1) := by decide +kernel
theorem dL_law_139 : decode cL_law 139 = .ok (.iload_n 3, 1) := by decide +kernel
theorem dL_law_140 : decode cL_law 140 = .ok (.iconst 1, 1) := by decide +kernel
theorem dL_law_141 : decode cL_law 141 = .ok (.iadd, 1) := by decide +kernel
theorem dL_law_142 : decode cL_law 142 = .ok (.iaload, 1) := by decide +kernel
theorem dL_law_143 : decode cL_law 143 = .ok (.aload_n 0, 1) := by decide +kernel
theorem dL_law_144 : decode cL_law 144 = .ok (.iload_n 3, 1) := by decide +kernel
theorem dL_law_145 : decode cL_law 145 = .ok (.iconst 2, 1) := by decide +kernel
theorem dL_law_146 : decode cL_law 146 = .ok (.iadd, 1) := by decide +kernel
theorem dL_law_147 : decode cL_law 147 = .ok (.iaload, 1) := by decide +kernel
theorem dL_law_148 : decode cL_law 148 = .ok (.invokevirtual 22, 3) := by decide +kernel
theorem dL_law_151 : decode cL_law 151 = .ok (.if_icmp .eq 188, 3) := by decide +kernel
theorem dL_law_154 : decode cL_law 154 = .ok (.iconst 0, 1) := by decide +kernel
theorem dL_law_155 : decode cL_law 155 = .ok (.ireturn, 1) := by decide +kernel
theorem dL_law_156 : decode cL_law 156 = .ok (.aload_n 1, 1) := by decide +kernel
theorem dL_law_157 : decode cL_law 157 = .ok (.invokevirtual 23, 3) := by decide +kernel
theorem dL_law_160 : decode cL_law 160 = .ok (.aload_n 2, 1) := by decide +kernel
theorem dL_law_161 : decode cL_law 161 = .ok (.invokevirtual 27, 3) := by decide +kernel
theorem dL_law_164 : decode cL_law 164 = .ok (.if_icmp .eq 175, 3) := by decide +kernel
theorem dL_law_167 : decode cL_law 167 = .ok (.iconst 0, 1) := by decide +kernel
theorem dL_law_168 : decode cL_law 168 = .ok (.ireturn, 1) := by decide +kernel
theorem dL_law_169 : decode cL_law 169 = .ok (.aload_n 1, 1) := by decide +kernel
theorem dL_law_170 : decode cL_law 170 = .ok (.aload_n 0, 1) := by decide +kernel
theorem dL_law_171 : decode cL_law 171 = .ok (.iload_n 3, 1) := by decide +kernel
theorem dL_law_172 : decode cL_law 172 = .ok (.iconst 1, 1) := by decide +kernel
theorem dL_law_173 : decode cL_law 173 = .ok (.iadd, 1) := by decide +kernel
theorem dL_law_174 : decode cL_law 174 = .ok (.iaload, 1) := by decide +kernel
theorem dL_law_175 : decode cL_law 175 = .ok (.aload_n 0, 1) := by decide +kernel
theorem dL_law_176 : decode cL_law 176 = .ok (.iload_n 3, 1) := by decide +kernel
theorem dL_law_177 : decode cL_law 177 = .ok (.iconst 2, 1) := by decide +kernel
theorem dL_law_178 : decode cL_law 178 = .ok (.iadd, 1) := by decide +kernel
theorem dL_law_179 : decode cL_law 179 = .ok (.iaload, 1) := by decide +kernel
theorem dL_law_180 : decode cL_law 180 = .ok (.invokevirtual 28, 3) := by decide +kernel
theorem dL_law_183 : decode cL_law 183 = .ok (.aload_n 2, 1) := by decide +kernel
theorem dL_law_184 : decode cL_law 184 = .ok (.aload_n 0, 1) := by decide +kernel
theorem dL_law_185 : decode cL_law 185 = .ok (.iload_n 3, 1) := by decide +kernel
theorem dL_law_186 : decode cL_law 186 = .ok (.iconst 1, 1) := by decide +kernel
theorem dL_law_187 : decode cL_law 187 = .ok (.iadd, 1) := by decide +kernel
theorem dL_law_188 : decode cL_law 188 = .ok (.iaload, 1) := by decide +kernel
theorem dL_law_189 : decode cL_law 189 = .ok (.aload_n 0, 1) := by decide +kernel
theorem dL_law_190 : decode cL_law 190 = .ok (.iload_n 3, 1) := by decide +kernel
theorem dL_law_191 : decode cL_law 191 = .ok (.iconst 2, 1) := by decide +kernel
theorem dL_law_192 : decode cL_law 192 = .ok (.iadd, 1) := by decide +kernel
theorem dL_law_193 : decode cL_law 193 = .ok (.iaload, 1) := by decide +kernel
theorem dL_law_194 : decode cL_law 194 = .ok (.invokevirtual 32, 3) := by decide +kernel
theorem dL_law_197 : decode cL_law 197 = .ok (.if_icmp .eq 142, 3) := by decide +kernel
theorem dL_law_200 : decode cL_law 200 = .ok (.iconst 0, 1) := by decide +kernel
theorem dL_law_201 : decode cL_law 201 = .ok (.ireturn, 1) := by decide +kernel
theorem dL_law_202 : decode cL_law 202 = .ok (.aload_n 1, 1) := by decide +kernel
theorem dL_law_203 : decode cL_law 203 = .ok (.aload_n 0, 1) := by decide +kernel
theorem dL_law_204 : decode cL_law 204 = .ok (.iload_n 3, 1) := by decide +kernel
theorem dL_law_205 : decode cL_law 205 = .ok (.iconst 1, 1) := by decide +kernel
theorem dL_law_206 : decode cL_law 206 = .ok (.iadd, 1) := by decide +kernel
theorem dL_law_207 : decode cL_law 207 = .ok (.iaload, 1) := by decide +kernel
theorem dL_law_208 : decode cL_law 208 = .ok (.invokevirtual 33, 3) := by decide +kernel
theorem dL_law_211 : decode cL_law 211 = .ok (.aload_n 2, 1) := by decide +kernel
theorem dL_law_212 : decode cL_law 212 = .ok (.aload_n 0, 1) := by decide +kernel
theorem dL_law_213 : decode cL_law 213 = .ok (.iload_n 3, 1) := by decide +kernel
theorem dL_law_214 : decode cL_law 214 = .ok (.iconst 1, 1) := by decide +kernel
theorem dL_law_215 : decode cL_law 215 = .ok (.iadd, 1) := by decide +kernel
theorem dL_law_216 : decode cL_law 216 = .ok (.iaload, 1) := by decide +kernel
theorem dL_law_217 : decode cL_law 217 = .ok (.invokevirtual 36, 3) := by decide +kernel
theorem dL_law_220 : decode cL_law 220 = .ok (.if_icmp .eq 119, 3) := by decide +kernel
theorem dL_law_223 : decode cL_law 223 = .ok (.iconst 0, 1) := by decide +kernel
theorem dL_law_224 : decode cL_law 224 = .ok (.ireturn, 1) := by decide +kernel
theorem dL_law_225 : decode cL_law 225 = .ok (.aload_n 1, 1) := by decide +kernel
theorem dL_law_226 : decode cL_law 226 = .ok (.invokevirtual 37, 3) := by decide +kernel
theorem dL_law_229 : decode cL_law 229 = .ok (.aload_n 2, 1) := by decide +kernel
theorem dL_law_230 : decode cL_law 230 = .ok (.invokevirtual 40, 3) := by decide +kernel
theorem dL_law_233 : decode cL_law 233 = .ok (.if_icmp .eq 106, 3) := by decide +kernel
theorem dL_law_236 : decode cL_law 236 = .ok (.iconst 0, 1) := by decide +kernel
theorem dL_law_237 : decode cL_law 237 = .ok (.ireturn, 1) := by decide +kernel
theorem dL_law_238 : decode cL_law 238 = .ok (.aload_n 1, 1) := by decide +kernel
theorem dL_law_239 : decode cL_law 239 = .ok (.invokevirtual 41, 3) := by decide +kernel
theorem dL_law_242 : decode cL_law 242 = .ok (.aload_n 2, 1) := by decide +kernel
theorem dL_law_243 : decode cL_law 243 = .ok (.invokevirtual 44, 3) := by decide +kernel
theorem dL_law_246 : decode cL_law 246 = .ok (.if_icmp .eq 93, 3) := by decide +kernel
theorem dL_law_249 : decode cL_law 249 = .ok (.iconst 0, 1) := by decide +kernel
theorem dL_law_250 : decode cL_law 250 = .ok (.ireturn, 1) := by decide +kernel
theorem dL_law_251 : decode cL_law 251 = .ok (.aload_n 1, 1) := by decide +kernel
theorem dL_law_252 : decode cL_law 252 = .ok (.invokevirtual 45, 3) := by decide +kernel
theorem dL_law_255 : decode cL_law 255 = .ok (.aload_n 2, 1) := by decide +kernel
theorem dL_law_256 : decode cL_law 256 = .ok (.invokevirtual 48, 3) := by decide +kernel
theorem dL_law_259 : decode cL_law 259 = .ok (.if_icmp .eq 80, 3) := by decide +kernel
theorem dL_law_262 : decode cL_law 262 = .ok (.iconst 0, 1) := by decide +kernel
theorem dL_law_263 : decode cL_law 263 = .ok (.ireturn, 1) := by decide +kernel
theorem dL_law_264 : decode cL_law 264 = .ok (.aload_n 1, 1) := by decide +kernel
theorem dL_law_265 : decode cL_law 265 = .ok (.invokevirtual 49, 3) := by decide +kernel
theorem dL_law_268 : decode cL_law 268 = .ok (.aload_n 2, 1) := by decide +kernel
theorem dL_law_269 : decode cL_law 269 = .ok (.invokevirtual 52, 3) := by decide +kernel
theorem dL_law_272 : decode cL_law 272 = .ok (.if_icmp .eq 67, 3) := by decide +kernel
theorem dL_law_275 : decode cL_law 275 = .ok (.iconst 0, 1) := by decide +kernel
theorem dL_law_276 : decode cL_law 276 = .ok (.ireturn, 1) := by decide +kernel
theorem dL_law_277 : decode cL_law 277 = .ok (.aload_n 1, 1) := by decide +kernel
theorem dL_law_278 : decode cL_law 278 = .ok (.aload_n 0, 1) := by decide +kernel
theorem dL_law_279 : decode cL_law 279 = .ok (.iload_n 3, 1) := by decide +kernel
theorem dL_law_280 : decode cL_law 280 = .ok (.iconst 1, 1) := by decide +kernel
theorem dL_law_281 : decode cL_law 281 = .ok (.iadd, 1) := by decide +kernel
theorem dL_law_282 : decode cL_law 282 = .ok (.iaload, 1) := by decide +kernel
theorem dL_law_283 : decode cL_law 283 = .ok (.invokevirtual 53, 3) := by decide +kernel
theorem dL_law_286 : decode cL_law 286 = .ok (.aload_n 2, 1) := by decide +kernel
theorem dL_law_287 : decode cL_law 287 = .ok (.aload_n 0, 1) := by decide +kernel
theorem dL_law_288 : decode cL_law 288 = .ok (.iload_n 3, 1) := by decide +kernel
theorem dL_law_289 : decode cL_law 289 = .ok (.iconst 1, 1) := by decide +kernel
theorem dL_law_290 : decode cL_law 290 = .ok (.iadd, 1) := by decide +kernel
theorem dL_law_291 : decode cL_law 291 = .ok (.iaload, 1) := by decide +kernel
theorem dL_law_292 : decode cL_law 292 = .ok (.invokevirtual 56, 3) := by decide +kernel
theorem dL_law_295 : decode cL_law 295 = .ok (.if_icmp .eq 44, 3) := by decide +kernel
theorem dL_law_298 : decode cL_law 298 = .ok (.iconst 0, 1) := by decide +kernel
theorem dL_law_299 : decode cL_law 299 = .ok (.ireturn, 1) := by decide +kernel
theorem dL_law_300 : decode cL_law 300 = .ok (.aload_n 1, 1) := by decide +kernel
theorem dL_law_301 : decode cL_law 301 = .ok (.invokevirtual 57, 3) := by decide +kernel
theorem dL_law_304 : decode cL_law 304 = .ok (.aload_n 2, 1) := by decide +kernel
theorem dL_law_305 : decode cL_law 305 = .ok (.invokevirtual 60, 3) := by decide +kernel
theorem dL_law_308 : decode cL_law 308 = .ok (.if_icmp .eq 31, 3) := by decide +kernel
theorem dL_law_311 : decode cL_law 311 = .ok (.iconst 0, 1) := by decide +kernel
theorem dL_law_312 : decode cL_law 312 = .ok (.ireturn, 1) := by decide +kernel
theorem dL_law_313 : decode cL_law 313 = .ok (.aload_n 1, 1) := by decide +kernel
theorem dL_law_314 : decode cL_law 314 = .ok (.invokevirtual 61, 3) := by decide +kernel
theorem dL_law_317 : decode cL_law 317 = .ok (.aload_n 2, 1) := by decide +kernel
theorem dL_law_318 : decode cL_law 318 = .ok (.invokevirtual 64, 3) := by decide +kernel
theorem dL_law_321 : decode cL_law 321 = .ok (.if_icmp .eq 18, 3) := by decide +kernel
theorem dL_law_324 : decode cL_law 324 = .ok (.iconst 0, 1) := by decide +kernel
theorem dL_law_325 : decode cL_law 325 = .ok (.ireturn, 1) := by decide +kernel
theorem dL_law_326 : decode cL_law 326 = .ok (.aload_n 1, 1) := by decide +kernel
theorem dL_law_327 : decode cL_law 327 = .ok (.invokevirtual 65, 3) := by decide +kernel
theorem dL_law_330 : decode cL_law 330 = .ok (.aload_n 2, 1) := by decide +kernel
theorem dL_law_331 : decode cL_law 331 = .ok (.invokevirtual 68, 3) := by decide +kernel
theorem dL_law_334 : decode cL_law 334 = .ok (.if_icmp .eq 5, 3) := by decide +kernel
theorem dL_law_337 : decode cL_law 337 = .ok (.iconst 0, 1) := by decide +kernel
theorem dL_law_338 : decode cL_law 338 = .ok (.ireturn, 1) := by decide +kernel
theorem dL_law_339 : decode cL_law 339 = .ok (.iinc 3 3, 3) := by decide +kernel
theorem dL_law_342 : decode cL_law 342 = .ok (.goto (-324), 3) := by decide +kernel
theorem dL_law_345 : decode cL_law 345 = .ok (.iconst 1, 1) := by decide +kernel
theorem dL_law_346 : decode cL_law 346 = .ok (.ireturn, 1) := by decide +kernel
end
section
/-! bytes, words, arrays of Nat values -/
theorem W_gen {p : Program} {l : Launch} {e : Env} {R : Room} {s : State} {m : MethodId} {args : Array Value} {below : List Frame} {meth : Method} {c : Code} {H : Heap} {locs : List Loc} {cells slots : Nat} {Q : State → Prop} {g : JFrame} (k : ∀ Q' : State → Prop, Q' = Q → W p l e R s m args below meth c H locs cells slots Q' g) : W p l e R s m args below meth c H locs cells slots Q g := k Q rfl
theorem bp_b (x : Int32) : x.toInt8.toInt32 &&& 255 = x &&& 255 := by
  apply Int32.toBitVec_inj.mp
  rw [Int32.toBitVec_and, Int32.toBitVec_and, Int8.toBitVec_toInt32, Int32.toBitVec_toInt8]
  apply BitVec.eq_of_getLsbD_eq
  intro i hi
  rw [BitVec.getLsbD_and, BitVec.getLsbD_and]
  have hm : ∀ i < 32, 8 ≤ i → (255 : Int32).toBitVec.getLsbD i = false := by decide
  rcases Nat.lt_or_ge i 8 with z | z
  · rw [BitVec.getLsbD_signExtend, BitVec.getLsbD_signExtend, if_pos z, if_pos hi]
    simp only [z, hi, decide_true, Bool.true_and]
  · rw [hm i hi z]; simp
def lo (x : Int32) : Nat := x.toBitVec.toNat % 256
def nM (M : Nat → Nat) : Nat → Int32 := fun j => nI (M j)
def bM (M : Nat → Nat) : Nat → Int32 := fun j => sb_b (M j)
def updN (M : Nat → Nat) (a v : Nat) : Nat → Nat := fun j => if j = a then v else M j
def b01 (c : Bool) : Int32 := if c then nI 1 else nI 0
def sel (c : Bool) (x y : Int32) : Int32 := if c then x else y
def selM (c : Bool) (x y : Nat → Nat) : Nat → Nat := if c then x else y
def selN (c : Bool) (x y : Nat) : Nat := if c then x else y
def opn (fp t n p : Nat) : Bool := decide (fp ≤ p ∧ p < fp + 8 ∧ (p - fp + 8 - t) % 8 < n)
def ropn (fp t n a : Nat) : Bool := decide (a < 128) || opn fp t n (a / 16)
def okA (fp t n a : Nat) : Bool := decide (a < 384) && ropn fp t n a
def rdF (fp t n : Nat) : Nat → Int32 := fun p => b01 (decide (p < 8) || opn fp t n p)
def rdG (fp t k i n : Nat) : Nat → Int32 := fun p => b01 (decide (p < 8 ∨ fp ≤ p ∧ p < fp + 8 ∧ ((p - fp + 8 - t) % 8 < k ∨ i ≤ (p - fp + 8 - t) % 8 ∧ (p - fp + 8 - t) % 8 < n)))
def rdP (k : Nat) : Nat → Int32 := fun p => b01 (decide (p < k))
theorem lo_lt (x : Int32) : lo x < 256 := Nat.mod_lt _ (by decide)
theorem n_and255 (x : Int32) : x &&& nI 255 = nI (lo x) := pk_and x 8 (by decide)
theorem n_and15 (x : Int32) : ∃ j : Nat, j < 16 ∧ x &&& nI 15 = nI j := pk_andE x 4 (by decide)
theorem n_and7 {n : Nat} (h : n < 2 ^ 32) : nI n &&& nI 7 = nI (n % 8) := pk_andN h 3 (by decide)
theorem n_sub7 : ∀ s : Nat, s < 8 → ∀ t : Nat, t < 8 → (nI s - nI t) &&& nI 7 = nI ((s + 8 - t) % 8) := by decide +kernel
theorem n_i2b (x : Int32) : x.toInt8.toInt32 = sb_b (lo x) := by
  refine (sc_eq (b := x.toInt8.toInt32) (by simp) (lo_lt x)).mpr ?_
  rw [bp_b]
  exact n_and255 x
theorem n_i2bN {n : Nat} (h : n < 256) : (nI n).toInt8.toInt32 = sb_b n := rfl
theorem n_bAnd {c : Nat} (h : c < 256) : sb_b c &&& nI 255 = nI c := (sb_byte c h).1
theorem n_b0 : ∀ c : Nat, c < 256 → (sb_b c = 0 ↔ c = 0) := by decide +kernel
theorem n_00 : ∀ c : Nat, c < 2 ^ 31 → (nI c = 0 ↔ c = 0) := fun c h => by
  rw [← nI_0]; exact nI_eq h (by decide)
theorem n_pos : ∀ c : Nat, c < 2 ^ 31 → (0 < nI c ↔ 0 < c) := fun c h => by
  rw [← nI_0]; exact nI_ltI (by decide) h
theorem n_le0 : ∀ c : Nat, c < 2 ^ 31 → (nI c ≤ 0 ↔ c = 0) := fun c h => by
  rw [← nI_0, nI_leI h (by decide)]; omega
theorem rdA (f : Nat → Int32) {a : Nat} (h : a < 2 ^ 31) : f (nI a).toNatClampNeg = f a := by rw [nI_clamp h]
theorem updI {M : Nat → Nat} {a v : Nat} (h : a < 2 ^ 31) : upd (nM M) (nI a).toNatClampNeg (nI v) = nM (updN M a v) := by
  funext j
  rw [nI_clamp h]
  unfold upd nM updN
  by_cases hj : j = a <;> simp [hj]
theorem updB {M : Nat → Nat} {a v : Nat} {x : Int32} (h : a < 2 ^ 31) (hx : vp_nar .byte x = sb_b v) : upd (bM M) (nI a).toNatClampNeg (vp_nar .byte x) = bM (updN M a v) := by
  funext j
  rw [nI_clamp h, hx]
  unfold upd bM updN
  by_cases hj : j = a <;> simp [hj]
theorem nar_sb (v : Nat) : vp_nar .byte (sb_b v) = sb_b v := pk_vb (nI v)
theorem nar_b0 : vp_nar .byte (nI 0) = sb_b 0 := by decide +kernel
theorem nar_b1 : vp_nar .byte (nI 1) = sb_b 1 := by decide +kernel
theorem nar_z0 : vp_nar .boolean (nI 0) = nI 0 := by decide +kernel
theorem nar_z1 : vp_nar .boolean (nI 1) = nI 1 := by decide +kernel
theorem b01_e {c : Bool} (h : b01 c = 0) : c = false := by
  cases c
  · rfl
  · exact absurd h (by decide +kernel)
theorem b01_n {c : Bool} (h : ¬ b01 c = 0) : c = true := by
  cases c
  · exact absurd (by decide +kernel) h
  · rfl
theorem b01_t {c : Bool} (h : c = true) : nI 1 = b01 c := by rw [h]; rfl
theorem b01_f {c : Bool} (h : c = false) : nI 0 = b01 c := by rw [h]; rfl
theorem sel_t {c : Bool} {x y : Int32} (h : c = true) : x = sel c x y := by rw [h]; rfl
theorem sel_f {c : Bool} {x y : Int32} (h : c = false) : y = sel c x y := by rw [h]; rfl
theorem selM_t {c : Bool} {x y : Nat → Nat} (h : c = true) : x = selM c x y := by rw [h]; rfl
theorem selM_f {c : Bool} {x y : Nat → Nat} (h : c = false) : y = selM c x y := by rw [h]; rfl
theorem selN_t {c : Bool} {x y : Nat} (h : c = true) : x = selN c x y := by rw [h]; rfl
theorem selN_f {c : Bool} {x y : Nat} (h : c = false) : y = selN c x y := by rw [h]; rfl
theorem opn_t {fp t n p : Nat} (h : opn fp t n p = true) : fp ≤ p ∧ p < fp + 8 ∧ (p - fp + 8 - t) % 8 < n := of_decide_eq_true h
theorem opn_f {fp t n p : Nat} (h : opn fp t n p = false) : ¬ (fp ≤ p ∧ p < fp + 8 ∧ (p - fp + 8 - t) % 8 < n) := of_decide_eq_false h
theorem opn_y {fp t n p : Nat} (h : fp ≤ p ∧ p < fp + 8 ∧ (p - fp + 8 - t) % 8 < n) : opn fp t n p = true := decide_eq_true h
theorem opn_n {fp t n p : Nat} (h : ¬ (fp ≤ p ∧ p < fp + 8 ∧ (p - fp + 8 - t) % 8 < n)) : opn fp t n p = false := decide_eq_false h
theorem ropn_lo {fp t n a : Nat} (h : a < 128) : ropn fp t n a = true := by unfold ropn; simp [h]
theorem ropn_hi {fp t n a : Nat} (h : 128 ≤ a) : ropn fp t n a = opn fp t n (a / 16) := by unfold ropn; simp [Nat.not_lt.mpr h]
theorem okA_in {fp t n a : Nat} (h : a < 384) : okA fp t n a = ropn fp t n a := by unfold okA; simp [h]
theorem okA_out {fp t n : Nat} : okA fp t n 384 = false := rfl
theorem rdF_at {fp t n a : Nat} : rdF fp t n (a / 16) = b01 (ropn fp t n a) := by
  unfold rdF ropn
  have : decide (a / 16 < 8) = decide (a < 128) := by simp only [decide_eq_decide]; omega
  rw [this]
/-- an index: N stands for 'none' -/
def IX (p : Int32) (N a : Nat) : Prop := (p < 0 ∧ a = N) ∨ ((¬ p < 0 ∧ nI N ≤ p) ∧ a = N) ∨ (a < N ∧ p = nI a)
theorem IX_ex (p : Int32) {N : Nat} (hN : N < 2 ^ 31) : ∃ a, IX p N a := by
  by_cases h : p < 0
  · exact ⟨N, Or.inl ⟨h, rfl⟩⟩
  · rcases pk_ix p hN with h1 | h1 | ⟨j, h1, h2⟩
    · exact absurd h1 h
    · exact ⟨N, Or.inr (Or.inl ⟨⟨h, h1⟩, rfl⟩)⟩
    · exact ⟨j, Or.inr (Or.inr ⟨h1, h2⟩)⟩
/-- a frame's length: 0 stands for 'none' -/
def LX (p : Int32) (k : Nat) : Prop := (p < nI 1 ∧ k = 0) ∨ ((¬ p < nI 1 ∧ nI 16 < p) ∧ k = 0) ∨ ((1 ≤ k ∧ k ≤ 16) ∧ p = nI k)
theorem LX_nI {c : Nat} (h : c < 256) : LX (nI c) (selN (decide (1 ≤ c ∧ c ≤ 16)) c 0) := by
  by_cases h1 : 1 ≤ c ∧ c ≤ 16
  · rw [← selN_t (decide_eq_true h1)]
    exact Or.inr (Or.inr ⟨h1, rfl⟩)
  · rw [← selN_f (decide_eq_false h1)]
    by_cases h2 : c < 1
    · exact Or.inl ⟨nI_lt h2 (by decide), rfl⟩
    · exact Or.inr (Or.inl ⟨⟨nI_nlt (by omega) (by omega), nI_lt (by omega) (by omega)⟩, rfl⟩)
theorem LX_ex (p : Int32) : ∃ k, LX p k := by
  by_cases h : p < nI 1
  · exact ⟨0, Or.inl ⟨h, rfl⟩⟩
  · by_cases h2 : nI 16 < p
    · exact ⟨0, Or.inr (Or.inl ⟨⟨h, h2⟩, rfl⟩)⟩
    · rcases pk_ix p (n := 17) (by decide) with h3 | h3 | ⟨j, h3, h4⟩
      · exact absurd (Int32.lt_trans h3 (by decide)) h
      · exact absurd (Int32.lt_of_lt_of_le (by decide) h3) h2
      · subst h4
        refine ⟨j, Or.inr (Or.inr ⟨⟨?_, by omega⟩, rfl⟩)⟩
        rcases Nat.lt_or_ge j 1 with q | q
        · exact absurd (nI_lt q (by decide)) h
        · exact q
theorem IX_le {p : Int32} {N a : Nat} (h : IX p N a) : a ≤ N := by
  rcases h with ⟨_, h⟩ | ⟨_, h⟩ | ⟨h, _⟩ <;> omega
theorem LX_le {p : Int32} {k : Nat} (h : LX p k) : k ≤ 16 := by
  rcases h with ⟨_, h⟩ | ⟨_, h⟩ | ⟨h, _⟩ <;> omega
/-! how many from the oldest on are given back -/
def lead (P : Nat → Bool) : Nat → Nat
  | 0 => 0
  | n + 1 => if lead P n = n ∧ P n = true then n + 1 else lead P n
theorem lead_le (P : Nat → Bool) (n : Nat) : lead P n ≤ n := by
  induction n with
  | zero => exact Nat.le_refl 0
  | succ n ih => unfold lead; split <;> omega
theorem lead_all (P : Nat → Bool) (n : Nat) : ∀ j, j < lead P n → P j = true := by
  induction n with
  | zero => intro j h; exact absurd h (Nat.not_lt_zero _)
  | succ n ih =>
    intro j h
    unfold lead at h
    split at h
    · rename_i hc
      rcases Nat.lt_or_ge j n with q | q
      · exact ih j (by omega)
      · rw [show j = n by omega]; exact hc.2
    · exact ih j h
theorem lead_eq {P : Nat → Bool} {n k : Nat} (h1 : k ≤ n) (h2 : ∀ j, j < k → P j = true) (h3 : k = n ∨ P k = false) : lead P n = k := by
  induction n with
  | zero => show 0 = k; omega
  | succ n ih =>
    unfold lead
    rcases Nat.lt_or_ge n k with q | q
    · have e : lead P n = n := by
        have : ∀ i, i ≤ n → lead P i = i := by
          intro i
          induction i with
          | zero => intro _; rfl
          | succ i ihi => intro hi; unfold lead; rw [if_pos ⟨ihi (by omega), h2 i (by omega)⟩]
        exact this n (Nat.le_refl n)
      rw [if_pos ⟨e, h2 n q⟩]; omega
    · have h4 : P k = false := by
        rcases h3 with h | h
        · omega
        · exact h
      have e := ih q (Or.inr h4)
      rw [e]
      split
      · rename_i hc
        rw [hc.1] at h4
        rw [h4] at hc
        exact absurd hc.2 (by decide)
      · rfl
def gbP (M : Nat → Nat) (rs t : Nat) : Nat → Bool := fun p => decide (M (rs + 8 * ((t + p) % 8) + 2) = 0)
theorem gbP_t {M : Nat → Nat} {rs t p : Nat} (h : M (rs + 8 * ((t + p) % 8) + 2) = 0) : gbP M rs t p = true := decide_eq_true h
theorem gbP_f {M : Nat → Nat} {rs t p : Nat} (h : ¬ M (rs + 8 * ((t + p) % 8) + 2) = 0) : gbP M rs t p = false := decide_eq_false h
def gvB (M : Nat → Nat) (rs t n p : Nat) : Bool := decide (p < n) && gbP M rs t p
/-! memory after a method -/
def fbI (M O : Nat → Nat) (b len i : Nat) : Nat → Nat := fun j => if b ≤ j ∧ j < b + i then (if j - b < len then O (j - b) else 0) else M j
def fdI (M : Nat → Nat) (d pg len i : Nat) : Nat → Nat := fun j => if d ≤ j ∧ j < d + i then (if j = d then pg else if j = d + 1 then len else if j = d + 2 then 1 else 0) else M j
def zrI (M : Nat → Nat) (d i : Nat) : Nat → Nat := fun j => if d ≤ j ∧ j < d + i then 0 else M j
def clM (M : Nat → Nat) (rs t k i : Nat) : Nat → Nat := fun j => if rs ≤ j ∧ j < rs + 64 ∧ (j - rs) % 8 = 2 ∧ k ≤ ((j - rs) / 8 + 8 - t) % 8 ∧ ((j - rs) / 8 + 8 - t) % 8 < i then 0 else M j
def cpI (I M : Nat → Nat) (b i : Nat) : Nat → Nat := fun j => if j < i then M (b + j) else I j
theorem fbI_0 {M O : Nat → Nat} {b len : Nat} : M = fbI M O b len 0 := by
  funext j; unfold fbI; rw [if_neg (by omega)]
theorem fbI_s1 {M O : Nat → Nat} {b len i : Nat} (h : i < len) : updN (fbI M O b len i) (b + i) (O i) = fbI M O b len (i + 1) := by
  funext j; unfold updN fbI
  by_cases hj : j = b + i
  · subst hj; rw [if_pos rfl, if_pos (by omega), if_pos (by omega), Nat.add_sub_cancel_left]
  · rw [if_neg hj]
    by_cases h1 : b ≤ j ∧ j < b + i
    · have h2 : b ≤ j ∧ j < b + (i + 1) := by omega
      rw [if_pos h1, if_pos h2]
    · have h2 : ¬ (b ≤ j ∧ j < b + (i + 1)) := by omega
      rw [if_neg h1, if_neg h2]
theorem fbI_s0 {M O : Nat → Nat} {b len i : Nat} (h : len ≤ i) : updN (fbI M O b len i) (b + i) 0 = fbI M O b len (i + 1) := by
  funext j; unfold updN fbI
  by_cases hj : j = b + i
  · subst hj; rw [if_pos rfl, if_pos (by omega), if_neg (by omega)]
  · rw [if_neg hj]
    by_cases h1 : b ≤ j ∧ j < b + i
    · have h2 : b ≤ j ∧ j < b + (i + 1) := by omega
      rw [if_pos h1, if_pos h2]
    · have h2 : ¬ (b ≤ j ∧ j < b + (i + 1)) := by omega
      rw [if_neg h1, if_neg h2]
theorem fdI_3 {M : Nat → Nat} {d pg len : Nat} : updN (updN (updN M d pg) (d + 1) len) (d + 2) 1 = fdI M d pg len 3 := by
  funext j; unfold updN fdI
  by_cases h0 : j = d
  · subst h0; rw [if_neg (by omega), if_neg (by omega), if_pos rfl, if_pos (by omega), if_pos rfl]
  · by_cases h1 : j = d + 1
    · subst h1; rw [if_neg (by omega), if_pos rfl, if_pos (by omega), if_neg (by omega), if_pos rfl]
    · by_cases h2 : j = d + 2
      · subst h2; rw [if_pos rfl, if_pos (by omega), if_neg (by omega), if_neg (by omega), if_pos rfl]
      · rw [if_neg h2, if_neg h1, if_neg h0, if_neg (by omega)]
theorem fdI_s {M : Nat → Nat} {d pg len i : Nat} (h : 3 ≤ i) : updN (fdI M d pg len i) (d + i) 0 = fdI M d pg len (i + 1) := by
  funext j; unfold updN fdI
  by_cases hj : j = d + i
  · subst hj; rw [if_pos rfl, if_pos (by omega), if_neg (by omega), if_neg (by omega), if_neg (by omega)]
  · rw [if_neg hj]
    by_cases h1 : d ≤ j ∧ j < d + i
    · have h2 : d ≤ j ∧ j < d + (i + 1) := by omega
      rw [if_pos h1, if_pos h2]
    · have h2 : ¬ (d ≤ j ∧ j < d + (i + 1)) := by omega
      rw [if_neg h1, if_neg h2]
theorem zrI_0 {M : Nat → Nat} {d : Nat} : M = zrI M d 0 := by
  funext j; unfold zrI; rw [if_neg (by omega)]
theorem zrI_s {M : Nat → Nat} {d i : Nat} : updN (zrI M d i) (d + i) 0 = zrI M d (i + 1) := by
  funext j; unfold updN zrI
  by_cases hj : j = d + i
  · subst hj; rw [if_pos rfl, if_pos (by omega)]
  · rw [if_neg hj]
    by_cases h1 : d ≤ j ∧ j < d + i
    · have h2 : d ≤ j ∧ j < d + (i + 1) := by omega
      rw [if_pos h1, if_pos h2]
    · have h2 : ¬ (d ≤ j ∧ j < d + (i + 1)) := by omega
      rw [if_neg h1, if_neg h2]
theorem zrI_8 {M : Nat → Nat} {d pg len : Nat} : updN (updN (updN (zrI M d 8) d pg) (d + 1) len) (d + 2) 1 = fdI M d pg len 8 := by
  funext j; unfold updN fdI zrI
  by_cases h0 : j = d
  · subst h0; rw [if_neg (by omega), if_neg (by omega), if_pos rfl, if_pos (by omega), if_pos rfl]
  · by_cases h1 : j = d + 1
    · subst h1; rw [if_neg (by omega), if_pos rfl, if_pos (by omega), if_neg (by omega), if_pos rfl]
    · by_cases h2 : j = d + 2
      · subst h2; rw [if_pos rfl, if_pos (by omega), if_neg (by omega), if_neg (by omega), if_pos rfl]
      · rw [if_neg h2, if_neg h1, if_neg h0]
        by_cases h3 : d ≤ j ∧ j < d + 8
        · rw [if_pos h3, if_pos h3, if_neg h0, if_neg h1, if_neg h2]
        · rw [if_neg h3, if_neg h3]
theorem clM_0 {M : Nat → Nat} {rs t k : Nat} : M = clM M rs t k k := by
  funext j; unfold clM; rw [if_neg (by omega)]
theorem clM_s {M : Nat → Nat} {rs t k i : Nat} (ht : t < 8) (hk : k ≤ i) (hi : i < 8) : updN (clM M rs t k i) (rs + 8 * ((t + i) % 8) + 2) 0 = clM M rs t k (i + 1) := by
  funext j; unfold updN clM
  by_cases hj : j = rs + 8 * ((t + i) % 8) + 2
  · subst hj; rw [if_pos rfl, if_pos (by omega)]
  · rw [if_neg hj]
    by_cases h1 : rs ≤ j ∧ j < rs + 64 ∧ (j - rs) % 8 = 2 ∧ k ≤ ((j - rs) / 8 + 8 - t) % 8 ∧ ((j - rs) / 8 + 8 - t) % 8 < i
    · rw [if_pos h1, if_pos (by omega)]
    · rw [if_neg h1, if_neg (by omega)]
theorem cpI_0 {I M : Nat → Nat} {b : Nat} : I = cpI I M b 0 := by
  funext j; unfold cpI; rw [if_neg (by omega)]
theorem cpI_s {I M : Nat → Nat} {b i : Nat} : updN (cpI I M b i) i (M (b + i)) = cpI I M b (i + 1) := by
  funext j; unfold updN cpI
  by_cases hj : j = i
  · subst hj; rw [if_pos rfl, if_pos (by omega)]
  · rw [if_neg hj]
    by_cases h1 : j < i
    · rw [if_pos h1, if_pos (by omega)]
    · rw [if_neg h1, if_neg (by omega)]
/-! the reference's open pages -/
theorem b01_cg {c d : Prop} (hc : Decidable c) (hd : Decidable d) (h : c ↔ d) : b01 (decide c) = b01 (decide d) := by
  rw [show decide c = decide d from decide_eq_decide.mpr h]
theorem rdF_eq (fp t n p : Nat) : rdF fp t n p = b01 (decide (p < 8 ∨ fp ≤ p ∧ p < fp + 8 ∧ (p - fp + 8 - t) % 8 < n)) := by
  unfold rdF opn; rw [Bool.decide_or]
theorem rdF_add {fp t n : Nat} (hf : 8 ≤ fp) (hf2 : fp ≤ 16) (ht : t < 8) (hn : n < 8) : upd (rdF fp t n) (nI (fp + (t + n) % 8)).toNatClampNeg (nI 1) = rdF fp t (n + 1) := by
  funext p
  rw [nI_clamp (by omega)]
  unfold upd
  by_cases hp : p = fp + (t + n) % 8
  · rw [if_pos hp]
    rw [rdF_eq]; exact b01_t (decide_eq_true (by omega))
  · rw [if_neg hp]
    rw [rdF_eq, rdF_eq]; exact b01_cg _ _ (by omega)
theorem rdF_del {fp t n : Nat} (hf : 8 ≤ fp) (hf2 : fp ≤ 16) (ht : t < 8) (hn : n ≤ 8) (h0 : 0 < n) : upd (rdF fp t n) (nI (fp + t)).toNatClampNeg (nI 0) = rdF fp ((t + 1) % 8) (n - 1) := by
  funext p
  rw [nI_clamp (by omega)]
  unfold upd
  by_cases hp : p = fp + t
  · rw [if_pos hp]
    rw [rdF_eq]; exact b01_f (decide_eq_false (by omega))
  · rw [if_neg hp]
    rw [rdF_eq, rdF_eq]; exact b01_cg _ _ (by omega)
theorem rdG_0 {fp t k n : Nat} (hk : k ≤ n) : rdF fp t n = rdG fp t k k n := by
  funext p; rw [rdF_eq]; unfold rdG; exact b01_cg _ _ (by omega)
theorem rdG_e {fp t k n : Nat} : rdG fp t k n n = rdF fp t k := by
  funext p; rw [rdF_eq]; unfold rdG; exact b01_cg _ _ (by omega)
theorem rdG_s {fp t k i n : Nat} (hf : 8 ≤ fp) (hf2 : fp ≤ 16) (ht : t < 8) (hk : k ≤ i) (hi : i < n) (hn : n ≤ 8) : upd (rdG fp t k i n) (nI (fp + (t + i) % 8)).toNatClampNeg (nI 0) = rdG fp t k (i + 1) n := by
  funext p
  rw [nI_clamp (by omega)]
  unfold upd
  by_cases hp : p = fp + (t + i) % 8
  · rw [if_pos hp]
    unfold rdG; exact b01_f (decide_eq_false (by omega))
  · rw [if_neg hp]
    unfold rdG; exact b01_cg _ _ (by omega)
theorem rdP_s {i : Nat} (h : i < 8) : upd (rdP i) (nI i).toNatClampNeg (nI 1) = rdP (i + 1) := by
  funext p
  rw [nI_clamp (by omega)]
  unfold upd
  by_cases hp : p = i
  · rw [if_pos hp]
    unfold rdP; exact b01_t (decide_eq_true (by omega))
  · rw [if_neg hp]
    unfold rdP; exact b01_cg _ _ (by omega)
theorem rdP_0 : (fun _ => (0 : Int32)) = rdP 0 := by
  funext p; unfold rdP; rw [← nI_0]; exact b01_f (decide_eq_false (by omega))
theorem rdP_8 (fp t : Nat) : rdP 8 = rdF fp t 0 := by
  funext p; rw [rdF_eq]; unfold rdP; exact b01_cg _ _ (by omega)
theorem M0_n : (fun _ => (0 : Int32)) = nM (fun _ => 0) := by
  funext p; exact nI_0.symm
theorem M0_b : (fun _ => (0 : Int32)) = bM (fun _ => 0) := by
  funext p; exact (by decide +kernel : (0 : Int32) = sb_b 0)
end
section
set_option maxHeartbeats 4000000 in
set_option maxRecDepth 100000 in
theorem c_X0_init (l : Launch) (dC : Nat → ClassId) (dI : Nat → Nat → Nat) (h0 : Nat) (rs : Nat) (fp : Nat) (sz : Nat)  : Met l yX0_init wsX0_init ({ frames := 1, cells := 0, slots := 0, locals := 12 }) (va_Pc [.ref h0, .int (nI rs), .int (nI fp)] (fun U => U.heap.size = sz ∧ va_P (dC, dI) vwCl [(h0, .inr (0, [.int 0, .int 0, .int 0, .int 0]))] U.heap ∧ va_K (dC, dI) vwCl [] U ∧ va_D (fun _ => True) [(h0, .inr (0, [.int 0, .int 0, .int 0, .int 0]))])) (va_Qv (fun (_ : Unit) => True) (fun _ t => va_P (dC, dI) vwCl [(h0, .inr (0, [.int (nI rs), .int (nI fp), .int (nI 0), .int (nI 0)]))] t.heap ∧ va_K (dC, dI) vwCl [] t ∧ va_D (va_A [(h0, .inr (0, [.int 0, .int 0, .int 0, .int 0]))] sz) [(h0, .inr (0, [.int (nI rs), .int (nI fp), .int (nI 0), .int (nI 0)]))]) (va_A [(h0, .inr (0, [.int 0, .int 0, .int 0, .int 0]))] sz)) 0 0 (va_A [(h0, .inr (0, [.int 0, .int 0, .int 0, .int 0]))] sz) := by
  refine Met.ofW (cc := cX0_init) (maxL := 3) (ret := none) (by decide) rfl ?_
  intro p e s m args below meth c s₁ B hml hv
  obtain ⟨rfl, hsz, hP, hK, hD0⟩ := hv
  have hx := B.exec
  have hb := B.bytes
  have hr := B.returns
  have hts := atoms_spec (ws := wsX0_init) B.pre
  have hown : s.vm.findClass RX0 = some m.cls := findClass_of_methodNamed B.named
  have hlocks := B.notSynchronized
  have hin : meth.name = "<init>" := (name_of_methodNamed B.named B.method).1
  have hI0 : ∀ w ∈ u_ws RX0 TX0 4, w ∈ wsX0_init := by decide +kernel
  subst hsz
  have hD := hD0.self (sz := s.heap.size)
  generalize hAe : va_A [(h0, .inr (0, [.int 0, .int 0, .int 0, .int 0]))] s.heap.size = A at hD ⊢
  have hA : ∀ q : Nat, s.heap.size ≤ q → A q := fun q h => by rw [← hAe]; exact Or.inr h
  have hS : va_S A s.heap s.heap [] := va_S.rf
  have hP : va_P (dC, dI) vwCl [(h0, .inr (0, [.int 0, .int 0, .int 0, .int 0]))] s.heap := hP
  have hl := lv_entry ([.ref h0, .int (nI rs), .int (nI fp)]) (n := 3) (Nat.le_of_ble_eq_true rfl)
  rw [lg_entry_eq]
  generalize (lg_sl ([.ref h0, .int (nI rs), .int (nI fp)]) ++ List.replicate (3 - (lg_sl ([.ref h0, .int (nI rs), .int (nI fp)])).length) Slot.unset).toArray = ls at hl ⊢
  have hl : lv_has ls 3 [(0, .ref h0), (1, .int (nI rs)), (2, .int (nI fp))] := hl
  refine lv_aload_n hx hb dX0_init_0 rfl (lv_at hl 0 rfl) ?_
  refine W.objInit hx hb hown (hts (.methodLink RX0 3 objectInit) (by decide +kernel)) (hts (.instanceMethod objectInit) (by decide +kernel)) (hts (.code objectInit ⟨#[0xb1]⟩ 1 none) (by simp [wsX0_init])) rfl (by rw [hml]; exact hl.1) rfl dX0_init_1 (Nat.le_of_ble_eq_true rfl) (Nat.le_of_ble_eq_true rfl) ?_
  refine W.eq (g2 := F0 m 4 ls []) rfl ?_
  refine lv_aload_n hx hb dX0_init_4 rfl (lv_at hl 0 rfl) ?_
  refine lv_iload_n hx hb dX0_init_5 rfl (lv_at hl 1 rfl) ?_
  refine va_putF (D := (dC, dI)) (ci := 0) (v := .int (nI rs)) (ty := .int) (C := RX0) (T := TX0) (N := 4) hx hb hts hI0 tyX0 tyX0_ok nmX0 hown hK hP hD hS 0 rfl rfl 0 (by decide) (hts (.fieldLink RX0 9 "RingDriver$SlotQueue" "ringStart" "I") (by decide +kernel)) (fun _ h9 => h9) rfl hin rfl (by decide +kernel) rfl rfl (Nat.le_of_ble_eq_true rfl) dX0_init_6 (fun H locs hP hD hS => ?_)
  have hP : va_P (dC, dI) vwCl [(h0, .inr (0, [.int (nI rs), .int 0, .int 0, .int 0]))] H := hP
  have hD : va_D A [(h0, .inr (0, [.int (nI rs), .int 0, .int 0, .int 0]))] := hD
  refine lv_aload_n hx hb dX0_init_9 rfl (lv_at hl 0 rfl) ?_
  refine lv_iload_n hx hb dX0_init_10 rfl (lv_at hl 2 rfl) ?_
  refine va_putF (D := (dC, dI)) (ci := 0) (v := .int (nI fp)) (ty := .int) (C := RX0) (T := TX0) (N := 4) hx hb hts hI0 tyX0 tyX0_ok nmX0 hown hK hP hD hS 0 rfl rfl 1 (by decide) (hts (.fieldLink RX0 15 "RingDriver$SlotQueue" "firstPage" "I") (by decide +kernel)) (fun _ h9 => h9) rfl hin rfl (by decide +kernel) rfl rfl (Nat.le_of_ble_eq_true rfl) dX0_init_11 (fun H locs hP hD hS => ?_)
  have hP : va_P (dC, dI) vwCl [(h0, .inr (0, [.int (nI rs), .int (nI fp), .int 0, .int 0]))] H := hP
  have hD : va_D A [(h0, .inr (0, [.int (nI rs), .int (nI fp), .int 0, .int 0]))] := hD
  refine lv_aload_n hx hb dX0_init_14 rfl (lv_at hl 0 rfl) ?_
  refine lv_iconst (v := nI 0) hx hb dX0_init_15 (by decide +kernel) ?_
  refine va_put (D := (dC, dI)) (ci := 0) (v := .int (nI 0)) (ty := .int) (C := RX0) (T := TX0) (N := 4) hx hb hts hI0 tyX0 tyX0_ok nmX0 hown hK hP hD hS 0 rfl rfl 2 (by decide) (hts (.fieldLink RX0 18 "RingDriver$SlotQueue" "oldest" "I") (by decide +kernel)) (fun _ h9 => h9) rfl (by decide +kernel) rfl rfl (Nat.le_of_ble_eq_true rfl) dX0_init_16 (fun H locs hP hD hS => ?_)
  have hP : va_P (dC, dI) vwCl [(h0, .inr (0, [.int (nI rs), .int (nI fp), .int (nI 0), .int 0]))] H := hP
  have hD : va_D A [(h0, .inr (0, [.int (nI rs), .int (nI fp), .int (nI 0), .int 0]))] := hD
  refine lv_aload_n hx hb dX0_init_19 rfl (lv_at hl 0 rfl) ?_
  refine lv_iconst (v := nI 0) hx hb dX0_init_20 (by decide +kernel) ?_
  refine va_put (D := (dC, dI)) (ci := 0) (v := .int (nI 0)) (ty := .int) (C := RX0) (T := TX0) (N := 4) hx hb hts hI0 tyX0 tyX0_ok nmX0 hown hK hP hD hS 0 rfl rfl 3 (by decide) (hts (.fieldLink RX0 21 "RingDriver$SlotQueue" "posted" "I") (by decide +kernel)) (fun _ h9 => h9) rfl (by decide +kernel) rfl rfl (Nat.le_of_ble_eq_true rfl) dX0_init_21 (fun H locs hP hD hS => ?_)
  have hP : va_P (dC, dI) vwCl [(h0, .inr (0, [.int (nI rs), .int (nI fp), .int (nI 0), .int (nI 0)]))] H := hP
  have hD : va_D A [(h0, .inr (0, [.int (nI rs), .int (nI fp), .int (nI 0), .int (nI 0)]))] := hD
  have hP9 := hP.sub (ws' := [(h0, .inr (0, [.int (nI rs), .int (nI fp), .int (nI 0), .int (nI 0)]))]) [0] rfl
  have hD9 := hD.sub (ws' := [(h0, .inr (0, [.int (nI rs), .int (nI fp), .int (nI 0), .int (nI 0)]))]) [0] (by decide) rfl
  have hK9 := hK.sub (tys' := []) [] rfl
  exact W.vret hx hb hr (fun t ht hW => ⟨⟨(), rfl, trivial, by rw [ht]; exact hP9, va_K.moved hW.alike hK9, hD9⟩, hS.F ht⟩) hS.2.2 dX0_init_24
set_option maxHeartbeats 4000000 in
set_option maxRecDepth 100000 in
theorem c_X0_size (l : Launch) (dC : Nat → ClassId) (dI : Nat → Nat → Nat) (h0 : Nat) (rs : Nat) (fp : Nat) (tq : Nat) (nq : Nat) (sz : Nat)  : Met l yX0_size wsX0_size ({ frames := 0, cells := 0, slots := 0, locals := 0 }) (va_Pc [.ref h0] (fun U => U.heap.size = sz ∧ va_P (dC, dI) vwCl [(h0, .inr (0, [.int (nI rs), .int (nI fp), .int (nI tq), .int (nI nq)]))] U.heap ∧ va_K (dC, dI) vwCl [] U ∧ va_D (fun _ => True) [(h0, .inr (0, [.int (nI rs), .int (nI fp), .int (nI tq), .int (nI nq)]))])) (va_Qi (fun (r9 : Int32) (_ : Unit) => r9 = nI nq) (fun _ t => va_P (dC, dI) vwCl [(h0, .inr (0, [.int (nI rs), .int (nI fp), .int (nI tq), .int (nI nq)]))] t.heap ∧ va_K (dC, dI) vwCl [] t ∧ va_D (va_A [(h0, .inr (0, [.int (nI rs), .int (nI fp), .int (nI tq), .int (nI nq)]))] sz) [(h0, .inr (0, [.int (nI rs), .int (nI fp), .int (nI tq), .int (nI nq)]))]) (va_A [(h0, .inr (0, [.int (nI rs), .int (nI fp), .int (nI tq), .int (nI nq)]))] sz)) 0 0 (va_A [(h0, .inr (0, [.int (nI rs), .int (nI fp), .int (nI tq), .int (nI nq)]))] sz) := by
  refine Met.ofW (cc := cX0_size) (maxL := 1) (ret := (some .int)) (by decide) rfl ?_
  intro p e s m args below meth c s₁ B hml hv
  obtain ⟨rfl, hsz, hP, hK, hD0⟩ := hv
  have hx := B.exec
  have hb := B.bytes
  have hr := B.returns
  have hts := atoms_spec (ws := wsX0_size) B.pre
  have hown : s.vm.findClass RX0 = some m.cls := findClass_of_methodNamed B.named
  have hlocks := B.notSynchronized
  have hI0 : ∀ w ∈ u_ws RX0 TX0 4, w ∈ wsX0_size := by decide +kernel
  subst hsz
  have hD := hD0.self (sz := s.heap.size)
  generalize hAe : va_A [(h0, .inr (0, [.int (nI rs), .int (nI fp), .int (nI tq), .int (nI nq)]))] s.heap.size = A at hD ⊢
  have hA : ∀ q : Nat, s.heap.size ≤ q → A q := fun q h => by rw [← hAe]; exact Or.inr h
  have hS : va_S A s.heap s.heap [] := va_S.rf
  have hP : va_P (dC, dI) vwCl [(h0, .inr (0, [.int (nI rs), .int (nI fp), .int (nI tq), .int (nI nq)]))] s.heap := hP
  have hl := lv_entry ([.ref h0]) (n := 1) (Nat.le_of_ble_eq_true rfl)
  rw [lg_entry_eq]
  generalize (lg_sl ([.ref h0]) ++ List.replicate (1 - (lg_sl ([.ref h0])).length) Slot.unset).toArray = ls at hl ⊢
  have hl : lv_has ls 1 [(0, .ref h0)] := hl
  refine lv_aload_n hx hb dX0_size_0 rfl (lv_at hl 0 rfl) ?_
  refine va_get (D := (dC, dI)) (ci := 0) (v := .int (nI nq)) (C := RX0) (T := TX0) (N := 4) hx hb hts hI0 hown hK hP 0 rfl rfl 3 (by decide) (hts (.fieldLink RX0 21 "RingDriver$SlotQueue" "posted" "I") (by decide +kernel)) (fun _ h9 => h9) rfl dX0_size_1 ?_
  have hP9 := hP.sub (ws' := [(h0, .inr (0, [.int (nI rs), .int (nI fp), .int (nI tq), .int (nI nq)]))]) [0] rfl
  have hD9 := hD.sub (ws' := [(h0, .inr (0, [.int (nI rs), .int (nI fp), .int (nI tq), .int (nI nq)]))]) [0] (by decide) rfl
  have hK9 := hK.sub (tys' := []) [] rfl
  have e_1 : nI nq = nI nq := rfl
  exact W.iret (v := nI nq) hx hb hr (fun t ht hW => ⟨⟨_, (), rfl, e_1, by rw [ht]; exact hP9, va_K.moved hW.alike hK9, hD9⟩, hS.F ht⟩) hS.2.2 dX0_size_4
set_option maxHeartbeats 4000000 in
set_option maxRecDepth 100000 in
theorem c_X0_slotAt (l : Launch) (dC : Nat → ClassId) (dI : Nat → Nat → Nat) (h0 : Nat) (rs : Nat) (fp : Nat) (tq : Nat) (nq : Nat) (pl : Nat) (sz : Nat) (ht : tq < 8) (hp : pl ≤ 8) : Met l yX0_slotAt wsX0_slotAt ({ frames := 0, cells := 0, slots := 0, locals := 0 }) (va_Pc [.ref h0, .int (nI pl)] (fun U => U.heap.size = sz ∧ va_P (dC, dI) vwCl [(h0, .inr (0, [.int (nI rs), .int (nI fp), .int (nI tq), .int (nI nq)]))] U.heap ∧ va_K (dC, dI) vwCl [] U ∧ va_D (fun _ => True) [(h0, .inr (0, [.int (nI rs), .int (nI fp), .int (nI tq), .int (nI nq)]))])) (va_Qi (fun (r9 : Int32) (_ : Unit) => r9 = nI ((tq + pl) % 8)) (fun _ t => va_P (dC, dI) vwCl [(h0, .inr (0, [.int (nI rs), .int (nI fp), .int (nI tq), .int (nI nq)]))] t.heap ∧ va_K (dC, dI) vwCl [] t ∧ va_D (va_A [(h0, .inr (0, [.int (nI rs), .int (nI fp), .int (nI tq), .int (nI nq)]))] sz) [(h0, .inr (0, [.int (nI rs), .int (nI fp), .int (nI tq), .int (nI nq)]))]) (va_A [(h0, .inr (0, [.int (nI rs), .int (nI fp), .int (nI tq), .int (nI nq)]))] sz)) 0 0 (va_A [(h0, .inr (0, [.int (nI rs), .int (nI fp), .int (nI tq), .int (nI nq)]))] sz) := by
  refine Met.ofW (cc := cX0_slotAt) (maxL := 2) (ret := (some .int)) (by decide) rfl ?_
  intro p e s m args below meth c s₁ B hml hv
  obtain ⟨rfl, hsz, hP, hK, hD0⟩ := hv
  have hx := B.exec
  have hb := B.bytes
  have hr := B.returns
  have hts := atoms_spec (ws := wsX0_slotAt) B.pre
  have hown : s.vm.findClass RX0 = some m.cls := findClass_of_methodNamed B.named
  have hlocks := B.notSynchronized
  have hI0 : ∀ w ∈ u_ws RX0 TX0 4, w ∈ wsX0_slotAt := by decide +kernel
  subst hsz
  have hD := hD0.self (sz := s.heap.size)
  generalize hAe : va_A [(h0, .inr (0, [.int (nI rs), .int (nI fp), .int (nI tq), .int (nI nq)]))] s.heap.size = A at hD ⊢
  have hA : ∀ q : Nat, s.heap.size ≤ q → A q := fun q h => by rw [← hAe]; exact Or.inr h
  have hS : va_S A s.heap s.heap [] := va_S.rf
  have hP : va_P (dC, dI) vwCl [(h0, .inr (0, [.int (nI rs), .int (nI fp), .int (nI tq), .int (nI nq)]))] s.heap := hP
  have hl := lv_entry ([.ref h0, .int (nI pl)]) (n := 2) (Nat.le_of_ble_eq_true rfl)
  rw [lg_entry_eq]
  generalize (lg_sl ([.ref h0, .int (nI pl)]) ++ List.replicate (2 - (lg_sl ([.ref h0, .int (nI pl)])).length) Slot.unset).toArray = ls at hl ⊢
  have hl : lv_has ls 2 [(0, .ref h0), (1, .int (nI pl))] := hl
  refine lv_aload_n hx hb dX0_slotAt_0 rfl (lv_at hl 0 rfl) ?_
  refine va_get (D := (dC, dI)) (ci := 0) (v := .int (nI tq)) (C := RX0) (T := TX0) (N := 4) hx hb hts hI0 hown hK hP 0 rfl rfl 2 (by decide) (hts (.fieldLink RX0 18 "RingDriver$SlotQueue" "oldest" "I") (by decide +kernel)) (fun _ h9 => h9) rfl dX0_slotAt_1 ?_
  refine lv_iload_n hx hb dX0_slotAt_4 rfl (lv_at hl 1 rfl) ?_
  refine lv_iadd hx hb dX0_slotAt_5 ?_
  refine lv_topi (fun y_1 ey_1 => ?_)
  obtain rfl := ey_1.trans (nI_add tq pl)
  refine lv_bipush (v := nI 7) hx hb dX0_slotAt_6 (by decide +kernel) ?_
  refine lv_iand hx hb dX0_slotAt_8 ?_
  refine lv_topi (fun y_2 ey_2 => ?_)
  obtain rfl := ey_2.trans (n_and7 (n := tq + pl) (by omega))
  have hP9 := hP.sub (ws' := [(h0, .inr (0, [.int (nI rs), .int (nI fp), .int (nI tq), .int (nI nq)]))]) [0] rfl
  have hD9 := hD.sub (ws' := [(h0, .inr (0, [.int (nI rs), .int (nI fp), .int (nI tq), .int (nI nq)]))]) [0] (by decide) rfl
  have hK9 := hK.sub (tys' := []) [] rfl
  have e_3 : nI ((tq + pl) % 8) = nI ((tq + pl) % 8) := rfl
  exact W.iret (v := nI ((tq + pl) % 8)) hx hb hr (fun t ht hW => ⟨⟨_, (), rfl, e_3, by rw [ht]; exact hP9, va_K.moved hW.alike hK9, hD9⟩, hS.F ht⟩) hS.2.2 dX0_slotAt_9
set_option maxHeartbeats 4000000 in
set_option maxRecDepth 100000 in
theorem c_X0_pageAt (l : Launch) (dC : Nat → ClassId) (dI : Nat → Nat → Nat) (h0 : Nat) (rs : Nat) (fp : Nat) (tq : Nat) (nq : Nat) (pl : Nat) (sz : Nat) (ht : tq < 8) (hp : pl ≤ 8) (hf : fp ≤ 16) : Met l yX0_pageAt wsX0_pageAt ({ frames := 1, cells := 0, slots := 0, locals := 21 }) (va_Pc [.ref h0, .int (nI pl)] (fun U => U.heap.size = sz ∧ va_P (dC, dI) vwCl [(h0, .inr (0, [.int (nI rs), .int (nI fp), .int (nI tq), .int (nI nq)]))] U.heap ∧ va_K (dC, dI) vwCl [] U ∧ va_D (fun _ => True) [(h0, .inr (0, [.int (nI rs), .int (nI fp), .int (nI tq), .int (nI nq)]))])) (va_Qi (fun (r9 : Int32) (_ : Unit) => r9 = nI (fp + (tq + pl) % 8)) (fun _ t => va_P (dC, dI) vwCl [(h0, .inr (0, [.int (nI rs), .int (nI fp), .int (nI tq), .int (nI nq)]))] t.heap ∧ va_K (dC, dI) vwCl [] t ∧ va_D (va_A [(h0, .inr (0, [.int (nI rs), .int (nI fp), .int (nI tq), .int (nI nq)]))] sz) [(h0, .inr (0, [.int (nI rs), .int (nI fp), .int (nI tq), .int (nI nq)]))]) (va_A [(h0, .inr (0, [.int (nI rs), .int (nI fp), .int (nI tq), .int (nI nq)]))] sz)) 0 0 (va_A [(h0, .inr (0, [.int (nI rs), .int (nI fp), .int (nI tq), .int (nI nq)]))] sz) := by
  refine Met.ofW (cc := cX0_pageAt) (maxL := 2) (ret := (some .int)) (by decide) rfl ?_
  intro p e s m args below meth c s₁ B hml hv
  obtain ⟨rfl, hsz, hP, hK, hD0⟩ := hv
  have hx := B.exec
  have hb := B.bytes
  have hr := B.returns
  have hts := atoms_spec (ws := wsX0_pageAt) B.pre
  have hown : s.vm.findClass RX0 = some m.cls := findClass_of_methodNamed B.named
  have hlocks := B.notSynchronized
  have hI0 : ∀ w ∈ u_ws RX0 TX0 4, w ∈ wsX0_pageAt := by decide +kernel
  subst hsz
  have hD := hD0.self (sz := s.heap.size)
  generalize hAe : va_A [(h0, .inr (0, [.int (nI rs), .int (nI fp), .int (nI tq), .int (nI nq)]))] s.heap.size = A at hD ⊢
  have hA : ∀ q : Nat, s.heap.size ≤ q → A q := fun q h => by rw [← hAe]; exact Or.inr h
  have hS : va_S A s.heap s.heap [] := va_S.rf
  have hP : va_P (dC, dI) vwCl [(h0, .inr (0, [.int (nI rs), .int (nI fp), .int (nI tq), .int (nI nq)]))] s.heap := hP
  have hl := lv_entry ([.ref h0, .int (nI pl)]) (n := 2) (Nat.le_of_ble_eq_true rfl)
  rw [lg_entry_eq]
  generalize (lg_sl ([.ref h0, .int (nI pl)]) ++ List.replicate (2 - (lg_sl ([.ref h0, .int (nI pl)])).length) Slot.unset).toArray = ls at hl ⊢
  have hl : lv_has ls 2 [(0, .ref h0), (1, .int (nI pl))] := hl
  refine lv_aload_n hx hb dX0_pageAt_0 rfl (lv_at hl 0 rfl) ?_
  refine va_get (D := (dC, dI)) (ci := 0) (v := .int (nI fp)) (C := RX0) (T := TX0) (N := 4) hx hb hts hI0 hown hK hP 0 rfl rfl 1 (by decide) (hts (.fieldLink RX0 15 "RingDriver$SlotQueue" "firstPage" "I") (by decide +kernel)) (fun _ h9 => h9) rfl dX0_pageAt_1 ?_
  refine lv_aload_n hx hb dX0_pageAt_4 rfl (lv_at hl 0 rfl) ?_
  refine lv_iload_n hx hb dX0_pageAt_5 rfl (lv_at hl 1 rfl) ?_
  have hPc := hP.sub (ws' := [(h0, .inr (0, [.int (nI rs), .int (nI fp), .int (nI tq), .int (nI nq)]))]) [0] rfl
  have hDc := hD.sub (ws' := [(h0, .inr (0, [.int (nI rs), .int (nI fp), .int (nI tq), .int (nI nq)]))]) [0] (by decide) rfl
  have hKc := hK.sub (tys' := []) [] rfl
  have hFc := va_free (wc := [(h0, .inr (0, [.int (nI rs), .int (nI fp), .int (nI tq), .int (nI nq)]))]) hD hS hA [0] rfl
  refine va_calli (va_runV (As := [.int (nI pl)]) (rest := [.int (nI fp)]) ⟨hx, hb, hml, hown, hts⟩ (c_X0_slotAt l dC dI h0 rs fp tq nq pl s.heap.size (by omega) (by omega)) (cwV 1 hts gX0_pageAt_X0_slotAt rfl rfl rfl (by decide +kernel) ⟨Nat.le_of_ble_eq_true rfl, Nat.le_of_ble_eq_true rfl⟩) ⟨fun a U g mk q => by obtain ⟨q0, q1, qP, qK, qD⟩ := q; exact ⟨q0, q1, qP, va_K.moved (u := U) (U := U.calling g mk a) (Vm.Alike.refl U.vm) qK, qD⟩, va_recv hKc hPc (ci := 0) (q0 := 0) rfl rfl, fun U hU hW => ⟨rfl, by rw [hU], by rw [hU]; exact hPc, va_K.moved hW.alike hKc, hDc.weaken (fun _ _ _ _ => trivial)⟩⟩ rfl rfl hl.1 rfl (lv_room (Nat.le_of_ble_eq_true rfl)) dX0_pageAt_6 ⟨Nat.le_of_ble_eq_true rfl, Nat.le_of_ble_eq_true rfl⟩) hS (fun q _ h => hFc q h) hFc (fun r_1 u t H1 locs ht hvm hw hB hz1 hk1 hS => ?_)
  obtain ⟨hP1, hK1, hD1⟩ := hB
  rw [ht] at hP1
  have hK1 := va_K.moved hvm.symm hK1
  obtain ⟨hP, hD⟩ := va_join (wr := []) (w1 := [(h0, .inr (0, [.int (nI rs), .int (nI fp), .int (nI tq), .int (nI nq)]))]) hP hD [0] [] rfl rfl (by decide) (by decide) hk1 hFc hP1 hD1
  have hK := (hK.sub (tys' := []) [] rfl).app hK1
  generalize H1 = H at hP hS ⊢
  have hP : va_P (dC, dI) vwCl [(h0, .inr (0, [.int (nI rs), .int (nI fp), .int (nI tq), .int (nI nq)]))] H := hP
  have hD : va_D A [(h0, .inr (0, [.int (nI rs), .int (nI fp), .int (nI tq), .int (nI nq)]))] := hD
  have hK : va_K (dC, dI) vwCl [] s := hK
  obtain rfl : r_1 = nI ((tq + pl) % 8) := hw
  refine lv_iadd hx hb dX0_pageAt_9 ?_
  refine lv_topi (fun y_2 ey_2 => ?_)
  obtain rfl := ey_2.trans (nI_add fp ((tq + pl) % 8))
  have hP9 := hP.sub (ws' := [(h0, .inr (0, [.int (nI rs), .int (nI fp), .int (nI tq), .int (nI nq)]))]) [0] rfl
  have hD9 := hD.sub (ws' := [(h0, .inr (0, [.int (nI rs), .int (nI fp), .int (nI tq), .int (nI nq)]))]) [0] (by decide) rfl
  have hK9 := hK.sub (tys' := []) [] rfl
  have e_3 : nI (fp + ((tq + pl) % 8)) = nI (fp + (tq + pl) % 8) := congrArg nI (by omega)
  exact W.iret (v := nI (fp + ((tq + pl) % 8))) hx hb hr (fun t ht hW => ⟨⟨_, (), rfl, e_3, by rw [ht]; exact hP9, va_K.moved hW.alike hK9, hD9⟩, hS.F ht⟩) hS.2.2 dX0_pageAt_10
set_option maxHeartbeats 4000000 in
set_option maxRecDepth 100000 in
theorem c_X0_bufferAt (l : Launch) (dC : Nat → ClassId) (dI : Nat → Nat → Nat) (h0 : Nat) (rs : Nat) (fp : Nat) (tq : Nat) (nq : Nat) (pl : Nat) (sz : Nat) (ht : tq < 8) (hp : pl ≤ 8) (hf : fp ≤ 16) : Met l yX0_bufferAt wsX0_bufferAt ({ frames := 2, cells := 0, slots := 0, locals := 42 }) (va_Pc [.ref h0, .int (nI pl)] (fun U => U.heap.size = sz ∧ va_P (dC, dI) vwCl [(h0, .inr (0, [.int (nI rs), .int (nI fp), .int (nI tq), .int (nI nq)]))] U.heap ∧ va_K (dC, dI) vwCl [] U ∧ va_D (fun _ => True) [(h0, .inr (0, [.int (nI rs), .int (nI fp), .int (nI tq), .int (nI nq)]))])) (va_Qi (fun (r9 : Int32) (_ : Unit) => r9 = nI (16 * (fp + (tq + pl) % 8))) (fun _ t => va_P (dC, dI) vwCl [(h0, .inr (0, [.int (nI rs), .int (nI fp), .int (nI tq), .int (nI nq)]))] t.heap ∧ va_K (dC, dI) vwCl [] t ∧ va_D (va_A [(h0, .inr (0, [.int (nI rs), .int (nI fp), .int (nI tq), .int (nI nq)]))] sz) [(h0, .inr (0, [.int (nI rs), .int (nI fp), .int (nI tq), .int (nI nq)]))]) (va_A [(h0, .inr (0, [.int (nI rs), .int (nI fp), .int (nI tq), .int (nI nq)]))] sz)) 0 0 (va_A [(h0, .inr (0, [.int (nI rs), .int (nI fp), .int (nI tq), .int (nI nq)]))] sz) := by
  refine Met.ofW (cc := cX0_bufferAt) (maxL := 2) (ret := (some .int)) (by decide) rfl ?_
  intro p e s m args below meth c s₁ B hml hv
  obtain ⟨rfl, hsz, hP, hK, hD0⟩ := hv
  have hx := B.exec
  have hb := B.bytes
  have hr := B.returns
  have hts := atoms_spec (ws := wsX0_bufferAt) B.pre
  have hown : s.vm.findClass RX0 = some m.cls := findClass_of_methodNamed B.named
  have hlocks := B.notSynchronized
  subst hsz
  have hD := hD0.self (sz := s.heap.size)
  generalize hAe : va_A [(h0, .inr (0, [.int (nI rs), .int (nI fp), .int (nI tq), .int (nI nq)]))] s.heap.size = A at hD ⊢
  have hA : ∀ q : Nat, s.heap.size ≤ q → A q := fun q h => by rw [← hAe]; exact Or.inr h
  have hS : va_S A s.heap s.heap [] := va_S.rf
  have hP : va_P (dC, dI) vwCl [(h0, .inr (0, [.int (nI rs), .int (nI fp), .int (nI tq), .int (nI nq)]))] s.heap := hP
  have hl := lv_entry ([.ref h0, .int (nI pl)]) (n := 2) (Nat.le_of_ble_eq_true rfl)
  rw [lg_entry_eq]
  generalize (lg_sl ([.ref h0, .int (nI pl)]) ++ List.replicate (2 - (lg_sl ([.ref h0, .int (nI pl)])).length) Slot.unset).toArray = ls at hl ⊢
  have hl : lv_has ls 2 [(0, .ref h0), (1, .int (nI pl))] := hl
  refine lv_bipush (v := nI 16) hx hb dX0_bufferAt_0 (by decide +kernel) ?_
  refine lv_aload_n hx hb dX0_bufferAt_2 rfl (lv_at hl 0 rfl) ?_
  refine lv_iload_n hx hb dX0_bufferAt_3 rfl (lv_at hl 1 rfl) ?_
  have hPc := hP.sub (ws' := [(h0, .inr (0, [.int (nI rs), .int (nI fp), .int (nI tq), .int (nI nq)]))]) [0] rfl
  have hDc := hD.sub (ws' := [(h0, .inr (0, [.int (nI rs), .int (nI fp), .int (nI tq), .int (nI nq)]))]) [0] (by decide) rfl
  have hKc := hK.sub (tys' := []) [] rfl
  have hFc := va_free (wc := [(h0, .inr (0, [.int (nI rs), .int (nI fp), .int (nI tq), .int (nI nq)]))]) hD hS hA [0] rfl
  refine va_calli (va_runV (As := [.int (nI pl)]) (rest := [.int (nI 16)]) ⟨hx, hb, hml, hown, hts⟩ (c_X0_pageAt l dC dI h0 rs fp tq nq pl s.heap.size (by omega) (by omega) (by omega)) (cwV 1 hts gX0_bufferAt_X0_pageAt rfl rfl rfl (by decide +kernel) ⟨Nat.le_of_ble_eq_true rfl, Nat.le_of_ble_eq_true rfl⟩) ⟨fun a U g mk q => by obtain ⟨q0, q1, qP, qK, qD⟩ := q; exact ⟨q0, q1, qP, va_K.moved (u := U) (U := U.calling g mk a) (Vm.Alike.refl U.vm) qK, qD⟩, va_recv hKc hPc (ci := 0) (q0 := 0) rfl rfl, fun U hU hW => ⟨rfl, by rw [hU], by rw [hU]; exact hPc, va_K.moved hW.alike hKc, hDc.weaken (fun _ _ _ _ => trivial)⟩⟩ rfl rfl hl.1 rfl (lv_room (Nat.le_of_ble_eq_true rfl)) dX0_bufferAt_4 ⟨Nat.le_of_ble_eq_true rfl, Nat.le_of_ble_eq_true rfl⟩) hS (fun q _ h => hFc q h) hFc (fun r_1 u t H1 locs ht hvm hw hB hz1 hk1 hS => ?_)
  obtain ⟨hP1, hK1, hD1⟩ := hB
  rw [ht] at hP1
  have hK1 := va_K.moved hvm.symm hK1
  obtain ⟨hP, hD⟩ := va_join (wr := []) (w1 := [(h0, .inr (0, [.int (nI rs), .int (nI fp), .int (nI tq), .int (nI nq)]))]) hP hD [0] [] rfl rfl (by decide) (by decide) hk1 hFc hP1 hD1
  have hK := (hK.sub (tys' := []) [] rfl).app hK1
  generalize H1 = H at hP hS ⊢
  have hP : va_P (dC, dI) vwCl [(h0, .inr (0, [.int (nI rs), .int (nI fp), .int (nI tq), .int (nI nq)]))] H := hP
  have hD : va_D A [(h0, .inr (0, [.int (nI rs), .int (nI fp), .int (nI tq), .int (nI nq)]))] := hD
  have hK : va_K (dC, dI) vwCl [] s := hK
  obtain rfl : r_1 = nI (fp + (tq + pl) % 8) := hw
  refine lv_imul hx hb dX0_bufferAt_7 ?_
  refine lv_topi (fun y_2 ey_2 => ?_)
  obtain rfl := ey_2.trans (pk_mul 16 (fp + (tq + pl) % 8))
  have hP9 := hP.sub (ws' := [(h0, .inr (0, [.int (nI rs), .int (nI fp), .int (nI tq), .int (nI nq)]))]) [0] rfl
  have hD9 := hD.sub (ws' := [(h0, .inr (0, [.int (nI rs), .int (nI fp), .int (nI tq), .int (nI nq)]))]) [0] (by decide) rfl
  have hK9 := hK.sub (tys' := []) [] rfl
  have e_3 : nI (16 * (fp + (tq + pl) % 8)) = nI (16 * (fp + (tq + pl) % 8)) := rfl
  exact W.iret (v := nI (16 * (fp + (tq + pl) % 8))) hx hb hr (fun t ht hW => ⟨⟨_, (), rfl, e_3, by rw [ht]; exact hP9, va_K.moved hW.alike hK9, hD9⟩, hS.F ht⟩) hS.2.2 dX0_bufferAt_8
set_option maxHeartbeats 4000000 in
set_option maxRecDepth 100000 in
theorem c_X0_descriptorAt (l : Launch) (dC : Nat → ClassId) (dI : Nat → Nat → Nat) (h0 : Nat) (rs : Nat) (fp : Nat) (tq : Nat) (nq : Nat) (pl : Nat) (sz : Nat) (ht : tq < 8) (hp : pl ≤ 8) (hrs : rs ≤ 64) : Met l yX0_descriptorAt wsX0_descriptorAt ({ frames := 1, cells := 0, slots := 0, locals := 21 }) (va_Pc [.ref h0, .int (nI pl)] (fun U => U.heap.size = sz ∧ va_P (dC, dI) vwCl [(h0, .inr (0, [.int (nI rs), .int (nI fp), .int (nI tq), .int (nI nq)]))] U.heap ∧ va_K (dC, dI) vwCl [] U ∧ va_D (fun _ => True) [(h0, .inr (0, [.int (nI rs), .int (nI fp), .int (nI tq), .int (nI nq)]))])) (va_Qi (fun (r9 : Int32) (_ : Unit) => r9 = nI (rs + 8 * ((tq + pl) % 8))) (fun _ t => va_P (dC, dI) vwCl [(h0, .inr (0, [.int (nI rs), .int (nI fp), .int (nI tq), .int (nI nq)]))] t.heap ∧ va_K (dC, dI) vwCl [] t ∧ va_D (va_A [(h0, .inr (0, [.int (nI rs), .int (nI fp), .int (nI tq), .int (nI nq)]))] sz) [(h0, .inr (0, [.int (nI rs), .int (nI fp), .int (nI tq), .int (nI nq)]))]) (va_A [(h0, .inr (0, [.int (nI rs), .int (nI fp), .int (nI tq), .int (nI nq)]))] sz)) 0 0 (va_A [(h0, .inr (0, [.int (nI rs), .int (nI fp), .int (nI tq), .int (nI nq)]))] sz) := by
  refine Met.ofW (cc := cX0_descriptorAt) (maxL := 2) (ret := (some .int)) (by decide) rfl ?_
  intro p e s m args below meth c s₁ B hml hv
  obtain ⟨rfl, hsz, hP, hK, hD0⟩ := hv
  have hx := B.exec
  have hb := B.bytes
  have hr := B.returns
  have hts := atoms_spec (ws := wsX0_descriptorAt) B.pre
  have hown : s.vm.findClass RX0 = some m.cls := findClass_of_methodNamed B.named
  have hlocks := B.notSynchronized
  have hI0 : ∀ w ∈ u_ws RX0 TX0 4, w ∈ wsX0_descriptorAt := by decide +kernel
  subst hsz
  have hD := hD0.self (sz := s.heap.size)
  generalize hAe : va_A [(h0, .inr (0, [.int (nI rs), .int (nI fp), .int (nI tq), .int (nI nq)]))] s.heap.size = A at hD ⊢
  have hA : ∀ q : Nat, s.heap.size ≤ q → A q := fun q h => by rw [← hAe]; exact Or.inr h
  have hS : va_S A s.heap s.heap [] := va_S.rf
  have hP : va_P (dC, dI) vwCl [(h0, .inr (0, [.int (nI rs), .int (nI fp), .int (nI tq), .int (nI nq)]))] s.heap := hP
  have hl := lv_entry ([.ref h0, .int (nI pl)]) (n := 2) (Nat.le_of_ble_eq_true rfl)
  rw [lg_entry_eq]
  generalize (lg_sl ([.ref h0, .int (nI pl)]) ++ List.replicate (2 - (lg_sl ([.ref h0, .int (nI pl)])).length) Slot.unset).toArray = ls at hl ⊢
  have hl : lv_has ls 2 [(0, .ref h0), (1, .int (nI pl))] := hl
  refine lv_aload_n hx hb dX0_descriptorAt_0 rfl (lv_at hl 0 rfl) ?_
  refine va_get (D := (dC, dI)) (ci := 0) (v := .int (nI rs)) (C := RX0) (T := TX0) (N := 4) hx hb hts hI0 hown hK hP 0 rfl rfl 0 (by decide) (hts (.fieldLink RX0 9 "RingDriver$SlotQueue" "ringStart" "I") (by decide +kernel)) (fun _ h9 => h9) rfl dX0_descriptorAt_1 ?_
  refine lv_bipush (v := nI 8) hx hb dX0_descriptorAt_4 (by decide +kernel) ?_
  refine lv_aload_n hx hb dX0_descriptorAt_6 rfl (lv_at hl 0 rfl) ?_
  refine lv_iload_n hx hb dX0_descriptorAt_7 rfl (lv_at hl 1 rfl) ?_
  have hPc := hP.sub (ws' := [(h0, .inr (0, [.int (nI rs), .int (nI fp), .int (nI tq), .int (nI nq)]))]) [0] rfl
  have hDc := hD.sub (ws' := [(h0, .inr (0, [.int (nI rs), .int (nI fp), .int (nI tq), .int (nI nq)]))]) [0] (by decide) rfl
  have hKc := hK.sub (tys' := []) [] rfl
  have hFc := va_free (wc := [(h0, .inr (0, [.int (nI rs), .int (nI fp), .int (nI tq), .int (nI nq)]))]) hD hS hA [0] rfl
  refine va_calli (va_runV (As := [.int (nI pl)]) (rest := [.int (nI 8), .int (nI rs)]) ⟨hx, hb, hml, hown, hts⟩ (c_X0_slotAt l dC dI h0 rs fp tq nq pl s.heap.size (by omega) (by omega)) (cwV 1 hts gX0_descriptorAt_X0_slotAt rfl rfl rfl (by decide +kernel) ⟨Nat.le_of_ble_eq_true rfl, Nat.le_of_ble_eq_true rfl⟩) ⟨fun a U g mk q => by obtain ⟨q0, q1, qP, qK, qD⟩ := q; exact ⟨q0, q1, qP, va_K.moved (u := U) (U := U.calling g mk a) (Vm.Alike.refl U.vm) qK, qD⟩, va_recv hKc hPc (ci := 0) (q0 := 0) rfl rfl, fun U hU hW => ⟨rfl, by rw [hU], by rw [hU]; exact hPc, va_K.moved hW.alike hKc, hDc.weaken (fun _ _ _ _ => trivial)⟩⟩ rfl rfl hl.1 rfl (lv_room (Nat.le_of_ble_eq_true rfl)) dX0_descriptorAt_8 ⟨Nat.le_of_ble_eq_true rfl, Nat.le_of_ble_eq_true rfl⟩) hS (fun q _ h => hFc q h) hFc (fun r_1 u t H1 locs ht hvm hw hB hz1 hk1 hS => ?_)
  obtain ⟨hP1, hK1, hD1⟩ := hB
  rw [ht] at hP1
  have hK1 := va_K.moved hvm.symm hK1
  obtain ⟨hP, hD⟩ := va_join (wr := []) (w1 := [(h0, .inr (0, [.int (nI rs), .int (nI fp), .int (nI tq), .int (nI nq)]))]) hP hD [0] [] rfl rfl (by decide) (by decide) hk1 hFc hP1 hD1
  have hK := (hK.sub (tys' := []) [] rfl).app hK1
  generalize H1 = H at hP hS ⊢
  have hP : va_P (dC, dI) vwCl [(h0, .inr (0, [.int (nI rs), .int (nI fp), .int (nI tq), .int (nI nq)]))] H := hP
  have hD : va_D A [(h0, .inr (0, [.int (nI rs), .int (nI fp), .int (nI tq), .int (nI nq)]))] := hD
  have hK : va_K (dC, dI) vwCl [] s := hK
  obtain rfl : r_1 = nI ((tq + pl) % 8) := hw
  refine lv_imul hx hb dX0_descriptorAt_11 ?_
  refine lv_topi (fun y_2 ey_2 => ?_)
  obtain rfl := ey_2.trans (pk_mul 8 ((tq + pl) % 8))
  refine lv_iadd hx hb dX0_descriptorAt_12 ?_
  refine lv_topi (fun y_3 ey_3 => ?_)
  obtain rfl := ey_3.trans (nI_add rs (8 * ((tq + pl) % 8)))
  have hP9 := hP.sub (ws' := [(h0, .inr (0, [.int (nI rs), .int (nI fp), .int (nI tq), .int (nI nq)]))]) [0] rfl
  have hD9 := hD.sub (ws' := [(h0, .inr (0, [.int (nI rs), .int (nI fp), .int (nI tq), .int (nI nq)]))]) [0] (by decide) rfl
  have hK9 := hK.sub (tys' := []) [] rfl
  have e_4 : nI (rs + (8 * ((tq + pl) % 8))) = nI (rs + 8 * ((tq + pl) % 8)) := congrArg nI (by omega)
  exact W.iret (v := nI (rs + (8 * ((tq + pl) % 8)))) hx hb hr (fun t ht hW => ⟨⟨_, (), rfl, e_4, by rw [ht]; exact hP9, va_K.moved hW.alike hK9, hD9⟩, hS.F ht⟩) hS.2.2 dX0_descriptorAt_13
set_option maxHeartbeats 4000000 in
set_option maxRecDepth 100000 in
theorem c_X0_hasPostedPage (l : Launch) (dC : Nat → ClassId) (dI : Nat → Nat → Nat) (h0 : Nat) (rs : Nat) (fp : Nat) (tq : Nat) (nq : Nat) (pg : Nat) (sz : Nat) (ht : tq < 8) (hn : nq ≤ 8) (hf : fp ≤ 16) (hg : pg < 24) : Met l yX0_hasPostedPage wsX0_hasPostedPage ({ frames := 0, cells := 0, slots := 0, locals := 0 }) (va_Pc [.ref h0, .int (nI pg)] (fun U => U.heap.size = sz ∧ va_P (dC, dI) vwCl [(h0, .inr (0, [.int (nI rs), .int (nI fp), .int (nI tq), .int (nI nq)]))] U.heap ∧ va_K (dC, dI) vwCl [] U ∧ va_D (fun _ => True) [(h0, .inr (0, [.int (nI rs), .int (nI fp), .int (nI tq), .int (nI nq)]))])) (va_Qi (fun (r9 : Int32) (_ : Unit) => r9 = b01 (opn fp tq nq pg)) (fun _ t => va_P (dC, dI) vwCl [(h0, .inr (0, [.int (nI rs), .int (nI fp), .int (nI tq), .int (nI nq)]))] t.heap ∧ va_K (dC, dI) vwCl [] t ∧ va_D (va_A [(h0, .inr (0, [.int (nI rs), .int (nI fp), .int (nI tq), .int (nI nq)]))] sz) [(h0, .inr (0, [.int (nI rs), .int (nI fp), .int (nI tq), .int (nI nq)]))]) (va_A [(h0, .inr (0, [.int (nI rs), .int (nI fp), .int (nI tq), .int (nI nq)]))] sz)) 0 0 (va_A [(h0, .inr (0, [.int (nI rs), .int (nI fp), .int (nI tq), .int (nI nq)]))] sz) := by
  refine Met.ofW (cc := cX0_hasPostedPage) (maxL := 3) (ret := (some .boolean)) (by decide) rfl ?_
  intro p e s m args below meth c s₁ B hml hv
  obtain ⟨rfl, hsz, hP, hK, hD0⟩ := hv
  have hx := B.exec
  have hb := B.bytes
  have hr := B.returns
  have hts := atoms_spec (ws := wsX0_hasPostedPage) B.pre
  have hown : s.vm.findClass RX0 = some m.cls := findClass_of_methodNamed B.named
  have hlocks := B.notSynchronized
  have hI0 : ∀ w ∈ u_ws RX0 TX0 4, w ∈ wsX0_hasPostedPage := by decide +kernel
  subst hsz
  have hD := hD0.self (sz := s.heap.size)
  generalize hAe : va_A [(h0, .inr (0, [.int (nI rs), .int (nI fp), .int (nI tq), .int (nI nq)]))] s.heap.size = A at hD ⊢
  have hA : ∀ q : Nat, s.heap.size ≤ q → A q := fun q h => by rw [← hAe]; exact Or.inr h
  have hS : va_S A s.heap s.heap [] := va_S.rf
  have hP : va_P (dC, dI) vwCl [(h0, .inr (0, [.int (nI rs), .int (nI fp), .int (nI tq), .int (nI nq)]))] s.heap := hP
  have hl := lv_entry ([.ref h0, .int (nI pg)]) (n := 3) (Nat.le_of_ble_eq_true rfl)
  rw [lg_entry_eq]
  generalize (lg_sl ([.ref h0, .int (nI pg)]) ++ List.replicate (3 - (lg_sl ([.ref h0, .int (nI pg)])).length) Slot.unset).toArray = ls at hl ⊢
  have hl : lv_has ls 3 [(0, .ref h0), (1, .int (nI pg))] := hl
  rcases Nat.lt_or_ge pg fp with hlo | hlo
  · refine lv_iload_n hx hb dX0_hasPostedPage_0 rfl (lv_at hl 1 rfl) ?_
    refine lv_aload_n hx hb dX0_hasPostedPage_1 rfl (lv_at hl 0 rfl) ?_
    refine va_get (D := (dC, dI)) (ci := 0) (v := .int (nI fp)) (C := RX0) (T := TX0) (N := 4) hx hb hts hI0 hown hK hP 0 rfl rfl 1 (by decide) (hts (.fieldLink RX0 15 "RingDriver$SlotQueue" "firstPage" "I") (by decide +kernel)) (fun _ h9 => h9) rfl dX0_hasPostedPage_2 ?_
    refine lv_isub hx hb dX0_hasPostedPage_5 ?_
    refine lv_topi (fun y_1 ey_1 => ?_)
    obtain rfl := ey_1.trans (rfl)
    refine lv_istore_n (lv' := [(2, .int ((nI pg - nI fp))), (0, .ref h0), (1, .int (nI pg))]) hx hb dX0_hasPostedPage_6 rfl hl (by decide) rfl (fun ls hl => ?_)
    refine lv_iload_n hx hb dX0_hasPostedPage_7 rfl (lv_at hl 0 rfl) ?_
    refine lv_if_lt (tgt := 37) hx hb dX0_hasPostedPage_8 (by decide) (fun c_2 => ?_) (fun c_2 => ?_)
    · refine lv_iconst (v := nI 0) hx hb dX0_hasPostedPage_37 (by decide +kernel) ?_
      have hP9 := hP.sub (ws' := [(h0, .inr (0, [.int (nI rs), .int (nI fp), .int (nI tq), .int (nI nq)]))]) [0] rfl
      have hD9 := hD.sub (ws' := [(h0, .inr (0, [.int (nI rs), .int (nI fp), .int (nI tq), .int (nI nq)]))]) [0] (by decide) rfl
      have hK9 := hK.sub (tys' := []) [] rfl
      have e_3 : nI 0 = b01 (opn fp tq nq pg) := b01_f (opn_n (by omega))
      exact W.zret (v := nI 0) (ty := .boolean) hx hb hr (by decide +kernel) (fun t ht hW => ⟨⟨_, (), rfl, e_3, by rw [ht]; exact hP9, va_K.moved hW.alike hK9, hD9⟩, hS.F ht⟩) hS.2.2 dX0_hasPostedPage_38
    · exact absurd (pk_sneg (by omega) hlo) c_2
  · refine lv_iload_n hx hb dX0_hasPostedPage_0 rfl (lv_at hl 1 rfl) ?_
    refine lv_aload_n hx hb dX0_hasPostedPage_1 rfl (lv_at hl 0 rfl) ?_
    refine va_get (D := (dC, dI)) (ci := 0) (v := .int (nI fp)) (C := RX0) (T := TX0) (N := 4) hx hb hts hI0 hown hK hP 0 rfl rfl 1 (by decide) (hts (.fieldLink RX0 15 "RingDriver$SlotQueue" "firstPage" "I") (by decide +kernel)) (fun _ h9 => h9) rfl dX0_hasPostedPage_2 ?_
    refine lv_isub hx hb dX0_hasPostedPage_5 ?_
    refine lv_topi (fun y_4 ey_4 => ?_)
    obtain rfl := ey_4.trans (pk_sub (a := pg) (b := fp) (by omega))
    refine lv_istore_n (lv' := [(2, .int (nI (pg - fp))), (0, .ref h0), (1, .int (nI pg))]) hx hb dX0_hasPostedPage_6 rfl hl (by decide) rfl (fun ls hl => ?_)
    refine lv_iload_n hx hb dX0_hasPostedPage_7 rfl (lv_at hl 0 rfl) ?_
    refine lv_if_lt (tgt := 37) hx hb dX0_hasPostedPage_8 (by decide) (fun c_5 => ?_) (fun c_5 => ?_)
    · exact absurd c_5 (nI_pos (by omega))
    · refine lv_iload_n hx hb dX0_hasPostedPage_11 rfl (lv_at hl 0 rfl) ?_
      refine lv_bipush (v := nI 8) hx hb dX0_hasPostedPage_12 (by decide +kernel) ?_
      refine lv_icmp_ge (tgt := 37) hx hb dX0_hasPostedPage_14 (by decide) (fun c_6 => ?_) (fun c_6 => ?_)
      · have c_6 : 8 ≤ (pg - fp) := (nI_leI (a := 8) (b := (pg - fp)) (by omega) (by omega)).mp c_6
        refine lv_iconst (v := nI 0) hx hb dX0_hasPostedPage_37 (by decide +kernel) ?_
        have hP9 := hP.sub (ws' := [(h0, .inr (0, [.int (nI rs), .int (nI fp), .int (nI tq), .int (nI nq)]))]) [0] rfl
        have hD9 := hD.sub (ws' := [(h0, .inr (0, [.int (nI rs), .int (nI fp), .int (nI tq), .int (nI nq)]))]) [0] (by decide) rfl
        have hK9 := hK.sub (tys' := []) [] rfl
        have e_7 : nI 0 = b01 (opn fp tq nq pg) := b01_f (opn_n (by omega))
        exact W.zret (v := nI 0) (ty := .boolean) hx hb hr (by decide +kernel) (fun t ht hW => ⟨⟨_, (), rfl, e_7, by rw [ht]; exact hP9, va_K.moved hW.alike hK9, hD9⟩, hS.F ht⟩) hS.2.2 dX0_hasPostedPage_38
      · have c_6 : ¬ (8 ≤ (pg - fp)) := fun h9 => c_6 ((nI_leI (a := 8) (b := (pg - fp)) (by omega) (by omega)).mpr h9)
        refine lv_iload_n hx hb dX0_hasPostedPage_17 rfl (lv_at hl 0 rfl) ?_
        refine lv_aload_n hx hb dX0_hasPostedPage_18 rfl (lv_at hl 1 rfl) ?_
        refine va_get (D := (dC, dI)) (ci := 0) (v := .int (nI tq)) (C := RX0) (T := TX0) (N := 4) hx hb hts hI0 hown hK hP 0 rfl rfl 2 (by decide) (hts (.fieldLink RX0 18 "RingDriver$SlotQueue" "oldest" "I") (by decide +kernel)) (fun _ h9 => h9) rfl dX0_hasPostedPage_19 ?_
        refine lv_isub hx hb dX0_hasPostedPage_22 ?_
        refine lv_topi (fun y_8 ey_8 => ?_)
        obtain rfl := ey_8.trans (rfl)
        refine lv_bipush (v := nI 7) hx hb dX0_hasPostedPage_23 (by decide +kernel) ?_
        refine lv_iand hx hb dX0_hasPostedPage_25 ?_
        refine lv_topi (fun y_9 ey_9 => ?_)
        obtain rfl := ey_9.trans (n_sub7 (pg - fp) (by omega) tq (by omega))
        refine lv_aload_n hx hb dX0_hasPostedPage_26 rfl (lv_at hl 1 rfl) ?_
        refine va_get (D := (dC, dI)) (ci := 0) (v := .int (nI nq)) (C := RX0) (T := TX0) (N := 4) hx hb hts hI0 hown hK hP 0 rfl rfl 3 (by decide) (hts (.fieldLink RX0 21 "RingDriver$SlotQueue" "posted" "I") (by decide +kernel)) (fun _ h9 => h9) rfl dX0_hasPostedPage_27 ?_
        refine lv_icmp_ge (tgt := 37) hx hb dX0_hasPostedPage_30 (by decide) (fun c_10 => ?_) (fun c_10 => ?_)
        · have c_10 : nq ≤ ((pg - fp + 8 - tq) % 8) := (nI_leI (a := nq) (b := ((pg - fp + 8 - tq) % 8)) (by omega) (by omega)).mp c_10
          refine lv_iconst (v := nI 0) hx hb dX0_hasPostedPage_37 (by decide +kernel) ?_
          have hP9 := hP.sub (ws' := [(h0, .inr (0, [.int (nI rs), .int (nI fp), .int (nI tq), .int (nI nq)]))]) [0] rfl
          have hD9 := hD.sub (ws' := [(h0, .inr (0, [.int (nI rs), .int (nI fp), .int (nI tq), .int (nI nq)]))]) [0] (by decide) rfl
          have hK9 := hK.sub (tys' := []) [] rfl
          have e_11 : nI 0 = b01 (opn fp tq nq pg) := b01_f (opn_n (by omega))
          exact W.zret (v := nI 0) (ty := .boolean) hx hb hr (by decide +kernel) (fun t ht hW => ⟨⟨_, (), rfl, e_11, by rw [ht]; exact hP9, va_K.moved hW.alike hK9, hD9⟩, hS.F ht⟩) hS.2.2 dX0_hasPostedPage_38
        · have c_10 : ¬ (nq ≤ ((pg - fp + 8 - tq) % 8)) := fun h9 => c_10 ((nI_leI (a := nq) (b := ((pg - fp + 8 - tq) % 8)) (by omega) (by omega)).mpr h9)
          refine lv_iconst (v := nI 1) hx hb dX0_hasPostedPage_33 (by decide +kernel) ?_
          refine lv_goto (tgt := 38) hx hb dX0_hasPostedPage_34 (by decide) ?_
          have hP9 := hP.sub (ws' := [(h0, .inr (0, [.int (nI rs), .int (nI fp), .int (nI tq), .int (nI nq)]))]) [0] rfl
          have hD9 := hD.sub (ws' := [(h0, .inr (0, [.int (nI rs), .int (nI fp), .int (nI tq), .int (nI nq)]))]) [0] (by decide) rfl
          have hK9 := hK.sub (tys' := []) [] rfl
          have e_12 : nI 1 = b01 (opn fp tq nq pg) := b01_t (opn_y (by omega))
          exact W.zret (v := nI 1) (ty := .boolean) hx hb hr (by decide +kernel) (fun t ht hW => ⟨⟨_, (), rfl, e_12, by rw [ht]; exact hP9, va_K.moved hW.alike hK9, hD9⟩, hS.F ht⟩) hS.2.2 dX0_hasPostedPage_38
set_option maxHeartbeats 4000000 in
set_option maxRecDepth 100000 in
theorem c_X0_addNext (l : Launch) (dC : Nat → ClassId) (dI : Nat → Nat → Nat) (h0 : Nat) (rs : Nat) (fp : Nat) (tq : Nat) (nq : Nat) (sz : Nat) (hn : nq < 8) : Met l yX0_addNext wsX0_addNext ({ frames := 0, cells := 0, slots := 0, locals := 0 }) (va_Pc [.ref h0] (fun U => U.heap.size = sz ∧ va_P (dC, dI) vwCl [(h0, .inr (0, [.int (nI rs), .int (nI fp), .int (nI tq), .int (nI nq)]))] U.heap ∧ va_K (dC, dI) vwCl [] U ∧ va_D (fun _ => True) [(h0, .inr (0, [.int (nI rs), .int (nI fp), .int (nI tq), .int (nI nq)]))])) (va_Qv (fun (_ : Unit) => True) (fun _ t => va_P (dC, dI) vwCl [(h0, .inr (0, [.int (nI rs), .int (nI fp), .int (nI tq), .int (nI (nq + 1))]))] t.heap ∧ va_K (dC, dI) vwCl [] t ∧ va_D (va_A [(h0, .inr (0, [.int (nI rs), .int (nI fp), .int (nI tq), .int (nI nq)]))] sz) [(h0, .inr (0, [.int (nI rs), .int (nI fp), .int (nI tq), .int (nI (nq + 1))]))]) (va_A [(h0, .inr (0, [.int (nI rs), .int (nI fp), .int (nI tq), .int (nI nq)]))] sz)) 0 0 (va_A [(h0, .inr (0, [.int (nI rs), .int (nI fp), .int (nI tq), .int (nI nq)]))] sz) := by
  refine Met.ofW (cc := cX0_addNext) (maxL := 1) (ret := none) (by decide) rfl ?_
  intro p e s m args below meth c s₁ B hml hv
  obtain ⟨rfl, hsz, hP, hK, hD0⟩ := hv
  have hx := B.exec
  have hb := B.bytes
  have hr := B.returns
  have hts := atoms_spec (ws := wsX0_addNext) B.pre
  have hown : s.vm.findClass RX0 = some m.cls := findClass_of_methodNamed B.named
  have hlocks := B.notSynchronized
  have hI0 : ∀ w ∈ u_ws RX0 TX0 4, w ∈ wsX0_addNext := by decide +kernel
  subst hsz
  have hD := hD0.self (sz := s.heap.size)
  generalize hAe : va_A [(h0, .inr (0, [.int (nI rs), .int (nI fp), .int (nI tq), .int (nI nq)]))] s.heap.size = A at hD ⊢
  have hA : ∀ q : Nat, s.heap.size ≤ q → A q := fun q h => by rw [← hAe]; exact Or.inr h
  have hS : va_S A s.heap s.heap [] := va_S.rf
  have hP : va_P (dC, dI) vwCl [(h0, .inr (0, [.int (nI rs), .int (nI fp), .int (nI tq), .int (nI nq)]))] s.heap := hP
  have hl := lv_entry ([.ref h0]) (n := 1) (Nat.le_of_ble_eq_true rfl)
  rw [lg_entry_eq]
  generalize (lg_sl ([.ref h0]) ++ List.replicate (1 - (lg_sl ([.ref h0])).length) Slot.unset).toArray = ls at hl ⊢
  have hl : lv_has ls 1 [(0, .ref h0)] := hl
  refine lv_aload_n hx hb dX0_addNext_0 rfl (lv_at hl 0 rfl) ?_
  refine lv_dup hx hb dX0_addNext_1 rfl ?_
  refine va_get (D := (dC, dI)) (ci := 0) (v := .int (nI nq)) (C := RX0) (T := TX0) (N := 4) hx hb hts hI0 hown hK hP 0 rfl rfl 3 (by decide) (hts (.fieldLink RX0 21 "RingDriver$SlotQueue" "posted" "I") (by decide +kernel)) (fun _ h9 => h9) rfl dX0_addNext_2 ?_
  refine lv_iconst (v := nI 1) hx hb dX0_addNext_5 (by decide +kernel) ?_
  refine lv_iadd hx hb dX0_addNext_6 ?_
  refine lv_topi (fun y_1 ey_1 => ?_)
  obtain rfl := ey_1.trans (nI_add nq 1)
  refine va_put (D := (dC, dI)) (ci := 0) (v := .int (nI (nq + 1))) (ty := .int) (C := RX0) (T := TX0) (N := 4) hx hb hts hI0 tyX0 tyX0_ok nmX0 hown hK hP hD hS 0 rfl rfl 3 (by decide) (hts (.fieldLink RX0 21 "RingDriver$SlotQueue" "posted" "I") (by decide +kernel)) (fun _ h9 => h9) rfl (by decide +kernel) rfl rfl (Nat.le_of_ble_eq_true rfl) dX0_addNext_7 (fun H locs hP hD hS => ?_)
  have hP : va_P (dC, dI) vwCl [(h0, .inr (0, [.int (nI rs), .int (nI fp), .int (nI tq), .int (nI (nq + 1))]))] H := hP
  have hD : va_D A [(h0, .inr (0, [.int (nI rs), .int (nI fp), .int (nI tq), .int (nI (nq + 1))]))] := hD
  have hP9 := hP.sub (ws' := [(h0, .inr (0, [.int (nI rs), .int (nI fp), .int (nI tq), .int (nI (nq + 1))]))]) [0] rfl
  have hD9 := hD.sub (ws' := [(h0, .inr (0, [.int (nI rs), .int (nI fp), .int (nI tq), .int (nI (nq + 1))]))]) [0] (by decide) rfl
  have hK9 := hK.sub (tys' := []) [] rfl
  exact W.vret hx hb hr (fun t ht hW => ⟨⟨(), rfl, trivial, by rw [ht]; exact hP9, va_K.moved hW.alike hK9, hD9⟩, hS.F ht⟩) hS.2.2 dX0_addNext_10
set_option maxHeartbeats 4000000 in
set_option maxRecDepth 100000 in
theorem c_X0_removeOldest (l : Launch) (dC : Nat → ClassId) (dI : Nat → Nat → Nat) (h0 : Nat) (rs : Nat) (fp : Nat) (tq : Nat) (nq : Nat) (sz : Nat) (ht : tq < 8) (hn : 0 < nq) (hn8 : nq ≤ 8) : Met l yX0_removeOldest wsX0_removeOldest ({ frames := 1, cells := 0, slots := 0, locals := 21 }) (va_Pc [.ref h0] (fun U => U.heap.size = sz ∧ va_P (dC, dI) vwCl [(h0, .inr (0, [.int (nI rs), .int (nI fp), .int (nI tq), .int (nI nq)]))] U.heap ∧ va_K (dC, dI) vwCl [] U ∧ va_D (fun _ => True) [(h0, .inr (0, [.int (nI rs), .int (nI fp), .int (nI tq), .int (nI nq)]))])) (va_Qv (fun (_ : Unit) => True) (fun _ t => va_P (dC, dI) vwCl [(h0, .inr (0, [.int (nI rs), .int (nI fp), .int (nI ((tq + 1) % 8)), .int (nI (nq - 1))]))] t.heap ∧ va_K (dC, dI) vwCl [] t ∧ va_D (va_A [(h0, .inr (0, [.int (nI rs), .int (nI fp), .int (nI tq), .int (nI nq)]))] sz) [(h0, .inr (0, [.int (nI rs), .int (nI fp), .int (nI ((tq + 1) % 8)), .int (nI (nq - 1))]))]) (va_A [(h0, .inr (0, [.int (nI rs), .int (nI fp), .int (nI tq), .int (nI nq)]))] sz)) 0 0 (va_A [(h0, .inr (0, [.int (nI rs), .int (nI fp), .int (nI tq), .int (nI nq)]))] sz) := by
  refine Met.ofW (cc := cX0_removeOldest) (maxL := 1) (ret := none) (by decide) rfl ?_
  intro p e s m args below meth c s₁ B hml hv
  obtain ⟨rfl, hsz, hP, hK, hD0⟩ := hv
  have hx := B.exec
  have hb := B.bytes
  have hr := B.returns
  have hts := atoms_spec (ws := wsX0_removeOldest) B.pre
  have hown : s.vm.findClass RX0 = some m.cls := findClass_of_methodNamed B.named
  have hlocks := B.notSynchronized
  have hI0 : ∀ w ∈ u_ws RX0 TX0 4, w ∈ wsX0_removeOldest := by decide +kernel
  subst hsz
  have hD := hD0.self (sz := s.heap.size)
  generalize hAe : va_A [(h0, .inr (0, [.int (nI rs), .int (nI fp), .int (nI tq), .int (nI nq)]))] s.heap.size = A at hD ⊢
  have hA : ∀ q : Nat, s.heap.size ≤ q → A q := fun q h => by rw [← hAe]; exact Or.inr h
  have hS : va_S A s.heap s.heap [] := va_S.rf
  have hP : va_P (dC, dI) vwCl [(h0, .inr (0, [.int (nI rs), .int (nI fp), .int (nI tq), .int (nI nq)]))] s.heap := hP
  have hl := lv_entry ([.ref h0]) (n := 1) (Nat.le_of_ble_eq_true rfl)
  rw [lg_entry_eq]
  generalize (lg_sl ([.ref h0]) ++ List.replicate (1 - (lg_sl ([.ref h0])).length) Slot.unset).toArray = ls at hl ⊢
  have hl : lv_has ls 1 [(0, .ref h0)] := hl
  refine lv_aload_n hx hb dX0_removeOldest_0 rfl (lv_at hl 0 rfl) ?_
  refine lv_aload_n hx hb dX0_removeOldest_1 rfl (lv_at hl 0 rfl) ?_
  refine lv_iconst (v := nI 1) hx hb dX0_removeOldest_2 (by decide +kernel) ?_
  have hPc := hP.sub (ws' := [(h0, .inr (0, [.int (nI rs), .int (nI fp), .int (nI tq), .int (nI nq)]))]) [0] rfl
  have hDc := hD.sub (ws' := [(h0, .inr (0, [.int (nI rs), .int (nI fp), .int (nI tq), .int (nI nq)]))]) [0] (by decide) rfl
  have hKc := hK.sub (tys' := []) [] rfl
  have hFc := va_free (wc := [(h0, .inr (0, [.int (nI rs), .int (nI fp), .int (nI tq), .int (nI nq)]))]) hD hS hA [0] rfl
  refine va_calli (va_runV (As := [.int (nI 1)]) (rest := [.ref h0]) ⟨hx, hb, hml, hown, hts⟩ (c_X0_slotAt l dC dI h0 rs fp tq nq 1 s.heap.size (by omega) (by omega)) (cwV 1 hts gX0_removeOldest_X0_slotAt rfl rfl rfl (by decide +kernel) ⟨Nat.le_of_ble_eq_true rfl, Nat.le_of_ble_eq_true rfl⟩) ⟨fun a U g mk q => by obtain ⟨q0, q1, qP, qK, qD⟩ := q; exact ⟨q0, q1, qP, va_K.moved (u := U) (U := U.calling g mk a) (Vm.Alike.refl U.vm) qK, qD⟩, va_recv hKc hPc (ci := 0) (q0 := 0) rfl rfl, fun U hU hW => ⟨rfl, by rw [hU], by rw [hU]; exact hPc, va_K.moved hW.alike hKc, hDc.weaken (fun _ _ _ _ => trivial)⟩⟩ rfl rfl hl.1 rfl (lv_room (Nat.le_of_ble_eq_true rfl)) dX0_removeOldest_3 ⟨Nat.le_of_ble_eq_true rfl, Nat.le_of_ble_eq_true rfl⟩) hS (fun q _ h => hFc q h) hFc (fun r_1 u t H1 locs ht hvm hw hB hz1 hk1 hS => ?_)
  obtain ⟨hP1, hK1, hD1⟩ := hB
  rw [ht] at hP1
  have hK1 := va_K.moved hvm.symm hK1
  obtain ⟨hP, hD⟩ := va_join (wr := []) (w1 := [(h0, .inr (0, [.int (nI rs), .int (nI fp), .int (nI tq), .int (nI nq)]))]) hP hD [0] [] rfl rfl (by decide) (by decide) hk1 hFc hP1 hD1
  have hK := (hK.sub (tys' := []) [] rfl).app hK1
  generalize H1 = H at hP hS ⊢
  have hP : va_P (dC, dI) vwCl [(h0, .inr (0, [.int (nI rs), .int (nI fp), .int (nI tq), .int (nI nq)]))] H := hP
  have hD : va_D A [(h0, .inr (0, [.int (nI rs), .int (nI fp), .int (nI tq), .int (nI nq)]))] := hD
  have hK : va_K (dC, dI) vwCl [] s := hK
  obtain rfl : r_1 = nI ((tq + 1) % 8) := hw
  refine va_put (D := (dC, dI)) (ci := 0) (v := .int (nI ((tq + 1) % 8))) (ty := .int) (C := RX0) (T := TX0) (N := 4) hx hb hts hI0 tyX0 tyX0_ok nmX0 hown hK hP hD hS 0 rfl rfl 2 (by decide) (hts (.fieldLink RX0 18 "RingDriver$SlotQueue" "oldest" "I") (by decide +kernel)) (fun _ h9 => h9) rfl (by decide +kernel) rfl rfl (Nat.le_of_ble_eq_true rfl) dX0_removeOldest_6 (fun H locs hP hD hS => ?_)
  have hP : va_P (dC, dI) vwCl [(h0, .inr (0, [.int (nI rs), .int (nI fp), .int (nI ((tq + 1) % 8)), .int (nI nq)]))] H := hP
  have hD : va_D A [(h0, .inr (0, [.int (nI rs), .int (nI fp), .int (nI ((tq + 1) % 8)), .int (nI nq)]))] := hD
  refine lv_aload_n hx hb dX0_removeOldest_9 rfl (lv_at hl 0 rfl) ?_
  refine lv_dup hx hb dX0_removeOldest_10 rfl ?_
  refine va_get (D := (dC, dI)) (ci := 0) (v := .int (nI nq)) (C := RX0) (T := TX0) (N := 4) hx hb hts hI0 hown hK hP 0 rfl rfl 3 (by decide) (hts (.fieldLink RX0 21 "RingDriver$SlotQueue" "posted" "I") (by decide +kernel)) (fun _ h9 => h9) rfl dX0_removeOldest_11 ?_
  refine lv_iconst (v := nI 1) hx hb dX0_removeOldest_14 (by decide +kernel) ?_
  refine lv_isub hx hb dX0_removeOldest_15 ?_
  refine lv_topi (fun y_2 ey_2 => ?_)
  obtain rfl := ey_2.trans (pk_sub (a := nq) (b := 1) (by omega))
  refine va_put (D := (dC, dI)) (ci := 0) (v := .int (nI (nq - 1))) (ty := .int) (C := RX0) (T := TX0) (N := 4) hx hb hts hI0 tyX0 tyX0_ok nmX0 hown hK hP hD hS 0 rfl rfl 3 (by decide) (hts (.fieldLink RX0 21 "RingDriver$SlotQueue" "posted" "I") (by decide +kernel)) (fun _ h9 => h9) rfl (by decide +kernel) rfl rfl (Nat.le_of_ble_eq_true rfl) dX0_removeOldest_16 (fun H locs hP hD hS => ?_)
  have hP : va_P (dC, dI) vwCl [(h0, .inr (0, [.int (nI rs), .int (nI fp), .int (nI ((tq + 1) % 8)), .int (nI (nq - 1))]))] H := hP
  have hD : va_D A [(h0, .inr (0, [.int (nI rs), .int (nI fp), .int (nI ((tq + 1) % 8)), .int (nI (nq - 1))]))] := hD
  have hP9 := hP.sub (ws' := [(h0, .inr (0, [.int (nI rs), .int (nI fp), .int (nI ((tq + 1) % 8)), .int (nI (nq - 1))]))]) [0] rfl
  have hD9 := hD.sub (ws' := [(h0, .inr (0, [.int (nI rs), .int (nI fp), .int (nI ((tq + 1) % 8)), .int (nI (nq - 1))]))]) [0] (by decide) rfl
  have hK9 := hK.sub (tys' := []) [] rfl
  exact W.vret hx hb hr (fun t ht hW => ⟨⟨(), rfl, trivial, by rw [ht]; exact hP9, va_K.moved hW.alike hK9, hD9⟩, hS.F ht⟩) hS.2.2 dX0_removeOldest_19
set_option maxHeartbeats 4000000 in
set_option maxRecDepth 100000 in
theorem c_X0_keepOldest (l : Launch) (dC : Nat → ClassId) (dI : Nat → Nat → Nat) (h0 : Nat) (rs : Nat) (fp : Nat) (tq : Nat) (nq : Nat) (pl : Nat) (sz : Nat)  : Met l yX0_keepOldest wsX0_keepOldest ({ frames := 0, cells := 0, slots := 0, locals := 0 }) (va_Pc [.ref h0, .int (nI pl)] (fun U => U.heap.size = sz ∧ va_P (dC, dI) vwCl [(h0, .inr (0, [.int (nI rs), .int (nI fp), .int (nI tq), .int (nI nq)]))] U.heap ∧ va_K (dC, dI) vwCl [] U ∧ va_D (fun _ => True) [(h0, .inr (0, [.int (nI rs), .int (nI fp), .int (nI tq), .int (nI nq)]))])) (va_Qv (fun (_ : Unit) => True) (fun _ t => va_P (dC, dI) vwCl [(h0, .inr (0, [.int (nI rs), .int (nI fp), .int (nI tq), .int (nI pl)]))] t.heap ∧ va_K (dC, dI) vwCl [] t ∧ va_D (va_A [(h0, .inr (0, [.int (nI rs), .int (nI fp), .int (nI tq), .int (nI nq)]))] sz) [(h0, .inr (0, [.int (nI rs), .int (nI fp), .int (nI tq), .int (nI pl)]))]) (va_A [(h0, .inr (0, [.int (nI rs), .int (nI fp), .int (nI tq), .int (nI nq)]))] sz)) 0 0 (va_A [(h0, .inr (0, [.int (nI rs), .int (nI fp), .int (nI tq), .int (nI nq)]))] sz) := by
  refine Met.ofW (cc := cX0_keepOldest) (maxL := 2) (ret := none) (by decide) rfl ?_
  intro p e s m args below meth c s₁ B hml hv
  obtain ⟨rfl, hsz, hP, hK, hD0⟩ := hv
  have hx := B.exec
  have hb := B.bytes
  have hr := B.returns
  have hts := atoms_spec (ws := wsX0_keepOldest) B.pre
  have hown : s.vm.findClass RX0 = some m.cls := findClass_of_methodNamed B.named
  have hlocks := B.notSynchronized
  have hI0 : ∀ w ∈ u_ws RX0 TX0 4, w ∈ wsX0_keepOldest := by decide +kernel
  subst hsz
  have hD := hD0.self (sz := s.heap.size)
  generalize hAe : va_A [(h0, .inr (0, [.int (nI rs), .int (nI fp), .int (nI tq), .int (nI nq)]))] s.heap.size = A at hD ⊢
  have hA : ∀ q : Nat, s.heap.size ≤ q → A q := fun q h => by rw [← hAe]; exact Or.inr h
  have hS : va_S A s.heap s.heap [] := va_S.rf
  have hP : va_P (dC, dI) vwCl [(h0, .inr (0, [.int (nI rs), .int (nI fp), .int (nI tq), .int (nI nq)]))] s.heap := hP
  have hl := lv_entry ([.ref h0, .int (nI pl)]) (n := 2) (Nat.le_of_ble_eq_true rfl)
  rw [lg_entry_eq]
  generalize (lg_sl ([.ref h0, .int (nI pl)]) ++ List.replicate (2 - (lg_sl ([.ref h0, .int (nI pl)])).length) Slot.unset).toArray = ls at hl ⊢
  have hl : lv_has ls 2 [(0, .ref h0), (1, .int (nI pl))] := hl
  refine lv_aload_n hx hb dX0_keepOldest_0 rfl (lv_at hl 0 rfl) ?_
  refine lv_iload_n hx hb dX0_keepOldest_1 rfl (lv_at hl 1 rfl) ?_
  refine va_put (D := (dC, dI)) (ci := 0) (v := .int (nI pl)) (ty := .int) (C := RX0) (T := TX0) (N := 4) hx hb hts hI0 tyX0 tyX0_ok nmX0 hown hK hP hD hS 0 rfl rfl 3 (by decide) (hts (.fieldLink RX0 21 "RingDriver$SlotQueue" "posted" "I") (by decide +kernel)) (fun _ h9 => h9) rfl (by decide +kernel) rfl rfl (Nat.le_of_ble_eq_true rfl) dX0_keepOldest_2 (fun H locs hP hD hS => ?_)
  have hP : va_P (dC, dI) vwCl [(h0, .inr (0, [.int (nI rs), .int (nI fp), .int (nI tq), .int (nI pl)]))] H := hP
  have hD : va_D A [(h0, .inr (0, [.int (nI rs), .int (nI fp), .int (nI tq), .int (nI pl)]))] := hD
  have hP9 := hP.sub (ws' := [(h0, .inr (0, [.int (nI rs), .int (nI fp), .int (nI tq), .int (nI pl)]))]) [0] rfl
  have hD9 := hD.sub (ws' := [(h0, .inr (0, [.int (nI rs), .int (nI fp), .int (nI tq), .int (nI pl)]))]) [0] (by decide) rfl
  have hK9 := hK.sub (tys' := []) [] rfl
  exact W.vret hx hb hr (fun t ht hW => ⟨⟨(), rfl, trivial, by rw [ht]; exact hP9, va_K.moved hW.alike hK9, hD9⟩, hS.F ht⟩) hS.2.2 dX0_keepOldest_5
end
section
theorem gvB_t {M : Nat → Nat} {rs t n p : Nat} (h1 : p < n) (h2 : M (rs + 8 * ((t + p) % 8) + 2) = 0) : gvB M rs t n p = true := by
  unfold gvB; rw [gbP_t h2, decide_eq_true h1]; rfl
theorem gvB_f1 {M : Nat → Nat} {rs t n p : Nat} (h : ¬ p < n) : gvB M rs t n p = false := by
  unfold gvB; rw [decide_eq_false h]; rfl
theorem gvB_f2 {M : Nat → Nat} {rs t n p : Nat} (h : ¬ M (rs + 8 * ((t + p) % 8) + 2) = 0) : gvB M rs t n p = false := by
  unfold gvB; rw [gbP_f h]; exact Bool.and_false _
theorem gvB_i {M : Nat → Nat} {rs t n p : Nat} (h : gvB M rs t n p = true) : p < n ∧ gbP M rs t p = true := by
  unfold gvB at h; rw [Bool.and_eq_true] at h; exact ⟨of_decide_eq_true h.1, h.2⟩
theorem gvB_e {M : Nat → Nat} {rs t n p : Nat} (hp : p ≤ n) (h : gvB M rs t n p = false) : p = n ∨ gbP M rs t p = false := by
  rcases Nat.lt_or_ge p n with q | q
  · right
    unfold gvB at h; rw [decide_eq_true q, Bool.true_and] at h; exact h
  · left; omega
theorem gbP_sh {M : Nat → Nat} {rs t i : Nat} : gbP M rs ((t + i) % 8) 0 = gbP M rs t i := by
  unfold gbP; rw [show ((t + i) % 8 + 0) % 8 = (t + i) % 8 from by omega]
theorem gvB_i0 {M : Nat → Nat} {rs t n i : Nat} (h : gvB M rs ((t + i) % 8) (n - i) 0 = true) : i < n ∧ gbP M rs t i = true := by
  have h := gvB_i h
  rw [gbP_sh] at h
  exact ⟨by omega, h.2⟩
theorem gvB_e0 {M : Nat → Nat} {rs t n i : Nat} (hi : i ≤ n) (h : gvB M rs ((t + i) % 8) (n - i) 0 = false) : i = n ∨ gbP M rs t i = false := by
  rcases gvB_e (Nat.zero_le _) h with q | q
  · left; omega
  · right; rw [gbP_sh] at q; exact q
def pnM (M O : Nat → Nat) (rs fp t n len : Nat) : Nat → Nat := selM (decide (n < 8)) (fdI (fbI M O (16 * (fp + (t + n) % 8)) len 16) (rs + 8 * ((t + n) % 8)) (fp + (t + n) % 8) len 8) M
def okL (c : Nat) : Bool := decide (1 ≤ c ∧ c ≤ 16)
theorem okL_s {c : Nat} : decide (0 < selN (decide (1 ≤ c ∧ c ≤ 16)) c 0) = okL c := by
  unfold okL
  by_cases h : 1 ≤ c ∧ c ≤ 16
  · rw [← selN_t (decide_eq_true h), decide_eq_true h]; exact decide_eq_true (by omega)
  · rw [← selN_f (decide_eq_false h), decide_eq_false h]; rfl
theorem r0 {r : Nat} (h : r < 8) : (r + 0) % 8 = r := by omega
theorem cellI (N : Nat) : ∀ cA : ClassId, vp_cell cA (N, .inl (fun _ => (0 : Int32))) = arrV cA N (fun _ => defaultValue .int) := fun _ => rfl
theorem cellB (N : Nat) : ∀ cA : ClassId, vp_cell cA (N, .inl (fun _ => (0 : Int32))) = arrV cA N (fun _ => defaultValue .byte) := fun _ => rfl
theorem cellBo (N : Nat) : ∀ cA : ClassId, vp_cell cA (N, .inl (fun _ => (0 : Int32))) = arrV cA N (fun _ => defaultValue .boolean) := fun _ => rfl
end
section
set_option maxHeartbeats 4000000 in
set_option maxRecDepth 100000 in
theorem c_X1_fault (l : Launch) (dC : Nat → ClassId) (dI : Nat → Nat → Nat) (aR : Nat) (aM : Nat) (aO : Nat) (aI : Nat) (aT : Nat) (aE : Nat) (ff : Int32) (sz : Nat)  : Met l yX1_fault wsX1_fault ({ frames := 0, cells := 0, slots := 0, locals := 0 }) (va_Pc [.ref aR] (fun U => U.heap.size = sz ∧ va_P (dC, dI) vwCl [(aR, .inr (1, [.ref aM, .ref aO, .ref aI, .ref aT, .ref aE, .int ff]))] U.heap ∧ va_K (dC, dI) vwCl [] U ∧ va_D (fun _ => True) [(aR, .inr (1, [.ref aM, .ref aO, .ref aI, .ref aT, .ref aE, .int ff]))])) (va_Qi (fun (r9 : Int32) (_ : Unit) => r9 = (-1)) (fun _ t => va_P (dC, dI) vwCl [(aR, .inr (1, [.ref aM, .ref aO, .ref aI, .ref aT, .ref aE, .int ((ff + nI 1))]))] t.heap ∧ va_K (dC, dI) vwCl [] t ∧ va_D (va_A [(aR, .inr (1, [.ref aM, .ref aO, .ref aI, .ref aT, .ref aE, .int ff]))] sz) [(aR, .inr (1, [.ref aM, .ref aO, .ref aI, .ref aT, .ref aE, .int ((ff + nI 1))]))]) (va_A [(aR, .inr (1, [.ref aM, .ref aO, .ref aI, .ref aT, .ref aE, .int ff]))] sz)) 0 0 (va_A [(aR, .inr (1, [.ref aM, .ref aO, .ref aI, .ref aT, .ref aE, .int ff]))] sz) := by
  refine Met.ofW (cc := cX1_fault) (maxL := 1) (ret := (some .int)) (by decide) rfl ?_
  intro p e s m args below meth c s₁ B hml hv
  obtain ⟨rfl, hsz, hP, hK, hD0⟩ := hv
  have hx := B.exec
  have hb := B.bytes
  have hr := B.returns
  have hts := atoms_spec (ws := wsX1_fault) B.pre
  have hown : s.vm.findClass RX1 = some m.cls := findClass_of_methodNamed B.named
  have hlocks := B.notSynchronized
  have hI1 : ∀ w ∈ u_ws RX1 TX1 6, w ∈ wsX1_fault := by decide +kernel
  subst hsz
  have hD := hD0.self (sz := s.heap.size)
  generalize hAe : va_A [(aR, .inr (1, [.ref aM, .ref aO, .ref aI, .ref aT, .ref aE, .int ff]))] s.heap.size = A at hD ⊢
  have hA : ∀ q : Nat, s.heap.size ≤ q → A q := fun q h => by rw [← hAe]; exact Or.inr h
  have hS : va_S A s.heap s.heap [] := va_S.rf
  have hP : va_P (dC, dI) vwCl [(aR, .inr (1, [.ref aM, .ref aO, .ref aI, .ref aT, .ref aE, .int ff]))] s.heap := hP
  have hl := lv_entry ([.ref aR]) (n := 1) (Nat.le_of_ble_eq_true rfl)
  rw [lg_entry_eq]
  generalize (lg_sl ([.ref aR]) ++ List.replicate (1 - (lg_sl ([.ref aR])).length) Slot.unset).toArray = ls at hl ⊢
  have hl : lv_has ls 1 [(0, .ref aR)] := hl
  refine lv_aload_n hx hb dX1_fault_0 rfl (lv_at hl 0 rfl) ?_
  refine lv_dup hx hb dX1_fault_1 rfl ?_
  refine va_get (D := (dC, dI)) (ci := 1) (v := .int ff) (C := RX1) (T := TX1) (N := 6) hx hb hts hI1 hown hK hP 0 rfl rfl 5 (by decide) (hts (.fieldLink RX1 31 "RingDriver" "faultCount" "I") (by decide +kernel)) (fun _ h9 => h9) rfl dX1_fault_2 ?_
  refine lv_iconst (v := nI 1) hx hb dX1_fault_5 (by decide +kernel) ?_
  refine lv_iadd hx hb dX1_fault_6 ?_
  refine lv_topi (fun y_1 ey_1 => ?_)
  obtain rfl := ey_1.trans (rfl)
  refine va_put (D := (dC, dI)) (ci := 1) (v := .int ((ff + nI 1))) (ty := .int) (C := RX1) (T := TX1) (N := 6) hx hb hts hI1 tyX1 tyX1_ok nmX1 hown hK hP hD hS 0 rfl rfl 5 (by decide) (hts (.fieldLink RX1 31 "RingDriver" "faultCount" "I") (by decide +kernel)) (fun _ h9 => h9) rfl (by decide +kernel) rfl rfl (Nat.le_of_ble_eq_true rfl) dX1_fault_7 (fun H locs hP hD hS => ?_)
  have hP : va_P (dC, dI) vwCl [(aR, .inr (1, [.ref aM, .ref aO, .ref aI, .ref aT, .ref aE, .int ((ff + nI 1))]))] H := hP
  have hD : va_D A [(aR, .inr (1, [.ref aM, .ref aO, .ref aI, .ref aT, .ref aE, .int ((ff + nI 1))]))] := hD
  refine lv_iconst (v := (-1)) hx hb dX1_fault_10 (by decide +kernel) ?_
  have hP9 := hP.sub (ws' := [(aR, .inr (1, [.ref aM, .ref aO, .ref aI, .ref aT, .ref aE, .int ((ff + nI 1))]))]) [0] rfl
  have hD9 := hD.sub (ws' := [(aR, .inr (1, [.ref aM, .ref aO, .ref aI, .ref aT, .ref aE, .int ((ff + nI 1))]))]) [0] (by decide) rfl
  have hK9 := hK.sub (tys' := []) [] rfl
  have e_2 : ((-1) : Int32) = (-1) := rfl
  exact W.iret (v := (-1)) hx hb hr (fun t ht hW => ⟨⟨_, (), rfl, e_2, by rw [ht]; exact hP9, va_K.moved hW.alike hK9, hD9⟩, hS.F ht⟩) hS.2.2 dX1_fault_11
set_option maxHeartbeats 4000000 in
set_option maxRecDepth 100000 in
theorem c_X1_isOpen (l : Launch) (dC : Nat → ClassId) (dI : Nat → Nat → Nat) (aQ : Nat) (rs : Nat) (fp : Nat) (tq : Nat) (nq : Nat) (aa : Nat) (sz : Nat) (hht : tq < 8) (hhn : nq ≤ 8) (hhf : fp ≤ 16) (haa : aa < 384) : Met l yX1_isOpen wsX1_isOpen ({ frames := 1, cells := 0, slots := 0, locals := 22 }) (va_Pc [.int (nI aa), .ref aQ] (fun U => U.heap.size = sz ∧ va_P (dC, dI) vwCl [(aQ, .inr (0, [.int (nI rs), .int (nI fp), .int (nI tq), .int (nI nq)]))] U.heap ∧ va_K (dC, dI) vwCl [] U ∧ va_D (fun _ => True) [(aQ, .inr (0, [.int (nI rs), .int (nI fp), .int (nI tq), .int (nI nq)]))])) (va_Qi (fun (r9 : Int32) (_ : Unit) => r9 = b01 (ropn fp tq nq aa)) (fun _ t => va_P (dC, dI) vwCl [(aQ, .inr (0, [.int (nI rs), .int (nI fp), .int (nI tq), .int (nI nq)]))] t.heap ∧ va_K (dC, dI) vwCl [] t ∧ va_D (va_A [(aQ, .inr (0, [.int (nI rs), .int (nI fp), .int (nI tq), .int (nI nq)]))] sz) [(aQ, .inr (0, [.int (nI rs), .int (nI fp), .int (nI tq), .int (nI nq)]))]) (va_A [(aQ, .inr (0, [.int (nI rs), .int (nI fp), .int (nI tq), .int (nI nq)]))] sz)) 0 0 (va_A [(aQ, .inr (0, [.int (nI rs), .int (nI fp), .int (nI tq), .int (nI nq)]))] sz) := by
  refine Met.ofW (cc := cX1_isOpen) (maxL := 2) (ret := (some .boolean)) (by decide) rfl ?_
  intro p e s m args below meth c s₁ B hml hv
  obtain ⟨rfl, hsz, hP, hK, hD0⟩ := hv
  have hx := B.exec
  have hb := B.bytes
  have hr := B.returns
  have hts := atoms_spec (ws := wsX1_isOpen) B.pre
  have hown : s.vm.findClass RX1 = some m.cls := findClass_of_methodNamed B.named
  have hlocks := B.notSynchronized
  subst hsz
  have hD := hD0.self (sz := s.heap.size)
  generalize hAe : va_A [(aQ, .inr (0, [.int (nI rs), .int (nI fp), .int (nI tq), .int (nI nq)]))] s.heap.size = A at hD ⊢
  have hA : ∀ q : Nat, s.heap.size ≤ q → A q := fun q h => by rw [← hAe]; exact Or.inr h
  have hS : va_S A s.heap s.heap [] := va_S.rf
  have hP : va_P (dC, dI) vwCl [(aQ, .inr (0, [.int (nI rs), .int (nI fp), .int (nI tq), .int (nI nq)]))] s.heap := hP
  have hl := lv_entry ([.int (nI aa), .ref aQ]) (n := 2) (Nat.le_of_ble_eq_true rfl)
  rw [lg_entry_eq]
  generalize (lg_sl ([.int (nI aa), .ref aQ]) ++ List.replicate (2 - (lg_sl ([.int (nI aa), .ref aQ])).length) Slot.unset).toArray = ls at hl ⊢
  have hl : lv_has ls 2 [(0, .int (nI aa)), (1, .ref aQ)] := hl
  refine lv_iload_n hx hb dX1_isOpen_0 rfl (lv_at hl 0 rfl) ?_
  refine lv_sipush (v := nI 128) hx hb dX1_isOpen_1 (by decide +kernel) ?_
  refine lv_icmp_lt (tgt := 18) hx hb dX1_isOpen_4 (by decide) (fun c_1 => ?_) (fun c_1 => ?_)
  · have c_1 : aa < 128 := (nI_ltI (a := aa) (b := 128) (by omega) (by omega)).mp c_1
    refine lv_iconst (v := nI 1) hx hb dX1_isOpen_18 (by decide +kernel) ?_
    refine lv_goto (tgt := 23) hx hb dX1_isOpen_19 (by decide) ?_
    have hP9 := hP.sub (ws' := [(aQ, .inr (0, [.int (nI rs), .int (nI fp), .int (nI tq), .int (nI nq)]))]) [0] rfl
    have hD9 := hD.sub (ws' := [(aQ, .inr (0, [.int (nI rs), .int (nI fp), .int (nI tq), .int (nI nq)]))]) [0] (by decide) rfl
    have hK9 := hK.sub (tys' := []) [] rfl
    have e_2 : (nI 1 : Int32) = b01 (ropn fp tq nq aa) := b01_t (by first | exact ropn_lo (by omega) | exact (ropn_hi (by omega)).trans (by assumption))
    exact W.zret (v := nI 1) (ty := .boolean) hx hb hr (by decide +kernel) (fun t ht hW => ⟨⟨_, (), rfl, e_2, by rw [ht]; exact hP9, va_K.moved hW.alike hK9, hD9⟩, hS.F ht⟩) hS.2.2 dX1_isOpen_23
  · have c_1 : ¬ (aa < 128) := fun h9 => c_1 ((nI_ltI (a := aa) (b := 128) (by omega) (by omega)).mpr h9)
    refine lv_aload_n hx hb dX1_isOpen_7 rfl (lv_at hl 1 rfl) ?_
    refine lv_iload_n hx hb dX1_isOpen_8 rfl (lv_at hl 0 rfl) ?_
    refine lv_bipush (v := nI 16) hx hb dX1_isOpen_9 (by decide +kernel) ?_
    refine lv_idiv hx hb dX1_isOpen_11 (by decide +kernel) ?_
    refine lv_topi (fun y_3 ey_3 => ?_)
    obtain rfl := ey_3.trans (pk_div (a := aa) (d := 16) (by omega) (by decide) (by decide))
    have hPc := hP.sub (ws' := [(aQ, .inr (0, [.int (nI rs), .int (nI fp), .int (nI tq), .int (nI nq)]))]) [0] rfl
    have hDc := hD.sub (ws' := [(aQ, .inr (0, [.int (nI rs), .int (nI fp), .int (nI tq), .int (nI nq)]))]) [0] (by decide) rfl
    have hKc := hK.sub (tys' := []) [] rfl
    have hFc := va_free (wc := [(aQ, .inr (0, [.int (nI rs), .int (nI fp), .int (nI tq), .int (nI nq)]))]) hD hS hA [0] rfl
    refine va_calli (va_runV (As := [.int (nI (aa / 16))]) (rest := []) ⟨hx, hb, hml, hown, hts⟩ (c_X0_hasPostedPage l dC dI aQ rs fp tq nq (aa / 16) s.heap.size (by omega) (by omega) (by omega) (by omega)) (cwV 1 hts gX1_isOpen_X0_hasPostedPage rfl rfl rfl (by decide +kernel) ⟨Nat.le_of_ble_eq_true rfl, Nat.le_of_ble_eq_true rfl⟩) ⟨fun a U g mk q => by obtain ⟨q0, q1, qP, qK, qD⟩ := q; exact ⟨q0, q1, qP, va_K.moved (u := U) (U := U.calling g mk a) (Vm.Alike.refl U.vm) qK, qD⟩, va_recv hKc hPc (ci := 0) (q0 := 0) rfl rfl, fun U hU hW => ⟨rfl, by rw [hU], by rw [hU]; exact hPc, va_K.moved hW.alike hKc, hDc.weaken (fun _ _ _ _ => trivial)⟩⟩ rfl rfl hl.1 rfl (lv_room (Nat.le_of_ble_eq_true rfl)) dX1_isOpen_12 ⟨Nat.le_of_ble_eq_true rfl, Nat.le_of_ble_eq_true rfl⟩) hS (fun q _ h => hFc q h) hFc (fun r_4 u t H1 locs ht hvm hw hB hz1 hk1 hS => ?_)
    obtain ⟨hP1, hK1, hD1⟩ := hB
    rw [ht] at hP1
    have hK1 := va_K.moved hvm.symm hK1
    obtain ⟨hP, hD⟩ := va_join (wr := []) (w1 := [(aQ, .inr (0, [.int (nI rs), .int (nI fp), .int (nI tq), .int (nI nq)]))]) hP hD [0] [] rfl rfl (by decide) (by decide) hk1 hFc hP1 hD1
    have hK := (hK.sub (tys' := []) [] rfl).app hK1
    generalize H1 = H at hP hS ⊢
    have hP : va_P (dC, dI) vwCl [(aQ, .inr (0, [.int (nI rs), .int (nI fp), .int (nI tq), .int (nI nq)]))] H := hP
    have hD : va_D A [(aQ, .inr (0, [.int (nI rs), .int (nI fp), .int (nI tq), .int (nI nq)]))] := hD
    have hK : va_K (dC, dI) vwCl [] s := hK
    obtain rfl : r_4 = b01 (opn fp tq nq (aa / 16)) := hw
    refine lv_if_eq (tgt := 22) hx hb dX1_isOpen_15 (by decide) (fun c_5 => ?_) (fun c_5 => ?_)
    · have c_5 := b01_e c_5
      refine lv_iconst (v := nI 0) hx hb dX1_isOpen_22 (by decide +kernel) ?_
      have hP9 := hP.sub (ws' := [(aQ, .inr (0, [.int (nI rs), .int (nI fp), .int (nI tq), .int (nI nq)]))]) [0] rfl
      have hD9 := hD.sub (ws' := [(aQ, .inr (0, [.int (nI rs), .int (nI fp), .int (nI tq), .int (nI nq)]))]) [0] (by decide) rfl
      have hK9 := hK.sub (tys' := []) [] rfl
      have e_6 : (nI 0 : Int32) = b01 (ropn fp tq nq aa) := b01_f ((ropn_hi (by omega)).trans (by assumption))
      exact W.zret (v := nI 0) (ty := .boolean) hx hb hr (by decide +kernel) (fun t ht hW => ⟨⟨_, (), rfl, e_6, by rw [ht]; exact hP9, va_K.moved hW.alike hK9, hD9⟩, hS.F ht⟩) hS.2.2 dX1_isOpen_23
    · have c_5 := b01_n c_5
      refine lv_iconst (v := nI 1) hx hb dX1_isOpen_18 (by decide +kernel) ?_
      refine lv_goto (tgt := 23) hx hb dX1_isOpen_19 (by decide) ?_
      have hP9 := hP.sub (ws' := [(aQ, .inr (0, [.int (nI rs), .int (nI fp), .int (nI tq), .int (nI nq)]))]) [0] rfl
      have hD9 := hD.sub (ws' := [(aQ, .inr (0, [.int (nI rs), .int (nI fp), .int (nI tq), .int (nI nq)]))]) [0] (by decide) rfl
      have hK9 := hK.sub (tys' := []) [] rfl
      have e_7 : (nI 1 : Int32) = b01 (ropn fp tq nq aa) := b01_t (by first | exact ropn_lo (by omega) | exact (ropn_hi (by omega)).trans (by assumption))
      exact W.zret (v := nI 1) (ty := .boolean) hx hb hr (by decide +kernel) (fun t ht hW => ⟨⟨_, (), rfl, e_7, by rw [ht]; exact hP9, va_K.moved hW.alike hK9, hD9⟩, hS.F ht⟩) hS.2.2 dX1_isOpen_23
set_option maxHeartbeats 4000000 in
set_option maxRecDepth 100000 in
theorem c_X1_isFrameLength (l : Launch) (dC : Nat → ClassId) (dI : Nat → Nat → Nat) (p0 : Int32) (k : Nat) (sz : Nat) (hk : LX p0 k) : Met l yX1_isFrameLength wsX1_isFrameLength ({ frames := 0, cells := 0, slots := 0, locals := 0 }) (va_Pc [.int p0] (fun U => U.heap.size = sz ∧ va_P (dC, dI) vwCl [] U.heap ∧ va_K (dC, dI) vwCl [] U ∧ va_D (fun _ => True) [])) (va_Qi (fun (r9 : Int32) (_ : Unit) => r9 = b01 (decide (0 < k))) (fun _ t => va_P (dC, dI) vwCl [] t.heap ∧ va_K (dC, dI) vwCl [] t ∧ va_D (va_A [] sz) []) (va_A [] sz)) 0 0 (va_A [] sz) := by
  refine Met.ofW (cc := cX1_isFrameLength) (maxL := 1) (ret := (some .boolean)) (by decide) rfl ?_
  intro p e s m args below meth c s₁ B hml hv
  obtain ⟨rfl, hsz, hP, hK, hD0⟩ := hv
  have hx := B.exec
  have hb := B.bytes
  have hr := B.returns
  have hts := atoms_spec (ws := wsX1_isFrameLength) B.pre
  have hown : s.vm.findClass RX1 = some m.cls := findClass_of_methodNamed B.named
  have hlocks := B.notSynchronized
  subst hsz
  have hD := hD0.self (sz := s.heap.size)
  generalize hAe : va_A [] s.heap.size = A at hD ⊢
  have hA : ∀ q : Nat, s.heap.size ≤ q → A q := fun q h => by rw [← hAe]; exact Or.inr h
  have hS : va_S A s.heap s.heap [] := va_S.rf
  have hP : va_P (dC, dI) vwCl [] s.heap := hP
  have hl := lv_entry ([.int p0]) (n := 1) (Nat.le_of_ble_eq_true rfl)
  rw [lg_entry_eq]
  generalize (lg_sl ([.int p0]) ++ List.replicate (1 - (lg_sl ([.int p0])).length) Slot.unset).toArray = ls at hl ⊢
  have hl : lv_has ls 1 [(0, .int p0)] := hl
  rcases hk with ⟨hlo, rfl⟩ | ⟨hhi, rfl⟩ | ⟨hkk, rfl⟩
  · refine lv_iload_n hx hb dX1_isFrameLength_0 rfl (lv_at hl 0 rfl) ?_
    refine lv_iconst (v := nI 1) hx hb dX1_isFrameLength_1 (by decide +kernel) ?_
    refine lv_icmp_lt (tgt := 15) hx hb dX1_isFrameLength_2 (by decide) (fun c_1 => ?_) (fun c_1 => ?_)
    · refine lv_iconst (v := nI 0) hx hb dX1_isFrameLength_15 (by decide +kernel) ?_
      have hP9 := hP.sub (ws' := []) [] rfl
      have hD9 := hD.sub (ws' := []) [] (by decide) rfl
      have hK9 := hK.sub (tys' := []) [] rfl
      have e_2 : (nI 0 : Int32) = b01 (decide (0 < 0)) := b01_f (decide_eq_false (by omega))
      exact W.zret (v := nI 0) (ty := .boolean) hx hb hr (by decide +kernel) (fun t ht hW => ⟨⟨_, (), rfl, e_2, by rw [ht]; exact hP9, va_K.moved hW.alike hK9, hD9⟩, hS.F ht⟩) hS.2.2 dX1_isFrameLength_16
    · exact absurd hlo c_1
  · refine lv_iload_n hx hb dX1_isFrameLength_0 rfl (lv_at hl 0 rfl) ?_
    refine lv_iconst (v := nI 1) hx hb dX1_isFrameLength_1 (by decide +kernel) ?_
    refine lv_icmp_lt (tgt := 15) hx hb dX1_isFrameLength_2 (by decide) (fun c_3 => ?_) (fun c_3 => ?_)
    · exact absurd c_3 hhi.1
    · refine lv_iload_n hx hb dX1_isFrameLength_5 rfl (lv_at hl 0 rfl) ?_
      refine lv_bipush (v := nI 16) hx hb dX1_isFrameLength_6 (by decide +kernel) ?_
      refine lv_icmp_gt (tgt := 15) hx hb dX1_isFrameLength_8 (by decide) (fun c_4 => ?_) (fun c_4 => ?_)
      · refine lv_iconst (v := nI 0) hx hb dX1_isFrameLength_15 (by decide +kernel) ?_
        have hP9 := hP.sub (ws' := []) [] rfl
        have hD9 := hD.sub (ws' := []) [] (by decide) rfl
        have hK9 := hK.sub (tys' := []) [] rfl
        have e_5 : (nI 0 : Int32) = b01 (decide (0 < 0)) := b01_f (decide_eq_false (by omega))
        exact W.zret (v := nI 0) (ty := .boolean) hx hb hr (by decide +kernel) (fun t ht hW => ⟨⟨_, (), rfl, e_5, by rw [ht]; exact hP9, va_K.moved hW.alike hK9, hD9⟩, hS.F ht⟩) hS.2.2 dX1_isFrameLength_16
      · exact absurd hhi.2 c_4
  · refine lv_iload_n hx hb dX1_isFrameLength_0 rfl (lv_at hl 0 rfl) ?_
    refine lv_iconst (v := nI 1) hx hb dX1_isFrameLength_1 (by decide +kernel) ?_
    refine lv_icmp_lt (tgt := 15) hx hb dX1_isFrameLength_2 (by decide) (fun c_6 => ?_) (fun c_6 => ?_)
    · have c_6 : k < 1 := (nI_ltI (a := k) (b := 1) (by omega) (by omega)).mp c_6
      exact absurd c_6 (by omega)
    · have c_6 : ¬ (k < 1) := fun h9 => c_6 ((nI_ltI (a := k) (b := 1) (by omega) (by omega)).mpr h9)
      refine lv_iload_n hx hb dX1_isFrameLength_5 rfl (lv_at hl 0 rfl) ?_
      refine lv_bipush (v := nI 16) hx hb dX1_isFrameLength_6 (by decide +kernel) ?_
      refine lv_icmp_gt (tgt := 15) hx hb dX1_isFrameLength_8 (by decide) (fun c_7 => ?_) (fun c_7 => ?_)
      · have c_7 : 16 < k := (nI_ltI (a := 16) (b := k) (by omega) (by omega)).mp c_7
        exact absurd c_7 (by omega)
      · have c_7 : ¬ (16 < k) := fun h9 => c_7 ((nI_ltI (a := 16) (b := k) (by omega) (by omega)).mpr h9)
        refine lv_iconst (v := nI 1) hx hb dX1_isFrameLength_11 (by decide +kernel) ?_
        refine lv_goto (tgt := 16) hx hb dX1_isFrameLength_12 (by decide) ?_
        have hP9 := hP.sub (ws' := []) [] rfl
        have hD9 := hD.sub (ws' := []) [] (by decide) rfl
        have hK9 := hK.sub (tys' := []) [] rfl
        have e_8 : (nI 1 : Int32) = b01 (decide (0 < k)) := b01_t (decide_eq_true (by omega))
        exact W.zret (v := nI 1) (ty := .boolean) hx hb hr (by decide +kernel) (fun t ht hW => ⟨⟨_, (), rfl, e_8, by rw [ht]; exact hP9, va_K.moved hW.alike hK9, hD9⟩, hS.F ht⟩) hS.2.2 dX1_isFrameLength_16
set_option maxHeartbeats 4000000 in
set_option maxRecDepth 100000 in
theorem c_X1_isGivenBack (l : Launch) (dC : Nat → ClassId) (dI : Nat → Nat → Nat) (aR : Nat) (aM : Nat) (aO : Nat) (aI : Nat) (aT : Nat) (aE : Nat) (ff : Int32) (kM : ClassId) (Mm : Nat → Nat) (aQ : Nat) (rs : Nat) (fp : Nat) (tq : Nat) (nq : Nat) (pl : Nat) (sz : Nat) (hht : tq < 8) (hhn : nq ≤ 8) (hhrs : rs ≤ 64) (hhp : pl ≤ 8) (hM : ∀ j, Mm j < 256) : Met l yX1_isGivenBack wsX1_isGivenBack ({ frames := 2, cells := 0, slots := 0, locals := 42 }) (va_Pc [.ref aR, .ref aQ, .int (nI pl)] (fun U => U.heap.size = sz ∧ va_P (dC, dI) vwCl [(aR, .inr (1, [.ref aM, .ref aO, .ref aI, .ref aT, .ref aE, .int ff])), (aM, .inl (kM, 384, .inl (nM Mm))), (aQ, .inr (0, [.int (nI rs), .int (nI fp), .int (nI tq), .int (nI nq)]))] U.heap ∧ va_K (dC, dI) vwCl [(kM, .int)] U ∧ va_D (fun _ => True) [(aR, .inr (1, [.ref aM, .ref aO, .ref aI, .ref aT, .ref aE, .int ff])), (aM, .inl (kM, 384, .inl (nM Mm))), (aQ, .inr (0, [.int (nI rs), .int (nI fp), .int (nI tq), .int (nI nq)]))])) (va_Qi (fun (r9 : Int32) (_ : Unit) => r9 = b01 (gvB Mm rs tq nq pl)) (fun _ t => va_P (dC, dI) vwCl [(aR, .inr (1, [.ref aM, .ref aO, .ref aI, .ref aT, .ref aE, .int ff])), (aM, .inl (kM, 384, .inl (nM Mm))), (aQ, .inr (0, [.int (nI rs), .int (nI fp), .int (nI tq), .int (nI nq)]))] t.heap ∧ va_K (dC, dI) vwCl [(kM, .int)] t ∧ va_D (va_A [(aR, .inr (1, [.ref aM, .ref aO, .ref aI, .ref aT, .ref aE, .int ff])), (aM, .inl (kM, 384, .inl (nM Mm))), (aQ, .inr (0, [.int (nI rs), .int (nI fp), .int (nI tq), .int (nI nq)]))] sz) [(aR, .inr (1, [.ref aM, .ref aO, .ref aI, .ref aT, .ref aE, .int ff])), (aM, .inl (kM, 384, .inl (nM Mm))), (aQ, .inr (0, [.int (nI rs), .int (nI fp), .int (nI tq), .int (nI nq)]))]) (va_A [(aR, .inr (1, [.ref aM, .ref aO, .ref aI, .ref aT, .ref aE, .int ff])), (aM, .inl (kM, 384, .inl (nM Mm))), (aQ, .inr (0, [.int (nI rs), .int (nI fp), .int (nI tq), .int (nI nq)]))] sz)) 0 0 (va_A [(aR, .inr (1, [.ref aM, .ref aO, .ref aI, .ref aT, .ref aE, .int ff])), (aM, .inl (kM, 384, .inl (nM Mm))), (aQ, .inr (0, [.int (nI rs), .int (nI fp), .int (nI tq), .int (nI nq)]))] sz) := by
  refine Met.ofW (cc := cX1_isGivenBack) (maxL := 3) (ret := (some .boolean)) (by decide) rfl ?_
  intro p e s m args below meth c s₁ B hml hv
  obtain ⟨rfl, hsz, hP, hK, hD0⟩ := hv
  have hx := B.exec
  have hb := B.bytes
  have hr := B.returns
  have hts := atoms_spec (ws := wsX1_isGivenBack) B.pre
  have hown : s.vm.findClass RX1 = some m.cls := findClass_of_methodNamed B.named
  have hlocks := B.notSynchronized
  have hI1 : ∀ w ∈ u_ws RX1 TX1 6, w ∈ wsX1_isGivenBack := by decide +kernel
  subst hsz
  have hD := hD0.self (sz := s.heap.size)
  generalize hAe : va_A [(aR, .inr (1, [.ref aM, .ref aO, .ref aI, .ref aT, .ref aE, .int ff])), (aM, .inl (kM, 384, .inl (nM Mm))), (aQ, .inr (0, [.int (nI rs), .int (nI fp), .int (nI tq), .int (nI nq)]))] s.heap.size = A at hD ⊢
  have hA : ∀ q : Nat, s.heap.size ≤ q → A q := fun q h => by rw [← hAe]; exact Or.inr h
  have hS : va_S A s.heap s.heap [] := va_S.rf
  have hP : va_P (dC, dI) vwCl [(aR, .inr (1, [.ref aM, .ref aO, .ref aI, .ref aT, .ref aE, .int ff])), (aM, .inl (kM, 384, .inl (nM Mm))), (aQ, .inr (0, [.int (nI rs), .int (nI fp), .int (nI tq), .int (nI nq)]))] s.heap := hP
  have hl := lv_entry ([.ref aR, .ref aQ, .int (nI pl)]) (n := 3) (Nat.le_of_ble_eq_true rfl)
  rw [lg_entry_eq]
  generalize (lg_sl ([.ref aR, .ref aQ, .int (nI pl)]) ++ List.replicate (3 - (lg_sl ([.ref aR, .ref aQ, .int (nI pl)])).length) Slot.unset).toArray = ls at hl ⊢
  have hl : lv_has ls 3 [(0, .ref aR), (1, .ref aQ), (2, .int (nI pl))] := hl
  refine lv_iload_n hx hb dX1_isGivenBack_0 rfl (lv_at hl 2 rfl) ?_
  refine lv_aload_n hx hb dX1_isGivenBack_1 rfl (lv_at hl 1 rfl) ?_
  have hPc := hP.sub (ws' := [(aQ, .inr (0, [.int (nI rs), .int (nI fp), .int (nI tq), .int (nI nq)]))]) [2] rfl
  have hDc := hD.sub (ws' := [(aQ, .inr (0, [.int (nI rs), .int (nI fp), .int (nI tq), .int (nI nq)]))]) [2] (by decide) rfl
  have hKc := hK.sub (tys' := []) [] rfl
  have hFc := va_free (wc := [(aQ, .inr (0, [.int (nI rs), .int (nI fp), .int (nI tq), .int (nI nq)]))]) hD hS hA [2] rfl
  refine va_calli (va_runV (As := []) (rest := [.int (nI pl)]) ⟨hx, hb, hml, hown, hts⟩ (c_X0_size l dC dI aQ rs fp tq nq s.heap.size ) (cwV 0 hts gX1_isGivenBack_X0_size rfl rfl rfl (by decide +kernel) ⟨Nat.le_of_ble_eq_true rfl, Nat.le_of_ble_eq_true rfl⟩) ⟨fun a U g mk q => by obtain ⟨q0, q1, qP, qK, qD⟩ := q; exact ⟨q0, q1, qP, va_K.moved (u := U) (U := U.calling g mk a) (Vm.Alike.refl U.vm) qK, qD⟩, va_recv hKc hPc (ci := 0) (q0 := 0) rfl rfl, fun U hU hW => ⟨rfl, by rw [hU], by rw [hU]; exact hPc, va_K.moved hW.alike hKc, hDc.weaken (fun _ _ _ _ => trivial)⟩⟩ rfl rfl hl.1 rfl (lv_room (Nat.le_of_ble_eq_true rfl)) dX1_isGivenBack_2 ⟨Nat.le_of_ble_eq_true rfl, Nat.le_of_ble_eq_true rfl⟩) hS (fun q _ h => hFc q h) hFc (fun r_1 u t H1 locs ht hvm hw hB hz1 hk1 hS => ?_)
  obtain ⟨hP1, hK1, hD1⟩ := hB
  rw [ht] at hP1
  have hK1 := va_K.moved hvm.symm hK1
  obtain ⟨hP, hD⟩ := va_join (wr := [(aR, .inr (1, [.ref aM, .ref aO, .ref aI, .ref aT, .ref aE, .int ff])), (aM, .inl (kM, 384, .inl (nM Mm)))]) (w1 := [(aQ, .inr (0, [.int (nI rs), .int (nI fp), .int (nI tq), .int (nI nq)]))]) hP hD [2] [0, 1] rfl rfl (by decide) (by decide) hk1 hFc hP1 hD1
  have hK := (hK.sub (tys' := [(kM, .int)]) [0] rfl).app hK1
  generalize H1 = H at hP hS ⊢
  have hP : va_P (dC, dI) vwCl [(aR, .inr (1, [.ref aM, .ref aO, .ref aI, .ref aT, .ref aE, .int ff])), (aM, .inl (kM, 384, .inl (nM Mm))), (aQ, .inr (0, [.int (nI rs), .int (nI fp), .int (nI tq), .int (nI nq)]))] H := hP
  have hD : va_D A [(aR, .inr (1, [.ref aM, .ref aO, .ref aI, .ref aT, .ref aE, .int ff])), (aM, .inl (kM, 384, .inl (nM Mm))), (aQ, .inr (0, [.int (nI rs), .int (nI fp), .int (nI tq), .int (nI nq)]))] := hD
  have hK : va_K (dC, dI) vwCl [(kM, .int)] s := hK
  obtain rfl : r_1 = nI nq := hw
  refine lv_icmp_ge (tgt := 27) hx hb dX1_isGivenBack_5 (by decide) (fun c_2 => ?_) (fun c_2 => ?_)
  · have c_2 : nq ≤ pl := (nI_leI (a := nq) (b := pl) (by omega) (by omega)).mp c_2
    refine lv_iconst (v := nI 0) hx hb dX1_isGivenBack_27 (by decide +kernel) ?_
    have hP9 := hP.sub (ws' := [(aR, .inr (1, [.ref aM, .ref aO, .ref aI, .ref aT, .ref aE, .int ff])), (aM, .inl (kM, 384, .inl (nM Mm))), (aQ, .inr (0, [.int (nI rs), .int (nI fp), .int (nI tq), .int (nI nq)]))]) [0, 1, 2] rfl
    have hD9 := hD.sub (ws' := [(aR, .inr (1, [.ref aM, .ref aO, .ref aI, .ref aT, .ref aE, .int ff])), (aM, .inl (kM, 384, .inl (nM Mm))), (aQ, .inr (0, [.int (nI rs), .int (nI fp), .int (nI tq), .int (nI nq)]))]) [0, 1, 2] (by decide) rfl
    have hK9 := hK.sub (tys' := [(kM, .int)]) [0] rfl
    have e_3 : (nI 0 : Int32) = b01 (gvB Mm rs tq nq pl) := b01_f (by first | exact gvB_f1 (by omega) | exact gvB_f2 (by assumption))
    exact W.zret (v := nI 0) (ty := .boolean) hx hb hr (by decide +kernel) (fun t ht hW => ⟨⟨_, (), rfl, e_3, by rw [ht]; exact hP9, va_K.moved hW.alike hK9, hD9⟩, hS.F ht⟩) hS.2.2 dX1_isGivenBack_28
  · have c_2 : ¬ (nq ≤ pl) := fun h9 => c_2 ((nI_leI (a := nq) (b := pl) (by omega) (by omega)).mpr h9)
    refine lv_aload_n hx hb dX1_isGivenBack_8 rfl (lv_at hl 0 rfl) ?_
    refine va_get (D := (dC, dI)) (ci := 1) (v := .ref aM) (C := RX1) (T := TX1) (N := 6) hx hb hts hI1 hown hK hP 0 rfl rfl 0 (by decide) (hts (.fieldLink RX1 9 "RingDriver" "memory" "[I") (by decide +kernel)) (fun _ h9 => h9) rfl dX1_isGivenBack_9 ?_
    refine lv_aload_n hx hb dX1_isGivenBack_12 rfl (lv_at hl 1 rfl) ?_
    refine lv_iload_n hx hb dX1_isGivenBack_13 rfl (lv_at hl 2 rfl) ?_
    have hPc := hP.sub (ws' := [(aQ, .inr (0, [.int (nI rs), .int (nI fp), .int (nI tq), .int (nI nq)]))]) [2] rfl
    have hDc := hD.sub (ws' := [(aQ, .inr (0, [.int (nI rs), .int (nI fp), .int (nI tq), .int (nI nq)]))]) [2] (by decide) rfl
    have hKc := hK.sub (tys' := []) [] rfl
    have hFc := va_free (wc := [(aQ, .inr (0, [.int (nI rs), .int (nI fp), .int (nI tq), .int (nI nq)]))]) hD hS hA [2] rfl
    refine va_calli (va_runV (As := [.int (nI pl)]) (rest := [.ref aM]) ⟨hx, hb, hml, hown, hts⟩ (c_X0_descriptorAt l dC dI aQ rs fp tq nq pl H.size (by omega) (by omega) (by omega)) (cwV 1 hts gX1_isGivenBack_X0_descriptorAt rfl rfl rfl (by decide +kernel) ⟨Nat.le_of_ble_eq_true rfl, Nat.le_of_ble_eq_true rfl⟩) ⟨fun a U g mk q => by obtain ⟨q0, q1, qP, qK, qD⟩ := q; exact ⟨q0, q1, qP, va_K.moved (u := U) (U := U.calling g mk a) (Vm.Alike.refl U.vm) qK, qD⟩, va_recv hKc hPc (ci := 0) (q0 := 0) rfl rfl, fun U hU hW => ⟨rfl, by rw [hU], by rw [hU]; exact hPc, va_K.moved hW.alike hKc, hDc.weaken (fun _ _ _ _ => trivial)⟩⟩ rfl rfl hl.1 rfl (lv_room (Nat.le_of_ble_eq_true rfl)) dX1_isGivenBack_14 ⟨Nat.le_of_ble_eq_true rfl, Nat.le_of_ble_eq_true rfl⟩) hS (fun q _ h => hFc q h) hFc (fun r_4 u t H1 locs ht hvm hw hB hz1 hk1 hS => ?_)
    obtain ⟨hP1, hK1, hD1⟩ := hB
    rw [ht] at hP1
    have hK1 := va_K.moved hvm.symm hK1
    obtain ⟨hP, hD⟩ := va_join (wr := [(aR, .inr (1, [.ref aM, .ref aO, .ref aI, .ref aT, .ref aE, .int ff])), (aM, .inl (kM, 384, .inl (nM Mm)))]) (w1 := [(aQ, .inr (0, [.int (nI rs), .int (nI fp), .int (nI tq), .int (nI nq)]))]) hP hD [2] [0, 1] rfl rfl (by decide) (by decide) hk1 hFc hP1 hD1
    have hK := (hK.sub (tys' := [(kM, .int)]) [0] rfl).app hK1
    generalize H1 = H at hP hS ⊢
    have hP : va_P (dC, dI) vwCl [(aR, .inr (1, [.ref aM, .ref aO, .ref aI, .ref aT, .ref aE, .int ff])), (aM, .inl (kM, 384, .inl (nM Mm))), (aQ, .inr (0, [.int (nI rs), .int (nI fp), .int (nI tq), .int (nI nq)]))] H := hP
    have hD : va_D A [(aR, .inr (1, [.ref aM, .ref aO, .ref aI, .ref aT, .ref aE, .int ff])), (aM, .inl (kM, 384, .inl (nM Mm))), (aQ, .inr (0, [.int (nI rs), .int (nI fp), .int (nI tq), .int (nI nq)]))] := hD
    have hK : va_K (dC, dI) vwCl [(kM, .int)] s := hK
    obtain rfl : r_4 = nI (rs + 8 * ((tq + pl) % 8)) := hw
    refine lv_iconst (v := nI 2) hx hb dX1_isGivenBack_17 (by decide +kernel) ?_
    refine lv_iadd hx hb dX1_isGivenBack_18 ?_
    refine lv_topi (fun y_5 ey_5 => ?_)
    obtain rfl := ey_5.trans (nI_add (rs + 8 * ((tq + pl) % 8)) 2)
    refine va_iald hx hb hK hP 1 0 rfl rfl (vp_in_nI (n := rs + 8 * ((tq + pl) % 8) + 2) (N := 384) (by omega) (by decide)) dX1_isGivenBack_19 ?_
    have h9 : rs + 8 * ((tq + pl) % 8) + 2 < 2 ^ 31 := Nat.lt_trans (m := 384) (by omega) (by decide)
    refine lv_topi (fun y_6 ey_6 => ?_)
    obtain rfl : y_6 = nI (Mm (rs + 8 * ((tq + pl) % 8) + 2)) := ey_6.trans (rdA (nM Mm) h9)
    refine lv_if_ne (tgt := 27) hx hb dX1_isGivenBack_20 (by decide) (fun c_7 => ?_) (fun c_7 => ?_)
    · have c_7 : ¬ (Mm (rs + 8 * ((tq + pl) % 8) + 2)) = 0 := fun h9 => c_7 ((n_00 (Mm (rs + 8 * ((tq + pl) % 8) + 2)) (Nat.lt_trans (hM _) (by decide))).mpr h9)
      refine lv_iconst (v := nI 0) hx hb dX1_isGivenBack_27 (by decide +kernel) ?_
      have hP9 := hP.sub (ws' := [(aR, .inr (1, [.ref aM, .ref aO, .ref aI, .ref aT, .ref aE, .int ff])), (aM, .inl (kM, 384, .inl (nM Mm))), (aQ, .inr (0, [.int (nI rs), .int (nI fp), .int (nI tq), .int (nI nq)]))]) [0, 1, 2] rfl
      have hD9 := hD.sub (ws' := [(aR, .inr (1, [.ref aM, .ref aO, .ref aI, .ref aT, .ref aE, .int ff])), (aM, .inl (kM, 384, .inl (nM Mm))), (aQ, .inr (0, [.int (nI rs), .int (nI fp), .int (nI tq), .int (nI nq)]))]) [0, 1, 2] (by decide) rfl
      have hK9 := hK.sub (tys' := [(kM, .int)]) [0] rfl
      have e_8 : (nI 0 : Int32) = b01 (gvB Mm rs tq nq pl) := b01_f (by first | exact gvB_f1 (by omega) | exact gvB_f2 (by assumption))
      exact W.zret (v := nI 0) (ty := .boolean) hx hb hr (by decide +kernel) (fun t ht hW => ⟨⟨_, (), rfl, e_8, by rw [ht]; exact hP9, va_K.moved hW.alike hK9, hD9⟩, hS.F ht⟩) hS.2.2 dX1_isGivenBack_28
    · have c_7 : (Mm (rs + 8 * ((tq + pl) % 8) + 2)) = 0 := (n_00 (Mm (rs + 8 * ((tq + pl) % 8) + 2)) (Nat.lt_trans (hM _) (by decide))).mp c_7
      refine lv_iconst (v := nI 1) hx hb dX1_isGivenBack_23 (by decide +kernel) ?_
      refine lv_goto (tgt := 28) hx hb dX1_isGivenBack_24 (by decide) ?_
      have hP9 := hP.sub (ws' := [(aR, .inr (1, [.ref aM, .ref aO, .ref aI, .ref aT, .ref aE, .int ff])), (aM, .inl (kM, 384, .inl (nM Mm))), (aQ, .inr (0, [.int (nI rs), .int (nI fp), .int (nI tq), .int (nI nq)]))]) [0, 1, 2] rfl
      have hD9 := hD.sub (ws' := [(aR, .inr (1, [.ref aM, .ref aO, .ref aI, .ref aT, .ref aE, .int ff])), (aM, .inl (kM, 384, .inl (nM Mm))), (aQ, .inr (0, [.int (nI rs), .int (nI fp), .int (nI tq), .int (nI nq)]))]) [0, 1, 2] (by decide) rfl
      have hK9 := hK.sub (tys' := [(kM, .int)]) [0] rfl
      have e_9 : (nI 1 : Int32) = b01 (gvB Mm rs tq nq pl) := b01_t (gvB_t (by omega) (by assumption))
      exact W.zret (v := nI 1) (ty := .boolean) hx hb hr (by decide +kernel) (fun t ht hW => ⟨⟨_, (), rfl, e_9, by rw [ht]; exact hP9, va_K.moved hW.alike hK9, hD9⟩, hS.F ht⟩) hS.2.2 dX1_isGivenBack_28
set_option maxHeartbeats 4000000 in
set_option maxRecDepth 100000 in
theorem c_X1_fillBuffer (l : Launch) (dC : Nat → ClassId) (dI : Nat → Nat → Nat) (aR : Nat) (aM : Nat) (aO : Nat) (aI : Nat) (aT : Nat) (aE : Nat) (ff : Int32) (kM : ClassId) (Mm : Nat → Nat) (kO : ClassId) (Ob : Nat → Nat) (bu : Nat) (len : Nat) (sz : Nat) (hbu : bu + 16 ≤ 384) (hle : len ≤ 16) : Met l yX1_fillBuffer wsX1_fillBuffer ({ frames := 0, cells := 0, slots := 0, locals := 0 }) (va_Pc [.ref aR, .int (nI bu), .int (nI len)] (fun U => U.heap.size = sz ∧ va_P (dC, dI) vwCl [(aR, .inr (1, [.ref aM, .ref aO, .ref aI, .ref aT, .ref aE, .int ff])), (aM, .inl (kM, 384, .inl (nM Mm))), (aO, .inl (kO, 16, .inl (nM Ob)))] U.heap ∧ va_K (dC, dI) vwCl [(kM, .int), (kO, .int)] U ∧ va_D (fun _ => True) [(aR, .inr (1, [.ref aM, .ref aO, .ref aI, .ref aT, .ref aE, .int ff])), (aM, .inl (kM, 384, .inl (nM Mm))), (aO, .inl (kO, 16, .inl (nM Ob)))])) (va_Qv (fun (_ : Unit) => True) (fun _ t => va_P (dC, dI) vwCl [(aR, .inr (1, [.ref aM, .ref aO, .ref aI, .ref aT, .ref aE, .int ff])), (aM, .inl (kM, 384, .inl (nM (fbI Mm Ob bu len 16)))), (aO, .inl (kO, 16, .inl (nM Ob)))] t.heap ∧ va_K (dC, dI) vwCl [(kM, .int), (kO, .int)] t ∧ va_D (va_A [(aR, .inr (1, [.ref aM, .ref aO, .ref aI, .ref aT, .ref aE, .int ff])), (aM, .inl (kM, 384, .inl (nM Mm))), (aO, .inl (kO, 16, .inl (nM Ob)))] sz) [(aR, .inr (1, [.ref aM, .ref aO, .ref aI, .ref aT, .ref aE, .int ff])), (aM, .inl (kM, 384, .inl (nM (fbI Mm Ob bu len 16)))), (aO, .inl (kO, 16, .inl (nM Ob)))]) (va_A [(aR, .inr (1, [.ref aM, .ref aO, .ref aI, .ref aT, .ref aE, .int ff])), (aM, .inl (kM, 384, .inl (nM Mm))), (aO, .inl (kO, 16, .inl (nM Ob)))] sz)) 0 0 (va_A [(aR, .inr (1, [.ref aM, .ref aO, .ref aI, .ref aT, .ref aE, .int ff])), (aM, .inl (kM, 384, .inl (nM Mm))), (aO, .inl (kO, 16, .inl (nM Ob)))] sz) := by
  refine Met.ofW (cc := cX1_fillBuffer) (maxL := 4) (ret := none) (by decide) rfl ?_
  intro p e s m args below meth c s₁ B hml hv
  obtain ⟨rfl, hsz, hP, hK, hD0⟩ := hv
  have hx := B.exec
  have hb := B.bytes
  have hr := B.returns
  have hts := atoms_spec (ws := wsX1_fillBuffer) B.pre
  have hown : s.vm.findClass RX1 = some m.cls := findClass_of_methodNamed B.named
  have hlocks := B.notSynchronized
  have hI1 : ∀ w ∈ u_ws RX1 TX1 6, w ∈ wsX1_fillBuffer := by decide +kernel
  subst hsz
  have hD := hD0.self (sz := s.heap.size)
  generalize hAe : va_A [(aR, .inr (1, [.ref aM, .ref aO, .ref aI, .ref aT, .ref aE, .int ff])), (aM, .inl (kM, 384, .inl (nM Mm))), (aO, .inl (kO, 16, .inl (nM Ob)))] s.heap.size = A at hD ⊢
  have hA : ∀ q : Nat, s.heap.size ≤ q → A q := fun q h => by rw [← hAe]; exact Or.inr h
  have hS : va_S A s.heap s.heap [] := va_S.rf
  have hP : va_P (dC, dI) vwCl [(aR, .inr (1, [.ref aM, .ref aO, .ref aI, .ref aT, .ref aE, .int ff])), (aM, .inl (kM, 384, .inl (nM Mm))), (aO, .inl (kO, 16, .inl (nM Ob)))] s.heap := hP
  have hl := lv_entry ([.ref aR, .int (nI bu), .int (nI len)]) (n := 4) (Nat.le_of_ble_eq_true rfl)
  rw [lg_entry_eq]
  generalize (lg_sl ([.ref aR, .int (nI bu), .int (nI len)]) ++ List.replicate (4 - (lg_sl ([.ref aR, .int (nI bu), .int (nI len)])).length) Slot.unset).toArray = ls at hl ⊢
  have hl : lv_has ls 4 [(0, .ref aR), (1, .int (nI bu)), (2, .int (nI len))] := hl
  refine W_gen (fun Q eQ => ?_)
  refine lv_iconst (v := nI 0) hx hb dX1_fillBuffer_0 (by decide +kernel) ?_
  refine lv_istore_n (lv' := [(3, .int (nI 0)), (0, .ref aR), (1, .int (nI bu)), (2, .int (nI len))]) hx hb dX1_fillBuffer_1 rfl hl (by decide) rfl (fun ls hl => ?_)
  have loop_1 : ∀ (fuel : Nat) (i : Nat), (i ≤ 16) → 16 - i < fuel → ∀ (H : Heap) (locs : List Loc) (ls : Array Slot), va_P (dC, dI) vwCl [(aR, .inr (1, [.ref aM, .ref aO, .ref aI, .ref aT, .ref aE, .int ff])), (aM, .inl (kM, 384, .inl (nM (fbI Mm Ob bu len i)))), (aO, .inl (kO, 16, .inl (nM Ob)))] H → va_D A [(aR, .inr (1, [.ref aM, .ref aO, .ref aI, .ref aT, .ref aE, .int ff])), (aM, .inl (kM, 384, .inl (nM (fbI Mm Ob bu len i)))), (aO, .inl (kO, 16, .inl (nM Ob)))] → va_S A s.heap H locs → lv_has ls 4 [(0, .ref aR), (1, .int (nI bu)), (2, .int (nI len)), (3, .int (nI i))] → W p l e (headSpec wsX1_fillBuffer ({ frames := 0, cells := 0, slots := 0, locals := 0 })).room s m ([.ref aR, .int (nI bu), .int (nI len)] : List Value).toArray below meth c H locs 0 0 Q (F0 m 2 ls []) := by
    intro fuel
    induction fuel with
    | zero =>
      intro i hi hfu
      exact absurd hfu (Nat.not_lt_zero _)
    | succ fuel ih =>
      intro i hi hfu H locs ls hP hD hS hl
      refine lv_iload_n hx hb dX1_fillBuffer_2 rfl (lv_at hl 3 rfl) ?_
      refine lv_bipush (v := nI 16) hx hb dX1_fillBuffer_3 (by decide +kernel) ?_
      refine lv_icmp_ge (tgt := 37) hx hb dX1_fillBuffer_5 (by decide) (fun c_2 => ?_) (fun c_2 => ?_)
      · have c_2 : 16 ≤ i := (nI_leI (a := 16) (b := i) (by omega) (by omega)).mp c_2
        have hP9 := hP.sub (ws' := [(aR, .inr (1, [.ref aM, .ref aO, .ref aI, .ref aT, .ref aE, .int ff])), (aM, .inl (kM, 384, .inl (nM (fbI Mm Ob bu len i)))), (aO, .inl (kO, 16, .inl (nM Ob)))]) [0, 1, 2] rfl
        have hD9 := hD.sub (ws' := [(aR, .inr (1, [.ref aM, .ref aO, .ref aI, .ref aT, .ref aE, .int ff])), (aM, .inl (kM, 384, .inl (nM (fbI Mm Ob bu len i)))), (aO, .inl (kO, 16, .inl (nM Ob)))]) [0, 1, 2] (by decide) rfl
        have hK9 := hK.sub (tys' := [(kM, .int), (kO, .int)]) [0, 1] rfl
        have e_3 : (nM (fbI Mm Ob bu len i)) = nM (fbI Mm Ob bu len 16) := by rw [show i = 16 from by omega]
        have hP9 : va_P (dC, dI) vwCl [(aR, .inr (1, [.ref aM, .ref aO, .ref aI, .ref aT, .ref aE, .int ff])), (aM, .inl (kM, 384, .inl (nM (fbI Mm Ob bu len 16)))), (aO, .inl (kO, 16, .inl (nM Ob)))] H := Eq.mp (congrArg (fun (z1 : Nat → Int32) => va_P (dC, dI) vwCl [(aR, .inr (1, [.ref aM, .ref aO, .ref aI, .ref aT, .ref aE, .int ff])), (aM, .inl (kM, 384, .inl z1)), (aO, .inl (kO, 16, .inl (nM Ob)))] H) e_3) hP9
        have hD9 : va_D A [(aR, .inr (1, [.ref aM, .ref aO, .ref aI, .ref aT, .ref aE, .int ff])), (aM, .inl (kM, 384, .inl (nM (fbI Mm Ob bu len 16)))), (aO, .inl (kO, 16, .inl (nM Ob)))] := Eq.mp (congrArg (fun (z1 : Nat → Int32) => va_D A [(aR, .inr (1, [.ref aM, .ref aO, .ref aI, .ref aT, .ref aE, .int ff])), (aM, .inl (kM, 384, .inl z1)), (aO, .inl (kO, 16, .inl (nM Ob)))]) e_3) hD9
        subst eQ
        exact W.vret hx hb hr (fun t ht hW => ⟨⟨(), rfl, trivial, by rw [ht]; exact hP9, va_K.moved hW.alike hK9, hD9⟩, hS.F ht⟩) hS.2.2 dX1_fillBuffer_37
      · have c_2 : ¬ (16 ≤ i) := fun h9 => c_2 ((nI_leI (a := 16) (b := i) (by omega) (by omega)).mpr h9)
        refine lv_aload_n hx hb dX1_fillBuffer_8 rfl (lv_at hl 0 rfl) ?_
        refine va_get (D := (dC, dI)) (ci := 1) (v := .ref aM) (C := RX1) (T := TX1) (N := 6) hx hb hts hI1 hown hK hP 0 rfl rfl 0 (by decide) (hts (.fieldLink RX1 9 "RingDriver" "memory" "[I") (by decide +kernel)) (fun _ h9 => h9) rfl dX1_fillBuffer_9 ?_
        refine lv_iload_n hx hb dX1_fillBuffer_12 rfl (lv_at hl 1 rfl) ?_
        refine lv_iload_n hx hb dX1_fillBuffer_13 rfl (lv_at hl 3 rfl) ?_
        refine lv_iadd hx hb dX1_fillBuffer_14 ?_
        refine lv_topi (fun y_4 ey_4 => ?_)
        obtain rfl := ey_4.trans (nI_add bu i)
        refine lv_iload_n hx hb dX1_fillBuffer_15 rfl (lv_at hl 3 rfl) ?_
        refine lv_iload_n hx hb dX1_fillBuffer_16 rfl (lv_at hl 2 rfl) ?_
        refine lv_icmp_ge (tgt := 29) hx hb dX1_fillBuffer_17 (by decide) (fun c_5 => ?_) (fun c_5 => ?_)
        · have c_5 : len ≤ i := (nI_leI (a := len) (b := i) (by omega) (by omega)).mp c_5
          refine lv_iconst (v := nI 0) hx hb dX1_fillBuffer_29 (by decide +kernel) ?_
          refine va_iast (x := nI 0) hx hb hK hP hD hS 1 0 rfl rfl (vp_in_nI (n := bu + i) (N := 384) (by omega) (by decide)) dX1_fillBuffer_30 (fun H locs hP hD hS => ?_)
          have h9 : bu + i < 2 ^ 31 := Nat.lt_trans (m := 384) (by omega) (by decide)
          have hP : va_P (dC, dI) vwCl [(aR, .inr (1, [.ref aM, .ref aO, .ref aI, .ref aT, .ref aE, .int ff])), (aM, .inl (kM, 384, .inl (upd (nM (fbI Mm Ob bu len i)) (nI (bu + i)).toNatClampNeg (nI 0)))), (aO, .inl (kO, 16, .inl (nM Ob)))] H := hP
          have hD : va_D A [(aR, .inr (1, [.ref aM, .ref aO, .ref aI, .ref aT, .ref aE, .int ff])), (aM, .inl (kM, 384, .inl (upd (nM (fbI Mm Ob bu len i)) (nI (bu + i)).toNatClampNeg (nI 0)))), (aO, .inl (kO, 16, .inl (nM Ob)))] := hD
          have e_6 : upd (nM (fbI Mm Ob bu len i)) (nI (bu + i)).toNatClampNeg (nI 0) = nM (updN (fbI Mm Ob bu len i) (bu + i) 0) := updI h9
          have hP : va_P (dC, dI) vwCl [(aR, .inr (1, [.ref aM, .ref aO, .ref aI, .ref aT, .ref aE, .int ff])), (aM, .inl (kM, 384, .inl (nM (updN (fbI Mm Ob bu len i) (bu + i) 0)))), (aO, .inl (kO, 16, .inl (nM Ob)))] H := Eq.mp (congrArg (fun (z1 : Nat → Int32) => va_P (dC, dI) vwCl [(aR, .inr (1, [.ref aM, .ref aO, .ref aI, .ref aT, .ref aE, .int ff])), (aM, .inl (kM, 384, .inl z1)), (aO, .inl (kO, 16, .inl (nM Ob)))] H) e_6) hP
          have hD : va_D A [(aR, .inr (1, [.ref aM, .ref aO, .ref aI, .ref aT, .ref aE, .int ff])), (aM, .inl (kM, 384, .inl (nM (updN (fbI Mm Ob bu len i) (bu + i) 0)))), (aO, .inl (kO, 16, .inl (nM Ob)))] := Eq.mp (congrArg (fun (z1 : Nat → Int32) => va_D A [(aR, .inr (1, [.ref aM, .ref aO, .ref aI, .ref aT, .ref aE, .int ff])), (aM, .inl (kM, 384, .inl z1)), (aO, .inl (kO, 16, .inl (nM Ob)))]) e_6) hD
          refine lv_iinc (v := nI (i + 1)) (lv' := [(3, .int (nI (i + 1))), (0, .ref aR), (1, .int (nI bu)), (2, .int (nI len))]) hx hb dX1_fillBuffer_31 hl (k := 3) rfl (show nI i + Int32.ofInt 1 = nI (i + 1) from nI_1 i) (by decide) rfl (fun ls hl => ?_)
          refine lv_goto (tgt := 2) hx hb dX1_fillBuffer_34 (by decide) ?_
          have hP9 := hP.sub (ws' := [(aR, .inr (1, [.ref aM, .ref aO, .ref aI, .ref aT, .ref aE, .int ff])), (aM, .inl (kM, 384, .inl (nM (updN (fbI Mm Ob bu len i) (bu + i) 0)))), (aO, .inl (kO, 16, .inl (nM Ob)))]) [0, 1, 2] rfl
          have hD9 := hD.sub (ws' := [(aR, .inr (1, [.ref aM, .ref aO, .ref aI, .ref aT, .ref aE, .int ff])), (aM, .inl (kM, 384, .inl (nM (updN (fbI Mm Ob bu len i) (bu + i) 0)))), (aO, .inl (kO, 16, .inl (nM Ob)))]) [0, 1, 2] (by decide) rfl
          have e_7 : (nM (updN (fbI Mm Ob bu len i) (bu + i) 0)) = nM (fbI Mm Ob bu len (i + 1)) := (by first | exact congrArg nM (fbI_s0 (by omega)) | exact congrArg nM (fbI_s1 (by omega)))
          have hP9 : va_P (dC, dI) vwCl [(aR, .inr (1, [.ref aM, .ref aO, .ref aI, .ref aT, .ref aE, .int ff])), (aM, .inl (kM, 384, .inl (nM (fbI Mm Ob bu len (i + 1))))), (aO, .inl (kO, 16, .inl (nM Ob)))] H := Eq.mp (congrArg (fun (z1 : Nat → Int32) => va_P (dC, dI) vwCl [(aR, .inr (1, [.ref aM, .ref aO, .ref aI, .ref aT, .ref aE, .int ff])), (aM, .inl (kM, 384, .inl z1)), (aO, .inl (kO, 16, .inl (nM Ob)))] H) e_7) hP9
          have hD9 : va_D A [(aR, .inr (1, [.ref aM, .ref aO, .ref aI, .ref aT, .ref aE, .int ff])), (aM, .inl (kM, 384, .inl (nM (fbI Mm Ob bu len (i + 1))))), (aO, .inl (kO, 16, .inl (nM Ob)))] := Eq.mp (congrArg (fun (z1 : Nat → Int32) => va_D A [(aR, .inr (1, [.ref aM, .ref aO, .ref aI, .ref aT, .ref aE, .int ff])), (aM, .inl (kM, 384, .inl z1)), (aO, .inl (kO, 16, .inl (nM Ob)))]) e_7) hD9
          have hl9 : lv_has ls 4 [(0, .ref aR), (1, .int (nI bu)), (2, .int (nI len)), (3, .int (nI (i + 1)))] := lv_sub hl [1, 2, 3, 0] rfl
          exact ih (i + 1) (by omega) (by omega) _ _ _ hP9 hD9 hS hl9
        · have c_5 : ¬ (len ≤ i) := fun h9 => c_5 ((nI_leI (a := len) (b := i) (by omega) (by omega)).mpr h9)
          refine lv_aload_n hx hb dX1_fillBuffer_20 rfl (lv_at hl 0 rfl) ?_
          refine va_get (D := (dC, dI)) (ci := 1) (v := .ref aO) (C := RX1) (T := TX1) (N := 6) hx hb hts hI1 hown hK hP 0 rfl rfl 1 (by decide) (hts (.fieldLink RX1 13 "RingDriver" "outBox" "[I") (by decide +kernel)) (fun _ h9 => h9) rfl dX1_fillBuffer_21 ?_
          refine lv_iload_n hx hb dX1_fillBuffer_24 rfl (lv_at hl 3 rfl) ?_
          refine va_iald hx hb hK hP 2 1 rfl rfl (vp_in_nI (n := i) (N := 16) (by omega) (by decide)) dX1_fillBuffer_25 ?_
          have h9 : i < 2 ^ 31 := Nat.lt_trans (m := 16) (by omega) (by decide)
          refine lv_topi (fun y_8 ey_8 => ?_)
          obtain rfl : y_8 = nI (Ob i) := ey_8.trans (rdA (nM Ob) h9)
          refine lv_goto (tgt := 30) hx hb dX1_fillBuffer_26 (by decide) ?_
          refine va_iast (x := nI (Ob i)) hx hb hK hP hD hS 1 0 rfl rfl (vp_in_nI (n := bu + i) (N := 384) (by omega) (by decide)) dX1_fillBuffer_30 (fun H locs hP hD hS => ?_)
          have h9 : bu + i < 2 ^ 31 := Nat.lt_trans (m := 384) (by omega) (by decide)
          have hP : va_P (dC, dI) vwCl [(aR, .inr (1, [.ref aM, .ref aO, .ref aI, .ref aT, .ref aE, .int ff])), (aM, .inl (kM, 384, .inl (upd (nM (fbI Mm Ob bu len i)) (nI (bu + i)).toNatClampNeg (nI (Ob i))))), (aO, .inl (kO, 16, .inl (nM Ob)))] H := hP
          have hD : va_D A [(aR, .inr (1, [.ref aM, .ref aO, .ref aI, .ref aT, .ref aE, .int ff])), (aM, .inl (kM, 384, .inl (upd (nM (fbI Mm Ob bu len i)) (nI (bu + i)).toNatClampNeg (nI (Ob i))))), (aO, .inl (kO, 16, .inl (nM Ob)))] := hD
          have e_9 : upd (nM (fbI Mm Ob bu len i)) (nI (bu + i)).toNatClampNeg (nI (Ob i)) = nM (updN (fbI Mm Ob bu len i) (bu + i) (Ob i)) := updI h9
          have hP : va_P (dC, dI) vwCl [(aR, .inr (1, [.ref aM, .ref aO, .ref aI, .ref aT, .ref aE, .int ff])), (aM, .inl (kM, 384, .inl (nM (updN (fbI Mm Ob bu len i) (bu + i) (Ob i))))), (aO, .inl (kO, 16, .inl (nM Ob)))] H := Eq.mp (congrArg (fun (z1 : Nat → Int32) => va_P (dC, dI) vwCl [(aR, .inr (1, [.ref aM, .ref aO, .ref aI, .ref aT, .ref aE, .int ff])), (aM, .inl (kM, 384, .inl z1)), (aO, .inl (kO, 16, .inl (nM Ob)))] H) e_9) hP
          have hD : va_D A [(aR, .inr (1, [.ref aM, .ref aO, .ref aI, .ref aT, .ref aE, .int ff])), (aM, .inl (kM, 384, .inl (nM (updN (fbI Mm Ob bu len i) (bu + i) (Ob i))))), (aO, .inl (kO, 16, .inl (nM Ob)))] := Eq.mp (congrArg (fun (z1 : Nat → Int32) => va_D A [(aR, .inr (1, [.ref aM, .ref aO, .ref aI, .ref aT, .ref aE, .int ff])), (aM, .inl (kM, 384, .inl z1)), (aO, .inl (kO, 16, .inl (nM Ob)))]) e_9) hD
          refine lv_iinc (v := nI (i + 1)) (lv' := [(3, .int (nI (i + 1))), (0, .ref aR), (1, .int (nI bu)), (2, .int (nI len))]) hx hb dX1_fillBuffer_31 hl (k := 3) rfl (show nI i + Int32.ofInt 1 = nI (i + 1) from nI_1 i) (by decide) rfl (fun ls hl => ?_)
          refine lv_goto (tgt := 2) hx hb dX1_fillBuffer_34 (by decide) ?_
          have hP9 := hP.sub (ws' := [(aR, .inr (1, [.ref aM, .ref aO, .ref aI, .ref aT, .ref aE, .int ff])), (aM, .inl (kM, 384, .inl (nM (updN (fbI Mm Ob bu len i) (bu + i) (Ob i))))), (aO, .inl (kO, 16, .inl (nM Ob)))]) [0, 1, 2] rfl
          have hD9 := hD.sub (ws' := [(aR, .inr (1, [.ref aM, .ref aO, .ref aI, .ref aT, .ref aE, .int ff])), (aM, .inl (kM, 384, .inl (nM (updN (fbI Mm Ob bu len i) (bu + i) (Ob i))))), (aO, .inl (kO, 16, .inl (nM Ob)))]) [0, 1, 2] (by decide) rfl
          have e_10 : (nM (updN (fbI Mm Ob bu len i) (bu + i) (Ob i))) = nM (fbI Mm Ob bu len (i + 1)) := (by first | exact congrArg nM (fbI_s0 (by omega)) | exact congrArg nM (fbI_s1 (by omega)))
          have hP9 : va_P (dC, dI) vwCl [(aR, .inr (1, [.ref aM, .ref aO, .ref aI, .ref aT, .ref aE, .int ff])), (aM, .inl (kM, 384, .inl (nM (fbI Mm Ob bu len (i + 1))))), (aO, .inl (kO, 16, .inl (nM Ob)))] H := Eq.mp (congrArg (fun (z1 : Nat → Int32) => va_P (dC, dI) vwCl [(aR, .inr (1, [.ref aM, .ref aO, .ref aI, .ref aT, .ref aE, .int ff])), (aM, .inl (kM, 384, .inl z1)), (aO, .inl (kO, 16, .inl (nM Ob)))] H) e_10) hP9
          have hD9 : va_D A [(aR, .inr (1, [.ref aM, .ref aO, .ref aI, .ref aT, .ref aE, .int ff])), (aM, .inl (kM, 384, .inl (nM (fbI Mm Ob bu len (i + 1))))), (aO, .inl (kO, 16, .inl (nM Ob)))] := Eq.mp (congrArg (fun (z1 : Nat → Int32) => va_D A [(aR, .inr (1, [.ref aM, .ref aO, .ref aI, .ref aT, .ref aE, .int ff])), (aM, .inl (kM, 384, .inl z1)), (aO, .inl (kO, 16, .inl (nM Ob)))]) e_10) hD9
          have hl9 : lv_has ls 4 [(0, .ref aR), (1, .int (nI bu)), (2, .int (nI len)), (3, .int (nI (i + 1)))] := lv_sub hl [1, 2, 3, 0] rfl
          exact ih (i + 1) (by omega) (by omega) _ _ _ hP9 hD9 hS hl9
  have hP9 := hP.sub (ws' := [(aR, .inr (1, [.ref aM, .ref aO, .ref aI, .ref aT, .ref aE, .int ff])), (aM, .inl (kM, 384, .inl (nM Mm))), (aO, .inl (kO, 16, .inl (nM Ob)))]) [0, 1, 2] rfl
  have hD9 := hD.sub (ws' := [(aR, .inr (1, [.ref aM, .ref aO, .ref aI, .ref aT, .ref aE, .int ff])), (aM, .inl (kM, 384, .inl (nM Mm))), (aO, .inl (kO, 16, .inl (nM Ob)))]) [0, 1, 2] (by decide) rfl
  have e_11 : (nM Mm) = nM (fbI Mm Ob bu len 0) := congrArg nM fbI_0
  have hP9 : va_P (dC, dI) vwCl [(aR, .inr (1, [.ref aM, .ref aO, .ref aI, .ref aT, .ref aE, .int ff])), (aM, .inl (kM, 384, .inl (nM (fbI Mm Ob bu len 0)))), (aO, .inl (kO, 16, .inl (nM Ob)))] s.heap := Eq.mp (congrArg (fun (z1 : Nat → Int32) => va_P (dC, dI) vwCl [(aR, .inr (1, [.ref aM, .ref aO, .ref aI, .ref aT, .ref aE, .int ff])), (aM, .inl (kM, 384, .inl z1)), (aO, .inl (kO, 16, .inl (nM Ob)))] s.heap) e_11) hP9
  have hD9 : va_D A [(aR, .inr (1, [.ref aM, .ref aO, .ref aI, .ref aT, .ref aE, .int ff])), (aM, .inl (kM, 384, .inl (nM (fbI Mm Ob bu len 0)))), (aO, .inl (kO, 16, .inl (nM Ob)))] := Eq.mp (congrArg (fun (z1 : Nat → Int32) => va_D A [(aR, .inr (1, [.ref aM, .ref aO, .ref aI, .ref aT, .ref aE, .int ff])), (aM, .inl (kM, 384, .inl z1)), (aO, .inl (kO, 16, .inl (nM Ob)))]) e_11) hD9
  have hl9 : lv_has ls 4 [(0, .ref aR), (1, .int (nI bu)), (2, .int (nI len)), (3, .int (nI 0))] := lv_sub hl [1, 2, 3, 0] rfl
  exact loop_1 (16 + 1) 0 (by omega) (by omega) _ _ _ hP9 hD9 hS hl9
set_option maxHeartbeats 4000000 in
set_option maxRecDepth 100000 in
theorem c_X1_fillDescriptor (l : Launch) (dC : Nat → ClassId) (dI : Nat → Nat → Nat) (aR : Nat) (aM : Nat) (aO : Nat) (aI : Nat) (aT : Nat) (aE : Nat) (ff : Int32) (kM : ClassId) (Mm : Nat → Nat) (dd : Nat) (pg : Nat) (len : Nat) (sz : Nat) (hdd : dd + 8 ≤ 384) : Met l yX1_fillDescriptor wsX1_fillDescriptor ({ frames := 0, cells := 0, slots := 0, locals := 0 }) (va_Pc [.ref aR, .int (nI dd), .int (nI pg), .int (nI len)] (fun U => U.heap.size = sz ∧ va_P (dC, dI) vwCl [(aR, .inr (1, [.ref aM, .ref aO, .ref aI, .ref aT, .ref aE, .int ff])), (aM, .inl (kM, 384, .inl (nM Mm)))] U.heap ∧ va_K (dC, dI) vwCl [(kM, .int)] U ∧ va_D (fun _ => True) [(aR, .inr (1, [.ref aM, .ref aO, .ref aI, .ref aT, .ref aE, .int ff])), (aM, .inl (kM, 384, .inl (nM Mm)))])) (va_Qv (fun (_ : Unit) => True) (fun _ t => va_P (dC, dI) vwCl [(aR, .inr (1, [.ref aM, .ref aO, .ref aI, .ref aT, .ref aE, .int ff])), (aM, .inl (kM, 384, .inl (nM (fdI Mm dd pg len 8))))] t.heap ∧ va_K (dC, dI) vwCl [(kM, .int)] t ∧ va_D (va_A [(aR, .inr (1, [.ref aM, .ref aO, .ref aI, .ref aT, .ref aE, .int ff])), (aM, .inl (kM, 384, .inl (nM Mm)))] sz) [(aR, .inr (1, [.ref aM, .ref aO, .ref aI, .ref aT, .ref aE, .int ff])), (aM, .inl (kM, 384, .inl (nM (fdI Mm dd pg len 8))))]) (va_A [(aR, .inr (1, [.ref aM, .ref aO, .ref aI, .ref aT, .ref aE, .int ff])), (aM, .inl (kM, 384, .inl (nM Mm)))] sz)) 0 0 (va_A [(aR, .inr (1, [.ref aM, .ref aO, .ref aI, .ref aT, .ref aE, .int ff])), (aM, .inl (kM, 384, .inl (nM Mm)))] sz) := by
  refine Met.ofW (cc := cX1_fillDescriptor) (maxL := 5) (ret := none) (by decide) rfl ?_
  intro p e s m args below meth c s₁ B hml hv
  obtain ⟨rfl, hsz, hP, hK, hD0⟩ := hv
  have hx := B.exec
  have hb := B.bytes
  have hr := B.returns
  have hts := atoms_spec (ws := wsX1_fillDescriptor) B.pre
  have hown : s.vm.findClass RX1 = some m.cls := findClass_of_methodNamed B.named
  have hlocks := B.notSynchronized
  have hI1 : ∀ w ∈ u_ws RX1 TX1 6, w ∈ wsX1_fillDescriptor := by decide +kernel
  subst hsz
  have hD := hD0.self (sz := s.heap.size)
  generalize hAe : va_A [(aR, .inr (1, [.ref aM, .ref aO, .ref aI, .ref aT, .ref aE, .int ff])), (aM, .inl (kM, 384, .inl (nM Mm)))] s.heap.size = A at hD ⊢
  have hA : ∀ q : Nat, s.heap.size ≤ q → A q := fun q h => by rw [← hAe]; exact Or.inr h
  have hS : va_S A s.heap s.heap [] := va_S.rf
  have hP : va_P (dC, dI) vwCl [(aR, .inr (1, [.ref aM, .ref aO, .ref aI, .ref aT, .ref aE, .int ff])), (aM, .inl (kM, 384, .inl (nM Mm)))] s.heap := hP
  have hl := lv_entry ([.ref aR, .int (nI dd), .int (nI pg), .int (nI len)]) (n := 5) (Nat.le_of_ble_eq_true rfl)
  rw [lg_entry_eq]
  generalize (lg_sl ([.ref aR, .int (nI dd), .int (nI pg), .int (nI len)]) ++ List.replicate (5 - (lg_sl ([.ref aR, .int (nI dd), .int (nI pg), .int (nI len)])).length) Slot.unset).toArray = ls at hl ⊢
  have hl : lv_has ls 5 [(0, .ref aR), (1, .int (nI dd)), (2, .int (nI pg)), (3, .int (nI len))] := hl
  refine W_gen (fun Q eQ => ?_)
  refine lv_aload_n hx hb dX1_fillDescriptor_0 rfl (lv_at hl 0 rfl) ?_
  refine va_get (D := (dC, dI)) (ci := 1) (v := .ref aM) (C := RX1) (T := TX1) (N := 6) hx hb hts hI1 hown hK hP 0 rfl rfl 0 (by decide) (hts (.fieldLink RX1 9 "RingDriver" "memory" "[I") (by decide +kernel)) (fun _ h9 => h9) rfl dX1_fillDescriptor_1 ?_
  refine lv_iload_n hx hb dX1_fillDescriptor_4 rfl (lv_at hl 1 rfl) ?_
  refine lv_iload_n hx hb dX1_fillDescriptor_5 rfl (lv_at hl 2 rfl) ?_
  refine va_iast (x := nI pg) hx hb hK hP hD hS 1 0 rfl rfl (vp_in_nI (n := dd) (N := 384) (by omega) (by decide)) dX1_fillDescriptor_6 (fun H locs hP hD hS => ?_)
  have h9 : dd < 2 ^ 31 := Nat.lt_trans (m := 384) (by omega) (by decide)
  have hP : va_P (dC, dI) vwCl [(aR, .inr (1, [.ref aM, .ref aO, .ref aI, .ref aT, .ref aE, .int ff])), (aM, .inl (kM, 384, .inl (upd (nM Mm) (nI dd).toNatClampNeg (nI pg))))] H := hP
  have hD : va_D A [(aR, .inr (1, [.ref aM, .ref aO, .ref aI, .ref aT, .ref aE, .int ff])), (aM, .inl (kM, 384, .inl (upd (nM Mm) (nI dd).toNatClampNeg (nI pg))))] := hD
  have e_1 : upd (nM Mm) (nI dd).toNatClampNeg (nI pg) = nM (updN Mm dd pg) := updI h9
  have hP : va_P (dC, dI) vwCl [(aR, .inr (1, [.ref aM, .ref aO, .ref aI, .ref aT, .ref aE, .int ff])), (aM, .inl (kM, 384, .inl (nM (updN Mm dd pg))))] H := Eq.mp (congrArg (fun (z1 : Nat → Int32) => va_P (dC, dI) vwCl [(aR, .inr (1, [.ref aM, .ref aO, .ref aI, .ref aT, .ref aE, .int ff])), (aM, .inl (kM, 384, .inl z1))] H) e_1) hP
  have hD : va_D A [(aR, .inr (1, [.ref aM, .ref aO, .ref aI, .ref aT, .ref aE, .int ff])), (aM, .inl (kM, 384, .inl (nM (updN Mm dd pg))))] := Eq.mp (congrArg (fun (z1 : Nat → Int32) => va_D A [(aR, .inr (1, [.ref aM, .ref aO, .ref aI, .ref aT, .ref aE, .int ff])), (aM, .inl (kM, 384, .inl z1))]) e_1) hD
  refine lv_aload_n hx hb dX1_fillDescriptor_7 rfl (lv_at hl 0 rfl) ?_
  refine va_get (D := (dC, dI)) (ci := 1) (v := .ref aM) (C := RX1) (T := TX1) (N := 6) hx hb hts hI1 hown hK hP 0 rfl rfl 0 (by decide) (hts (.fieldLink RX1 9 "RingDriver" "memory" "[I") (by decide +kernel)) (fun _ h9 => h9) rfl dX1_fillDescriptor_8 ?_
  refine lv_iload_n hx hb dX1_fillDescriptor_11 rfl (lv_at hl 1 rfl) ?_
  refine lv_iconst (v := nI 1) hx hb dX1_fillDescriptor_12 (by decide +kernel) ?_
  refine lv_iadd hx hb dX1_fillDescriptor_13 ?_
  refine lv_topi (fun y_2 ey_2 => ?_)
  obtain rfl := ey_2.trans (nI_add dd 1)
  refine lv_iload_n hx hb dX1_fillDescriptor_14 rfl (lv_at hl 3 rfl) ?_
  refine va_iast (x := nI len) hx hb hK hP hD hS 1 0 rfl rfl (vp_in_nI (n := dd + 1) (N := 384) (by omega) (by decide)) dX1_fillDescriptor_15 (fun H locs hP hD hS => ?_)
  have h9 : dd + 1 < 2 ^ 31 := Nat.lt_trans (m := 384) (by omega) (by decide)
  have hP : va_P (dC, dI) vwCl [(aR, .inr (1, [.ref aM, .ref aO, .ref aI, .ref aT, .ref aE, .int ff])), (aM, .inl (kM, 384, .inl (upd (nM (updN Mm dd pg)) (nI (dd + 1)).toNatClampNeg (nI len))))] H := hP
  have hD : va_D A [(aR, .inr (1, [.ref aM, .ref aO, .ref aI, .ref aT, .ref aE, .int ff])), (aM, .inl (kM, 384, .inl (upd (nM (updN Mm dd pg)) (nI (dd + 1)).toNatClampNeg (nI len))))] := hD
  have e_3 : upd (nM (updN Mm dd pg)) (nI (dd + 1)).toNatClampNeg (nI len) = nM (updN (updN Mm dd pg) (dd + 1) len) := updI h9
  have hP : va_P (dC, dI) vwCl [(aR, .inr (1, [.ref aM, .ref aO, .ref aI, .ref aT, .ref aE, .int ff])), (aM, .inl (kM, 384, .inl (nM (updN (updN Mm dd pg) (dd + 1) len))))] H := Eq.mp (congrArg (fun (z1 : Nat → Int32) => va_P (dC, dI) vwCl [(aR, .inr (1, [.ref aM, .ref aO, .ref aI, .ref aT, .ref aE, .int ff])), (aM, .inl (kM, 384, .inl z1))] H) e_3) hP
  have hD : va_D A [(aR, .inr (1, [.ref aM, .ref aO, .ref aI, .ref aT, .ref aE, .int ff])), (aM, .inl (kM, 384, .inl (nM (updN (updN Mm dd pg) (dd + 1) len))))] := Eq.mp (congrArg (fun (z1 : Nat → Int32) => va_D A [(aR, .inr (1, [.ref aM, .ref aO, .ref aI, .ref aT, .ref aE, .int ff])), (aM, .inl (kM, 384, .inl z1))]) e_3) hD
  refine lv_aload_n hx hb dX1_fillDescriptor_16 rfl (lv_at hl 0 rfl) ?_
  refine va_get (D := (dC, dI)) (ci := 1) (v := .ref aM) (C := RX1) (T := TX1) (N := 6) hx hb hts hI1 hown hK hP 0 rfl rfl 0 (by decide) (hts (.fieldLink RX1 9 "RingDriver" "memory" "[I") (by decide +kernel)) (fun _ h9 => h9) rfl dX1_fillDescriptor_17 ?_
  refine lv_iload_n hx hb dX1_fillDescriptor_20 rfl (lv_at hl 1 rfl) ?_
  refine lv_iconst (v := nI 2) hx hb dX1_fillDescriptor_21 (by decide +kernel) ?_
  refine lv_iadd hx hb dX1_fillDescriptor_22 ?_
  refine lv_topi (fun y_4 ey_4 => ?_)
  obtain rfl := ey_4.trans (nI_add dd 2)
  refine lv_iconst (v := nI 1) hx hb dX1_fillDescriptor_23 (by decide +kernel) ?_
  refine va_iast (x := nI 1) hx hb hK hP hD hS 1 0 rfl rfl (vp_in_nI (n := dd + 2) (N := 384) (by omega) (by decide)) dX1_fillDescriptor_24 (fun H locs hP hD hS => ?_)
  have h9 : dd + 2 < 2 ^ 31 := Nat.lt_trans (m := 384) (by omega) (by decide)
  have hP : va_P (dC, dI) vwCl [(aR, .inr (1, [.ref aM, .ref aO, .ref aI, .ref aT, .ref aE, .int ff])), (aM, .inl (kM, 384, .inl (upd (nM (updN (updN Mm dd pg) (dd + 1) len)) (nI (dd + 2)).toNatClampNeg (nI 1))))] H := hP
  have hD : va_D A [(aR, .inr (1, [.ref aM, .ref aO, .ref aI, .ref aT, .ref aE, .int ff])), (aM, .inl (kM, 384, .inl (upd (nM (updN (updN Mm dd pg) (dd + 1) len)) (nI (dd + 2)).toNatClampNeg (nI 1))))] := hD
  have e_5 : upd (nM (updN (updN Mm dd pg) (dd + 1) len)) (nI (dd + 2)).toNatClampNeg (nI 1) = nM (updN (updN (updN Mm dd pg) (dd + 1) len) (dd + 2) 1) := updI h9
  have hP : va_P (dC, dI) vwCl [(aR, .inr (1, [.ref aM, .ref aO, .ref aI, .ref aT, .ref aE, .int ff])), (aM, .inl (kM, 384, .inl (nM (updN (updN (updN Mm dd pg) (dd + 1) len) (dd + 2) 1))))] H := Eq.mp (congrArg (fun (z1 : Nat → Int32) => va_P (dC, dI) vwCl [(aR, .inr (1, [.ref aM, .ref aO, .ref aI, .ref aT, .ref aE, .int ff])), (aM, .inl (kM, 384, .inl z1))] H) e_5) hP
  have hD : va_D A [(aR, .inr (1, [.ref aM, .ref aO, .ref aI, .ref aT, .ref aE, .int ff])), (aM, .inl (kM, 384, .inl (nM (updN (updN (updN Mm dd pg) (dd + 1) len) (dd + 2) 1))))] := Eq.mp (congrArg (fun (z1 : Nat → Int32) => va_D A [(aR, .inr (1, [.ref aM, .ref aO, .ref aI, .ref aT, .ref aE, .int ff])), (aM, .inl (kM, 384, .inl z1))]) e_5) hD
  refine lv_iconst (v := nI 3) hx hb dX1_fillDescriptor_25 (by decide +kernel) ?_
  refine lv_istore (lv' := [(4, .int (nI 3)), (0, .ref aR), (1, .int (nI dd)), (2, .int (nI pg)), (3, .int (nI len))]) hx hb dX1_fillDescriptor_26 hl (by decide) rfl (fun ls hl => ?_)
  have loop_6 : ∀ (fuel : Nat) (i : Nat), (3 ≤ i) → (i ≤ 8) → 8 - i < fuel → ∀ (H : Heap) (locs : List Loc) (ls : Array Slot), va_P (dC, dI) vwCl [(aR, .inr (1, [.ref aM, .ref aO, .ref aI, .ref aT, .ref aE, .int ff])), (aM, .inl (kM, 384, .inl (nM (fdI Mm dd pg len i))))] H → va_D A [(aR, .inr (1, [.ref aM, .ref aO, .ref aI, .ref aT, .ref aE, .int ff])), (aM, .inl (kM, 384, .inl (nM (fdI Mm dd pg len i))))] → va_S A s.heap H locs → lv_has ls 5 [(0, .ref aR), (1, .int (nI dd)), (2, .int (nI pg)), (3, .int (nI len)), (4, .int (nI i))] → W p l e (headSpec wsX1_fillDescriptor ({ frames := 0, cells := 0, slots := 0, locals := 0 })).room s m ([.ref aR, .int (nI dd), .int (nI pg), .int (nI len)] : List Value).toArray below meth c H locs 0 0 Q (F0 m 28 ls []) := by
    intro fuel
    induction fuel with
    | zero =>
      intro i hi3 hi hfu
      exact absurd hfu (Nat.not_lt_zero _)
    | succ fuel ih =>
      intro i hi3 hi hfu H locs ls hP hD hS hl
      refine lv_iload hx hb dX1_fillDescriptor_28 (lv_at hl 4 rfl) ?_
      refine lv_bipush (v := nI 8) hx hb dX1_fillDescriptor_30 (by decide +kernel) ?_
      refine lv_icmp_ge (tgt := 51) hx hb dX1_fillDescriptor_32 (by decide) (fun c_7 => ?_) (fun c_7 => ?_)
      · have c_7 : 8 ≤ i := (nI_leI (a := 8) (b := i) (by omega) (by omega)).mp c_7
        have hP9 := hP.sub (ws' := [(aR, .inr (1, [.ref aM, .ref aO, .ref aI, .ref aT, .ref aE, .int ff])), (aM, .inl (kM, 384, .inl (nM (fdI Mm dd pg len i))))]) [0, 1] rfl
        have hD9 := hD.sub (ws' := [(aR, .inr (1, [.ref aM, .ref aO, .ref aI, .ref aT, .ref aE, .int ff])), (aM, .inl (kM, 384, .inl (nM (fdI Mm dd pg len i))))]) [0, 1] (by decide) rfl
        have hK9 := hK.sub (tys' := [(kM, .int)]) [0] rfl
        have e_8 : (nM (fdI Mm dd pg len i)) = nM (fdI Mm dd pg len 8) := by rw [show i = 8 from by omega]
        have hP9 : va_P (dC, dI) vwCl [(aR, .inr (1, [.ref aM, .ref aO, .ref aI, .ref aT, .ref aE, .int ff])), (aM, .inl (kM, 384, .inl (nM (fdI Mm dd pg len 8))))] H := Eq.mp (congrArg (fun (z1 : Nat → Int32) => va_P (dC, dI) vwCl [(aR, .inr (1, [.ref aM, .ref aO, .ref aI, .ref aT, .ref aE, .int ff])), (aM, .inl (kM, 384, .inl z1))] H) e_8) hP9
        have hD9 : va_D A [(aR, .inr (1, [.ref aM, .ref aO, .ref aI, .ref aT, .ref aE, .int ff])), (aM, .inl (kM, 384, .inl (nM (fdI Mm dd pg len 8))))] := Eq.mp (congrArg (fun (z1 : Nat → Int32) => va_D A [(aR, .inr (1, [.ref aM, .ref aO, .ref aI, .ref aT, .ref aE, .int ff])), (aM, .inl (kM, 384, .inl z1))]) e_8) hD9
        subst eQ
        exact W.vret hx hb hr (fun t ht hW => ⟨⟨(), rfl, trivial, by rw [ht]; exact hP9, va_K.moved hW.alike hK9, hD9⟩, hS.F ht⟩) hS.2.2 dX1_fillDescriptor_51
      · have c_7 : ¬ (8 ≤ i) := fun h9 => c_7 ((nI_leI (a := 8) (b := i) (by omega) (by omega)).mpr h9)
        refine lv_aload_n hx hb dX1_fillDescriptor_35 rfl (lv_at hl 0 rfl) ?_
        refine va_get (D := (dC, dI)) (ci := 1) (v := .ref aM) (C := RX1) (T := TX1) (N := 6) hx hb hts hI1 hown hK hP 0 rfl rfl 0 (by decide) (hts (.fieldLink RX1 9 "RingDriver" "memory" "[I") (by decide +kernel)) (fun _ h9 => h9) rfl dX1_fillDescriptor_36 ?_
        refine lv_iload_n hx hb dX1_fillDescriptor_39 rfl (lv_at hl 1 rfl) ?_
        refine lv_iload hx hb dX1_fillDescriptor_40 (lv_at hl 4 rfl) ?_
        refine lv_iadd hx hb dX1_fillDescriptor_42 ?_
        refine lv_topi (fun y_9 ey_9 => ?_)
        obtain rfl := ey_9.trans (nI_add dd i)
        refine lv_iconst (v := nI 0) hx hb dX1_fillDescriptor_43 (by decide +kernel) ?_
        refine va_iast (x := nI 0) hx hb hK hP hD hS 1 0 rfl rfl (vp_in_nI (n := dd + i) (N := 384) (by omega) (by decide)) dX1_fillDescriptor_44 (fun H locs hP hD hS => ?_)
        have h9 : dd + i < 2 ^ 31 := Nat.lt_trans (m := 384) (by omega) (by decide)
        have hP : va_P (dC, dI) vwCl [(aR, .inr (1, [.ref aM, .ref aO, .ref aI, .ref aT, .ref aE, .int ff])), (aM, .inl (kM, 384, .inl (upd (nM (fdI Mm dd pg len i)) (nI (dd + i)).toNatClampNeg (nI 0))))] H := hP
        have hD : va_D A [(aR, .inr (1, [.ref aM, .ref aO, .ref aI, .ref aT, .ref aE, .int ff])), (aM, .inl (kM, 384, .inl (upd (nM (fdI Mm dd pg len i)) (nI (dd + i)).toNatClampNeg (nI 0))))] := hD
        have e_10 : upd (nM (fdI Mm dd pg len i)) (nI (dd + i)).toNatClampNeg (nI 0) = nM (updN (fdI Mm dd pg len i) (dd + i) 0) := updI h9
        have hP : va_P (dC, dI) vwCl [(aR, .inr (1, [.ref aM, .ref aO, .ref aI, .ref aT, .ref aE, .int ff])), (aM, .inl (kM, 384, .inl (nM (updN (fdI Mm dd pg len i) (dd + i) 0))))] H := Eq.mp (congrArg (fun (z1 : Nat → Int32) => va_P (dC, dI) vwCl [(aR, .inr (1, [.ref aM, .ref aO, .ref aI, .ref aT, .ref aE, .int ff])), (aM, .inl (kM, 384, .inl z1))] H) e_10) hP
        have hD : va_D A [(aR, .inr (1, [.ref aM, .ref aO, .ref aI, .ref aT, .ref aE, .int ff])), (aM, .inl (kM, 384, .inl (nM (updN (fdI Mm dd pg len i) (dd + i) 0))))] := Eq.mp (congrArg (fun (z1 : Nat → Int32) => va_D A [(aR, .inr (1, [.ref aM, .ref aO, .ref aI, .ref aT, .ref aE, .int ff])), (aM, .inl (kM, 384, .inl z1))]) e_10) hD
        refine lv_iinc (v := nI (i + 1)) (lv' := [(4, .int (nI (i + 1))), (0, .ref aR), (1, .int (nI dd)), (2, .int (nI pg)), (3, .int (nI len))]) hx hb dX1_fillDescriptor_45 hl (k := 4) rfl (show nI i + Int32.ofInt 1 = nI (i + 1) from nI_1 i) (by decide) rfl (fun ls hl => ?_)
        refine lv_goto (tgt := 28) hx hb dX1_fillDescriptor_48 (by decide) ?_
        have hP9 := hP.sub (ws' := [(aR, .inr (1, [.ref aM, .ref aO, .ref aI, .ref aT, .ref aE, .int ff])), (aM, .inl (kM, 384, .inl (nM (updN (fdI Mm dd pg len i) (dd + i) 0))))]) [0, 1] rfl
        have hD9 := hD.sub (ws' := [(aR, .inr (1, [.ref aM, .ref aO, .ref aI, .ref aT, .ref aE, .int ff])), (aM, .inl (kM, 384, .inl (nM (updN (fdI Mm dd pg len i) (dd + i) 0))))]) [0, 1] (by decide) rfl
        have e_11 : (nM (updN (fdI Mm dd pg len i) (dd + i) 0)) = nM (fdI Mm dd pg len (i + 1)) := congrArg nM (fdI_s (by omega))
        have hP9 : va_P (dC, dI) vwCl [(aR, .inr (1, [.ref aM, .ref aO, .ref aI, .ref aT, .ref aE, .int ff])), (aM, .inl (kM, 384, .inl (nM (fdI Mm dd pg len (i + 1)))))] H := Eq.mp (congrArg (fun (z1 : Nat → Int32) => va_P (dC, dI) vwCl [(aR, .inr (1, [.ref aM, .ref aO, .ref aI, .ref aT, .ref aE, .int ff])), (aM, .inl (kM, 384, .inl z1))] H) e_11) hP9
        have hD9 : va_D A [(aR, .inr (1, [.ref aM, .ref aO, .ref aI, .ref aT, .ref aE, .int ff])), (aM, .inl (kM, 384, .inl (nM (fdI Mm dd pg len (i + 1)))))] := Eq.mp (congrArg (fun (z1 : Nat → Int32) => va_D A [(aR, .inr (1, [.ref aM, .ref aO, .ref aI, .ref aT, .ref aE, .int ff])), (aM, .inl (kM, 384, .inl z1))]) e_11) hD9
        have hl9 : lv_has ls 5 [(0, .ref aR), (1, .int (nI dd)), (2, .int (nI pg)), (3, .int (nI len)), (4, .int (nI (i + 1)))] := lv_sub hl [1, 2, 3, 4, 0] rfl
        exact ih (i + 1) (by omega) (by omega) (by omega) _ _ _ hP9 hD9 hS hl9
  have hP9 := hP.sub (ws' := [(aR, .inr (1, [.ref aM, .ref aO, .ref aI, .ref aT, .ref aE, .int ff])), (aM, .inl (kM, 384, .inl (nM (updN (updN (updN Mm dd pg) (dd + 1) len) (dd + 2) 1))))]) [0, 1] rfl
  have hD9 := hD.sub (ws' := [(aR, .inr (1, [.ref aM, .ref aO, .ref aI, .ref aT, .ref aE, .int ff])), (aM, .inl (kM, 384, .inl (nM (updN (updN (updN Mm dd pg) (dd + 1) len) (dd + 2) 1))))]) [0, 1] (by decide) rfl
  have e_12 : (nM (updN (updN (updN Mm dd pg) (dd + 1) len) (dd + 2) 1)) = nM (fdI Mm dd pg len 3) := congrArg nM fdI_3
  have hP9 : va_P (dC, dI) vwCl [(aR, .inr (1, [.ref aM, .ref aO, .ref aI, .ref aT, .ref aE, .int ff])), (aM, .inl (kM, 384, .inl (nM (fdI Mm dd pg len 3))))] H := Eq.mp (congrArg (fun (z1 : Nat → Int32) => va_P (dC, dI) vwCl [(aR, .inr (1, [.ref aM, .ref aO, .ref aI, .ref aT, .ref aE, .int ff])), (aM, .inl (kM, 384, .inl z1))] H) e_12) hP9
  have hD9 : va_D A [(aR, .inr (1, [.ref aM, .ref aO, .ref aI, .ref aT, .ref aE, .int ff])), (aM, .inl (kM, 384, .inl (nM (fdI Mm dd pg len 3))))] := Eq.mp (congrArg (fun (z1 : Nat → Int32) => va_D A [(aR, .inr (1, [.ref aM, .ref aO, .ref aI, .ref aT, .ref aE, .int ff])), (aM, .inl (kM, 384, .inl z1))]) e_12) hD9
  have hl9 : lv_has ls 5 [(0, .ref aR), (1, .int (nI dd)), (2, .int (nI pg)), (3, .int (nI len)), (4, .int (nI 3))] := lv_sub hl [1, 2, 3, 4, 0] rfl
  exact loop_6 (8 + 1) 3 (by omega) (by omega) (by omega) _ _ _ hP9 hD9 hS hl9
set_option maxHeartbeats 4000000 in
set_option maxRecDepth 100000 in
theorem c_X1_closeAllBehind (l : Launch) (dC : Nat → ClassId) (dI : Nat → Nat → Nat) (aR : Nat) (aM : Nat) (aO : Nat) (aI : Nat) (aT : Nat) (aE : Nat) (ff : Int32) (kM : ClassId) (Mm : Nat → Nat) (aQ : Nat) (rs : Nat) (fp : Nat) (tq : Nat) (nq : Nat) (pl : Nat) (sz : Nat) (hht : tq < 8) (hhn : nq ≤ 8) (hhrs : rs ≤ 64) (hhk : pl ≤ nq) : Met l yX1_closeAllBehind wsX1_closeAllBehind ({ frames := 2, cells := 0, slots := 0, locals := 42 }) (va_Pc [.ref aR, .ref aQ, .int (nI pl)] (fun U => U.heap.size = sz ∧ va_P (dC, dI) vwCl [(aR, .inr (1, [.ref aM, .ref aO, .ref aI, .ref aT, .ref aE, .int ff])), (aM, .inl (kM, 384, .inl (nM Mm))), (aQ, .inr (0, [.int (nI rs), .int (nI fp), .int (nI tq), .int (nI nq)]))] U.heap ∧ va_K (dC, dI) vwCl [(kM, .int)] U ∧ va_D (fun _ => True) [(aR, .inr (1, [.ref aM, .ref aO, .ref aI, .ref aT, .ref aE, .int ff])), (aM, .inl (kM, 384, .inl (nM Mm))), (aQ, .inr (0, [.int (nI rs), .int (nI fp), .int (nI tq), .int (nI nq)]))])) (va_Qi (fun (r9 : Int32) (_ : Unit) => r9 = nI (nq - pl)) (fun _ t => va_P (dC, dI) vwCl [(aR, .inr (1, [.ref aM, .ref aO, .ref aI, .ref aT, .ref aE, .int ff])), (aM, .inl (kM, 384, .inl (nM (clM Mm rs tq pl nq)))), (aQ, .inr (0, [.int (nI rs), .int (nI fp), .int (nI tq), .int (nI pl)]))] t.heap ∧ va_K (dC, dI) vwCl [(kM, .int)] t ∧ va_D (va_A [(aR, .inr (1, [.ref aM, .ref aO, .ref aI, .ref aT, .ref aE, .int ff])), (aM, .inl (kM, 384, .inl (nM Mm))), (aQ, .inr (0, [.int (nI rs), .int (nI fp), .int (nI tq), .int (nI nq)]))] sz) [(aR, .inr (1, [.ref aM, .ref aO, .ref aI, .ref aT, .ref aE, .int ff])), (aM, .inl (kM, 384, .inl (nM (clM Mm rs tq pl nq)))), (aQ, .inr (0, [.int (nI rs), .int (nI fp), .int (nI tq), .int (nI pl)]))]) (va_A [(aR, .inr (1, [.ref aM, .ref aO, .ref aI, .ref aT, .ref aE, .int ff])), (aM, .inl (kM, 384, .inl (nM Mm))), (aQ, .inr (0, [.int (nI rs), .int (nI fp), .int (nI tq), .int (nI nq)]))] sz)) 0 0 (va_A [(aR, .inr (1, [.ref aM, .ref aO, .ref aI, .ref aT, .ref aE, .int ff])), (aM, .inl (kM, 384, .inl (nM Mm))), (aQ, .inr (0, [.int (nI rs), .int (nI fp), .int (nI tq), .int (nI nq)]))] sz) := by
  refine Met.ofW (cc := cX1_closeAllBehind) (maxL := 5) (ret := (some .int)) (by decide) rfl ?_
  intro p e s m args below meth c s₁ B hml hv
  obtain ⟨rfl, hsz, hP, hK, hD0⟩ := hv
  have hx := B.exec
  have hb := B.bytes
  have hr := B.returns
  have hts := atoms_spec (ws := wsX1_closeAllBehind) B.pre
  have hown : s.vm.findClass RX1 = some m.cls := findClass_of_methodNamed B.named
  have hlocks := B.notSynchronized
  have hI1 : ∀ w ∈ u_ws RX1 TX1 6, w ∈ wsX1_closeAllBehind := by decide +kernel
  subst hsz
  have hD := hD0.self (sz := s.heap.size)
  generalize hAe : va_A [(aR, .inr (1, [.ref aM, .ref aO, .ref aI, .ref aT, .ref aE, .int ff])), (aM, .inl (kM, 384, .inl (nM Mm))), (aQ, .inr (0, [.int (nI rs), .int (nI fp), .int (nI tq), .int (nI nq)]))] s.heap.size = A at hD ⊢
  have hA : ∀ q : Nat, s.heap.size ≤ q → A q := fun q h => by rw [← hAe]; exact Or.inr h
  have hS : va_S A s.heap s.heap [] := va_S.rf
  have hP : va_P (dC, dI) vwCl [(aR, .inr (1, [.ref aM, .ref aO, .ref aI, .ref aT, .ref aE, .int ff])), (aM, .inl (kM, 384, .inl (nM Mm))), (aQ, .inr (0, [.int (nI rs), .int (nI fp), .int (nI tq), .int (nI nq)]))] s.heap := hP
  have hl := lv_entry ([.ref aR, .ref aQ, .int (nI pl)]) (n := 5) (Nat.le_of_ble_eq_true rfl)
  rw [lg_entry_eq]
  generalize (lg_sl ([.ref aR, .ref aQ, .int (nI pl)]) ++ List.replicate (5 - (lg_sl ([.ref aR, .ref aQ, .int (nI pl)])).length) Slot.unset).toArray = ls at hl ⊢
  have hl : lv_has ls 5 [(0, .ref aR), (1, .ref aQ), (2, .int (nI pl))] := hl
  refine W_gen (fun Q eQ => ?_)
  refine lv_aload_n hx hb dX1_closeAllBehind_0 rfl (lv_at hl 1 rfl) ?_
  have hPc := hP.sub (ws' := [(aQ, .inr (0, [.int (nI rs), .int (nI fp), .int (nI tq), .int (nI nq)]))]) [2] rfl
  have hDc := hD.sub (ws' := [(aQ, .inr (0, [.int (nI rs), .int (nI fp), .int (nI tq), .int (nI nq)]))]) [2] (by decide) rfl
  have hKc := hK.sub (tys' := []) [] rfl
  have hFc := va_free (wc := [(aQ, .inr (0, [.int (nI rs), .int (nI fp), .int (nI tq), .int (nI nq)]))]) hD hS hA [2] rfl
  refine va_calli (va_runV (As := []) (rest := []) ⟨hx, hb, hml, hown, hts⟩ (c_X0_size l dC dI aQ rs fp tq nq s.heap.size ) (cwV 0 hts gX1_closeAllBehind_X0_size rfl rfl rfl (by decide +kernel) ⟨Nat.le_of_ble_eq_true rfl, Nat.le_of_ble_eq_true rfl⟩) ⟨fun a U g mk q => by obtain ⟨q0, q1, qP, qK, qD⟩ := q; exact ⟨q0, q1, qP, va_K.moved (u := U) (U := U.calling g mk a) (Vm.Alike.refl U.vm) qK, qD⟩, va_recv hKc hPc (ci := 0) (q0 := 0) rfl rfl, fun U hU hW => ⟨rfl, by rw [hU], by rw [hU]; exact hPc, va_K.moved hW.alike hKc, hDc.weaken (fun _ _ _ _ => trivial)⟩⟩ rfl rfl hl.1 rfl (lv_room (Nat.le_of_ble_eq_true rfl)) dX1_closeAllBehind_1 ⟨Nat.le_of_ble_eq_true rfl, Nat.le_of_ble_eq_true rfl⟩) hS (fun q _ h => hFc q h) hFc (fun r_1 u t H1 locs ht hvm hw hB hz1 hk1 hS => ?_)
  obtain ⟨hP1, hK1, hD1⟩ := hB
  rw [ht] at hP1
  have hK1 := va_K.moved hvm.symm hK1
  obtain ⟨hP, hD⟩ := va_join (wr := [(aR, .inr (1, [.ref aM, .ref aO, .ref aI, .ref aT, .ref aE, .int ff])), (aM, .inl (kM, 384, .inl (nM Mm)))]) (w1 := [(aQ, .inr (0, [.int (nI rs), .int (nI fp), .int (nI tq), .int (nI nq)]))]) hP hD [2] [0, 1] rfl rfl (by decide) (by decide) hk1 hFc hP1 hD1
  have hK := (hK.sub (tys' := [(kM, .int)]) [0] rfl).app hK1
  generalize H1 = H at hP hS ⊢
  have hP : va_P (dC, dI) vwCl [(aR, .inr (1, [.ref aM, .ref aO, .ref aI, .ref aT, .ref aE, .int ff])), (aM, .inl (kM, 384, .inl (nM Mm))), (aQ, .inr (0, [.int (nI rs), .int (nI fp), .int (nI tq), .int (nI nq)]))] H := hP
  have hD : va_D A [(aR, .inr (1, [.ref aM, .ref aO, .ref aI, .ref aT, .ref aE, .int ff])), (aM, .inl (kM, 384, .inl (nM Mm))), (aQ, .inr (0, [.int (nI rs), .int (nI fp), .int (nI tq), .int (nI nq)]))] := hD
  have hK : va_K (dC, dI) vwCl [(kM, .int)] s := hK
  obtain rfl : r_1 = nI nq := hw
  refine lv_istore_n (lv' := [(3, .int (nI nq)), (0, .ref aR), (1, .ref aQ), (2, .int (nI pl))]) hx hb dX1_closeAllBehind_4 rfl hl (by decide) rfl (fun ls hl => ?_)
  refine lv_iload_n hx hb dX1_closeAllBehind_5 rfl (lv_at hl 3 rfl) ?_
  refine lv_istore (lv' := [(4, .int (nI pl)), (3, .int (nI nq)), (0, .ref aR), (1, .ref aQ), (2, .int (nI pl))]) hx hb dX1_closeAllBehind_6 hl (by decide) rfl (fun ls hl => ?_)
  have loop_2 : ∀ (fuel : Nat) (i : Nat), (pl ≤ i) → (i ≤ nq) → nq - i < fuel → ∀ (H : Heap) (locs : List Loc) (ls : Array Slot), va_P (dC, dI) vwCl [(aR, .inr (1, [.ref aM, .ref aO, .ref aI, .ref aT, .ref aE, .int ff])), (aM, .inl (kM, 384, .inl (nM (clM Mm rs tq pl i)))), (aQ, .inr (0, [.int (nI rs), .int (nI fp), .int (nI tq), .int (nI nq)]))] H → va_D A [(aR, .inr (1, [.ref aM, .ref aO, .ref aI, .ref aT, .ref aE, .int ff])), (aM, .inl (kM, 384, .inl (nM (clM Mm rs tq pl i)))), (aQ, .inr (0, [.int (nI rs), .int (nI fp), .int (nI tq), .int (nI nq)]))] → va_S A s.heap H locs → lv_has ls 5 [(0, .ref aR), (1, .ref aQ), (2, .int (nI pl)), (3, .int (nI nq)), (4, .int (nI i))] → W p l e (headSpec wsX1_closeAllBehind ({ frames := 2, cells := 0, slots := 0, locals := 42 })).room s m ([.ref aR, .ref aQ, .int (nI pl)] : List Value).toArray below meth c H locs 0 0 Q (F0 m 8 ls []) := by
    intro fuel
    induction fuel with
    | zero =>
      intro i hip hi hfu
      exact absurd hfu (Nat.not_lt_zero _)
    | succ fuel ih =>
      intro i hip hi hfu H locs ls hP hD hS hl
      refine lv_iload hx hb dX1_closeAllBehind_8 (lv_at hl 4 rfl) ?_
      refine lv_iload_n hx hb dX1_closeAllBehind_10 rfl (lv_at hl 3 rfl) ?_
      refine lv_icmp_ge (tgt := 34) hx hb dX1_closeAllBehind_11 (by decide) (fun c_3 => ?_) (fun c_3 => ?_)
      · have c_3 : nq ≤ i := (nI_leI (a := nq) (b := i) (by omega) (by omega)).mp c_3
        refine lv_aload_n hx hb dX1_closeAllBehind_34 rfl (lv_at hl 1 rfl) ?_
        refine lv_iload_n hx hb dX1_closeAllBehind_35 rfl (lv_at hl 2 rfl) ?_
        have hPc := hP.sub (ws' := [(aQ, .inr (0, [.int (nI rs), .int (nI fp), .int (nI tq), .int (nI nq)]))]) [2] rfl
        have hDc := hD.sub (ws' := [(aQ, .inr (0, [.int (nI rs), .int (nI fp), .int (nI tq), .int (nI nq)]))]) [2] (by decide) rfl
        have hKc := hK.sub (tys' := []) [] rfl
        have hFc := va_free (wc := [(aQ, .inr (0, [.int (nI rs), .int (nI fp), .int (nI tq), .int (nI nq)]))]) hD hS hA [2] rfl
        refine va_callv (va_runV (As := [.int (nI pl)]) (rest := []) ⟨hx, hb, hml, hown, hts⟩ (c_X0_keepOldest l dC dI aQ rs fp tq nq pl H.size ) (cwV 1 hts gX1_closeAllBehind_X0_keepOldest rfl rfl rfl (by decide +kernel) ⟨Nat.le_of_ble_eq_true rfl, Nat.le_of_ble_eq_true rfl⟩) ⟨fun a U g mk q => by obtain ⟨q0, q1, qP, qK, qD⟩ := q; exact ⟨q0, q1, qP, va_K.moved (u := U) (U := U.calling g mk a) (Vm.Alike.refl U.vm) qK, qD⟩, va_recv hKc hPc (ci := 0) (q0 := 0) rfl rfl, fun U hU hW => ⟨rfl, by rw [hU], by rw [hU]; exact hPc, va_K.moved hW.alike hKc, hDc.weaken (fun _ _ _ _ => trivial)⟩⟩ rfl rfl hl.1 rfl (lv_room (Nat.le_of_ble_eq_true rfl)) dX1_closeAllBehind_36 ⟨Nat.le_of_ble_eq_true rfl, Nat.le_of_ble_eq_true rfl⟩) hS (fun q _ h => hFc q h) hFc (fun u t H1 locs ht hvm hw hB hz1 hk1 hS => ?_)
        obtain ⟨hP1, hK1, hD1⟩ := hB
        rw [ht] at hP1
        have hK1 := va_K.moved hvm.symm hK1
        obtain ⟨hP, hD⟩ := va_join (wr := [(aR, .inr (1, [.ref aM, .ref aO, .ref aI, .ref aT, .ref aE, .int ff])), (aM, .inl (kM, 384, .inl (nM (clM Mm rs tq pl i))))]) (w1 := [(aQ, .inr (0, [.int (nI rs), .int (nI fp), .int (nI tq), .int (nI pl)]))]) hP hD [2] [0, 1] rfl rfl (by decide) (by decide) hk1 hFc hP1 hD1
        have hK := (hK.sub (tys' := [(kM, .int)]) [0] rfl).app hK1
        generalize H1 = H at hP hS ⊢
        have hP : va_P (dC, dI) vwCl [(aR, .inr (1, [.ref aM, .ref aO, .ref aI, .ref aT, .ref aE, .int ff])), (aM, .inl (kM, 384, .inl (nM (clM Mm rs tq pl i)))), (aQ, .inr (0, [.int (nI rs), .int (nI fp), .int (nI tq), .int (nI pl)]))] H := hP
        have hD : va_D A [(aR, .inr (1, [.ref aM, .ref aO, .ref aI, .ref aT, .ref aE, .int ff])), (aM, .inl (kM, 384, .inl (nM (clM Mm rs tq pl i)))), (aQ, .inr (0, [.int (nI rs), .int (nI fp), .int (nI tq), .int (nI pl)]))] := hD
        have hK : va_K (dC, dI) vwCl [(kM, .int)] s := hK
        refine lv_iload_n hx hb dX1_closeAllBehind_39 rfl (lv_at hl 3 rfl) ?_
        refine lv_iload_n hx hb dX1_closeAllBehind_40 rfl (lv_at hl 2 rfl) ?_
        refine lv_isub hx hb dX1_closeAllBehind_41 ?_
        refine lv_topi (fun y_5 ey_5 => ?_)
        obtain rfl := ey_5.trans (pk_sub (a := nq) (b := pl) (by omega))
        have hP9 := hP.sub (ws' := [(aR, .inr (1, [.ref aM, .ref aO, .ref aI, .ref aT, .ref aE, .int ff])), (aM, .inl (kM, 384, .inl (nM (clM Mm rs tq pl i)))), (aQ, .inr (0, [.int (nI rs), .int (nI fp), .int (nI tq), .int (nI pl)]))]) [0, 1, 2] rfl
        have hD9 := hD.sub (ws' := [(aR, .inr (1, [.ref aM, .ref aO, .ref aI, .ref aT, .ref aE, .int ff])), (aM, .inl (kM, 384, .inl (nM (clM Mm rs tq pl i)))), (aQ, .inr (0, [.int (nI rs), .int (nI fp), .int (nI tq), .int (nI pl)]))]) [0, 1, 2] (by decide) rfl
        have hK9 := hK.sub (tys' := [(kM, .int)]) [0] rfl
        have e_6 : (nM (clM Mm rs tq pl i)) = nM (clM Mm rs tq pl nq) := by rw [show i = nq from by omega]
        have hP9 : va_P (dC, dI) vwCl [(aR, .inr (1, [.ref aM, .ref aO, .ref aI, .ref aT, .ref aE, .int ff])), (aM, .inl (kM, 384, .inl (nM (clM Mm rs tq pl nq)))), (aQ, .inr (0, [.int (nI rs), .int (nI fp), .int (nI tq), .int (nI pl)]))] H := Eq.mp (congrArg (fun (z1 : Nat → Int32) => va_P (dC, dI) vwCl [(aR, .inr (1, [.ref aM, .ref aO, .ref aI, .ref aT, .ref aE, .int ff])), (aM, .inl (kM, 384, .inl z1)), (aQ, .inr (0, [.int (nI rs), .int (nI fp), .int (nI tq), .int (nI pl)]))] H) e_6) hP9
        have hD9 : va_D A [(aR, .inr (1, [.ref aM, .ref aO, .ref aI, .ref aT, .ref aE, .int ff])), (aM, .inl (kM, 384, .inl (nM (clM Mm rs tq pl nq)))), (aQ, .inr (0, [.int (nI rs), .int (nI fp), .int (nI tq), .int (nI pl)]))] := Eq.mp (congrArg (fun (z1 : Nat → Int32) => va_D A [(aR, .inr (1, [.ref aM, .ref aO, .ref aI, .ref aT, .ref aE, .int ff])), (aM, .inl (kM, 384, .inl z1)), (aQ, .inr (0, [.int (nI rs), .int (nI fp), .int (nI tq), .int (nI pl)]))]) e_6) hD9
        subst eQ
        have e_7 : (nI (nq - pl) : Int32) = nI (nq - pl) := rfl
        exact W.iret (v := nI (nq - pl)) hx hb hr (fun t ht hW => ⟨⟨_, (), rfl, e_7, by rw [ht]; exact hP9, va_K.moved hW.alike hK9, hD9⟩, hS.F ht⟩) hS.2.2 dX1_closeAllBehind_42
      · have c_3 : ¬ (nq ≤ i) := fun h9 => c_3 ((nI_leI (a := nq) (b := i) (by omega) (by omega)).mpr h9)
        refine lv_aload_n hx hb dX1_closeAllBehind_14 rfl (lv_at hl 0 rfl) ?_
        refine va_get (D := (dC, dI)) (ci := 1) (v := .ref aM) (C := RX1) (T := TX1) (N := 6) hx hb hts hI1 hown hK hP 0 rfl rfl 0 (by decide) (hts (.fieldLink RX1 9 "RingDriver" "memory" "[I") (by decide +kernel)) (fun _ h9 => h9) rfl dX1_closeAllBehind_15 ?_
        refine lv_aload_n hx hb dX1_closeAllBehind_18 rfl (lv_at hl 1 rfl) ?_
        refine lv_iload hx hb dX1_closeAllBehind_19 (lv_at hl 4 rfl) ?_
        have hPc := hP.sub (ws' := [(aQ, .inr (0, [.int (nI rs), .int (nI fp), .int (nI tq), .int (nI nq)]))]) [2] rfl
        have hDc := hD.sub (ws' := [(aQ, .inr (0, [.int (nI rs), .int (nI fp), .int (nI tq), .int (nI nq)]))]) [2] (by decide) rfl
        have hKc := hK.sub (tys' := []) [] rfl
        have hFc := va_free (wc := [(aQ, .inr (0, [.int (nI rs), .int (nI fp), .int (nI tq), .int (nI nq)]))]) hD hS hA [2] rfl
        refine va_calli (va_runV (As := [.int (nI i)]) (rest := [.ref aM]) ⟨hx, hb, hml, hown, hts⟩ (c_X0_descriptorAt l dC dI aQ rs fp tq nq i H.size (by omega) (by omega) (by omega)) (cwV 1 hts gX1_closeAllBehind_X0_descriptorAt rfl rfl rfl (by decide +kernel) ⟨Nat.le_of_ble_eq_true rfl, Nat.le_of_ble_eq_true rfl⟩) ⟨fun a U g mk q => by obtain ⟨q0, q1, qP, qK, qD⟩ := q; exact ⟨q0, q1, qP, va_K.moved (u := U) (U := U.calling g mk a) (Vm.Alike.refl U.vm) qK, qD⟩, va_recv hKc hPc (ci := 0) (q0 := 0) rfl rfl, fun U hU hW => ⟨rfl, by rw [hU], by rw [hU]; exact hPc, va_K.moved hW.alike hKc, hDc.weaken (fun _ _ _ _ => trivial)⟩⟩ rfl rfl hl.1 rfl (lv_room (Nat.le_of_ble_eq_true rfl)) dX1_closeAllBehind_21 ⟨Nat.le_of_ble_eq_true rfl, Nat.le_of_ble_eq_true rfl⟩) hS (fun q _ h => hFc q h) hFc (fun r_8 u t H1 locs ht hvm hw hB hz1 hk1 hS => ?_)
        obtain ⟨hP1, hK1, hD1⟩ := hB
        rw [ht] at hP1
        have hK1 := va_K.moved hvm.symm hK1
        obtain ⟨hP, hD⟩ := va_join (wr := [(aR, .inr (1, [.ref aM, .ref aO, .ref aI, .ref aT, .ref aE, .int ff])), (aM, .inl (kM, 384, .inl (nM (clM Mm rs tq pl i))))]) (w1 := [(aQ, .inr (0, [.int (nI rs), .int (nI fp), .int (nI tq), .int (nI nq)]))]) hP hD [2] [0, 1] rfl rfl (by decide) (by decide) hk1 hFc hP1 hD1
        have hK := (hK.sub (tys' := [(kM, .int)]) [0] rfl).app hK1
        generalize H1 = H at hP hS ⊢
        have hP : va_P (dC, dI) vwCl [(aR, .inr (1, [.ref aM, .ref aO, .ref aI, .ref aT, .ref aE, .int ff])), (aM, .inl (kM, 384, .inl (nM (clM Mm rs tq pl i)))), (aQ, .inr (0, [.int (nI rs), .int (nI fp), .int (nI tq), .int (nI nq)]))] H := hP
        have hD : va_D A [(aR, .inr (1, [.ref aM, .ref aO, .ref aI, .ref aT, .ref aE, .int ff])), (aM, .inl (kM, 384, .inl (nM (clM Mm rs tq pl i)))), (aQ, .inr (0, [.int (nI rs), .int (nI fp), .int (nI tq), .int (nI nq)]))] := hD
        have hK : va_K (dC, dI) vwCl [(kM, .int)] s := hK
        obtain rfl : r_8 = nI (rs + 8 * ((tq + i) % 8)) := hw
        refine lv_iconst (v := nI 2) hx hb dX1_closeAllBehind_24 (by decide +kernel) ?_
        refine lv_iadd hx hb dX1_closeAllBehind_25 ?_
        refine lv_topi (fun y_9 ey_9 => ?_)
        obtain rfl := ey_9.trans (nI_add (rs + 8 * ((tq + i) % 8)) 2)
        refine lv_iconst (v := nI 0) hx hb dX1_closeAllBehind_26 (by decide +kernel) ?_
        refine va_iast (x := nI 0) hx hb hK hP hD hS 1 0 rfl rfl (vp_in_nI (n := rs + 8 * ((tq + i) % 8) + 2) (N := 384) (by omega) (by decide)) dX1_closeAllBehind_27 (fun H locs hP hD hS => ?_)
        have h9 : rs + 8 * ((tq + i) % 8) + 2 < 2 ^ 31 := Nat.lt_trans (m := 384) (by omega) (by decide)
        have hP : va_P (dC, dI) vwCl [(aR, .inr (1, [.ref aM, .ref aO, .ref aI, .ref aT, .ref aE, .int ff])), (aM, .inl (kM, 384, .inl (upd (nM (clM Mm rs tq pl i)) (nI (rs + 8 * ((tq + i) % 8) + 2)).toNatClampNeg (nI 0)))), (aQ, .inr (0, [.int (nI rs), .int (nI fp), .int (nI tq), .int (nI nq)]))] H := hP
        have hD : va_D A [(aR, .inr (1, [.ref aM, .ref aO, .ref aI, .ref aT, .ref aE, .int ff])), (aM, .inl (kM, 384, .inl (upd (nM (clM Mm rs tq pl i)) (nI (rs + 8 * ((tq + i) % 8) + 2)).toNatClampNeg (nI 0)))), (aQ, .inr (0, [.int (nI rs), .int (nI fp), .int (nI tq), .int (nI nq)]))] := hD
        have e_10 : upd (nM (clM Mm rs tq pl i)) (nI (rs + 8 * ((tq + i) % 8) + 2)).toNatClampNeg (nI 0) = nM (updN (clM Mm rs tq pl i) (rs + 8 * ((tq + i) % 8) + 2) 0) := updI h9
        have hP : va_P (dC, dI) vwCl [(aR, .inr (1, [.ref aM, .ref aO, .ref aI, .ref aT, .ref aE, .int ff])), (aM, .inl (kM, 384, .inl (nM (updN (clM Mm rs tq pl i) (rs + 8 * ((tq + i) % 8) + 2) 0)))), (aQ, .inr (0, [.int (nI rs), .int (nI fp), .int (nI tq), .int (nI nq)]))] H := Eq.mp (congrArg (fun (z1 : Nat → Int32) => va_P (dC, dI) vwCl [(aR, .inr (1, [.ref aM, .ref aO, .ref aI, .ref aT, .ref aE, .int ff])), (aM, .inl (kM, 384, .inl z1)), (aQ, .inr (0, [.int (nI rs), .int (nI fp), .int (nI tq), .int (nI nq)]))] H) e_10) hP
        have hD : va_D A [(aR, .inr (1, [.ref aM, .ref aO, .ref aI, .ref aT, .ref aE, .int ff])), (aM, .inl (kM, 384, .inl (nM (updN (clM Mm rs tq pl i) (rs + 8 * ((tq + i) % 8) + 2) 0)))), (aQ, .inr (0, [.int (nI rs), .int (nI fp), .int (nI tq), .int (nI nq)]))] := Eq.mp (congrArg (fun (z1 : Nat → Int32) => va_D A [(aR, .inr (1, [.ref aM, .ref aO, .ref aI, .ref aT, .ref aE, .int ff])), (aM, .inl (kM, 384, .inl z1)), (aQ, .inr (0, [.int (nI rs), .int (nI fp), .int (nI tq), .int (nI nq)]))]) e_10) hD
        refine lv_iinc (v := nI (i + 1)) (lv' := [(4, .int (nI (i + 1))), (0, .ref aR), (1, .ref aQ), (2, .int (nI pl)), (3, .int (nI nq))]) hx hb dX1_closeAllBehind_28 hl (k := 4) rfl (show nI i + Int32.ofInt 1 = nI (i + 1) from nI_1 i) (by decide) rfl (fun ls hl => ?_)
        refine lv_goto (tgt := 8) hx hb dX1_closeAllBehind_31 (by decide) ?_
        have hP9 := hP.sub (ws' := [(aR, .inr (1, [.ref aM, .ref aO, .ref aI, .ref aT, .ref aE, .int ff])), (aM, .inl (kM, 384, .inl (nM (updN (clM Mm rs tq pl i) (rs + 8 * ((tq + i) % 8) + 2) 0)))), (aQ, .inr (0, [.int (nI rs), .int (nI fp), .int (nI tq), .int (nI nq)]))]) [0, 1, 2] rfl
        have hD9 := hD.sub (ws' := [(aR, .inr (1, [.ref aM, .ref aO, .ref aI, .ref aT, .ref aE, .int ff])), (aM, .inl (kM, 384, .inl (nM (updN (clM Mm rs tq pl i) (rs + 8 * ((tq + i) % 8) + 2) 0)))), (aQ, .inr (0, [.int (nI rs), .int (nI fp), .int (nI tq), .int (nI nq)]))]) [0, 1, 2] (by decide) rfl
        have e_11 : (nM (updN (clM Mm rs tq pl i) (rs + 8 * ((tq + i) % 8) + 2) 0)) = nM (clM Mm rs tq pl (i + 1)) := congrArg nM (clM_s hht hip (by omega))
        have hP9 : va_P (dC, dI) vwCl [(aR, .inr (1, [.ref aM, .ref aO, .ref aI, .ref aT, .ref aE, .int ff])), (aM, .inl (kM, 384, .inl (nM (clM Mm rs tq pl (i + 1))))), (aQ, .inr (0, [.int (nI rs), .int (nI fp), .int (nI tq), .int (nI nq)]))] H := Eq.mp (congrArg (fun (z1 : Nat → Int32) => va_P (dC, dI) vwCl [(aR, .inr (1, [.ref aM, .ref aO, .ref aI, .ref aT, .ref aE, .int ff])), (aM, .inl (kM, 384, .inl z1)), (aQ, .inr (0, [.int (nI rs), .int (nI fp), .int (nI tq), .int (nI nq)]))] H) e_11) hP9
        have hD9 : va_D A [(aR, .inr (1, [.ref aM, .ref aO, .ref aI, .ref aT, .ref aE, .int ff])), (aM, .inl (kM, 384, .inl (nM (clM Mm rs tq pl (i + 1))))), (aQ, .inr (0, [.int (nI rs), .int (nI fp), .int (nI tq), .int (nI nq)]))] := Eq.mp (congrArg (fun (z1 : Nat → Int32) => va_D A [(aR, .inr (1, [.ref aM, .ref aO, .ref aI, .ref aT, .ref aE, .int ff])), (aM, .inl (kM, 384, .inl z1)), (aQ, .inr (0, [.int (nI rs), .int (nI fp), .int (nI tq), .int (nI nq)]))]) e_11) hD9
        have hl9 : lv_has ls 5 [(0, .ref aR), (1, .ref aQ), (2, .int (nI pl)), (3, .int (nI nq)), (4, .int (nI (i + 1)))] := lv_sub hl [1, 2, 3, 4, 0] rfl
        exact ih (i + 1) (by omega) (by omega) (by omega) _ _ _ hP9 hD9 hS hl9
  have hP9 := hP.sub (ws' := [(aR, .inr (1, [.ref aM, .ref aO, .ref aI, .ref aT, .ref aE, .int ff])), (aM, .inl (kM, 384, .inl (nM Mm))), (aQ, .inr (0, [.int (nI rs), .int (nI fp), .int (nI tq), .int (nI nq)]))]) [0, 1, 2] rfl
  have hD9 := hD.sub (ws' := [(aR, .inr (1, [.ref aM, .ref aO, .ref aI, .ref aT, .ref aE, .int ff])), (aM, .inl (kM, 384, .inl (nM Mm))), (aQ, .inr (0, [.int (nI rs), .int (nI fp), .int (nI tq), .int (nI nq)]))]) [0, 1, 2] (by decide) rfl
  have e_12 : (nM Mm) = nM (clM Mm rs tq pl pl) := congrArg nM clM_0
  have hP9 : va_P (dC, dI) vwCl [(aR, .inr (1, [.ref aM, .ref aO, .ref aI, .ref aT, .ref aE, .int ff])), (aM, .inl (kM, 384, .inl (nM (clM Mm rs tq pl pl)))), (aQ, .inr (0, [.int (nI rs), .int (nI fp), .int (nI tq), .int (nI nq)]))] H := Eq.mp (congrArg (fun (z1 : Nat → Int32) => va_P (dC, dI) vwCl [(aR, .inr (1, [.ref aM, .ref aO, .ref aI, .ref aT, .ref aE, .int ff])), (aM, .inl (kM, 384, .inl z1)), (aQ, .inr (0, [.int (nI rs), .int (nI fp), .int (nI tq), .int (nI nq)]))] H) e_12) hP9
  have hD9 : va_D A [(aR, .inr (1, [.ref aM, .ref aO, .ref aI, .ref aT, .ref aE, .int ff])), (aM, .inl (kM, 384, .inl (nM (clM Mm rs tq pl pl)))), (aQ, .inr (0, [.int (nI rs), .int (nI fp), .int (nI tq), .int (nI nq)]))] := Eq.mp (congrArg (fun (z1 : Nat → Int32) => va_D A [(aR, .inr (1, [.ref aM, .ref aO, .ref aI, .ref aT, .ref aE, .int ff])), (aM, .inl (kM, 384, .inl z1)), (aQ, .inr (0, [.int (nI rs), .int (nI fp), .int (nI tq), .int (nI nq)]))]) e_12) hD9
  have hl9 : lv_has ls 5 [(0, .ref aR), (1, .ref aQ), (2, .int (nI pl)), (3, .int (nI nq)), (4, .int (nI pl))] := lv_sub hl [2, 3, 4, 1, 0] rfl
  exact loop_2 (nq + 1) pl (by omega) (by omega) (by omega) _ _ _ hP9 hD9 hS hl9
set_option maxHeartbeats 4000000 in
set_option maxRecDepth 100000 in
theorem c_X1_postNext (l : Launch) (dC : Nat → ClassId) (dI : Nat → Nat → Nat) (aR : Nat) (aM : Nat) (aO : Nat) (aI : Nat) (aT : Nat) (aE : Nat) (ff : Int32) (kM : ClassId) (Mm : Nat → Nat) (kO : ClassId) (Ob : Nat → Nat) (aQ : Nat) (rs : Nat) (fp : Nat) (tq : Nat) (nq : Nat) (len : Nat) (sz : Nat) (hht : tq < 8) (hhn : nq ≤ 8) (hhf : fp ≤ 16) (hhrs : rs ≤ 64) (hle : len ≤ 16) : Met l yX1_postNext wsX1_postNext ({ frames := 3, cells := 0, slots := 0, locals := 63 }) (va_Pc [.ref aR, .ref aQ, .int (nI len)] (fun U => U.heap.size = sz ∧ va_P (dC, dI) vwCl [(aR, .inr (1, [.ref aM, .ref aO, .ref aI, .ref aT, .ref aE, .int ff])), (aM, .inl (kM, 384, .inl (nM Mm))), (aO, .inl (kO, 16, .inl (nM Ob))), (aQ, .inr (0, [.int (nI rs), .int (nI fp), .int (nI tq), .int (nI nq)]))] U.heap ∧ va_K (dC, dI) vwCl [(kM, .int), (kO, .int)] U ∧ va_D (fun _ => True) [(aR, .inr (1, [.ref aM, .ref aO, .ref aI, .ref aT, .ref aE, .int ff])), (aM, .inl (kM, 384, .inl (nM Mm))), (aO, .inl (kO, 16, .inl (nM Ob))), (aQ, .inr (0, [.int (nI rs), .int (nI fp), .int (nI tq), .int (nI nq)]))])) (va_Qi (fun (r9 : Int32) (_ : Unit) => r9 = sel (decide (nq < 8)) (nI ((tq + nq) % 8)) (-1)) (fun _ t => va_P (dC, dI) vwCl [(aR, .inr (1, [.ref aM, .ref aO, .ref aI, .ref aT, .ref aE, .int ff])), (aM, .inl (kM, 384, .inl (nM (pnM Mm Ob rs fp tq nq len)))), (aO, .inl (kO, 16, .inl (nM Ob))), (aQ, .inr (0, [.int (nI rs), .int (nI fp), .int (nI tq), .int (nI (selN (decide (nq < 8)) (nq + 1) nq))]))] t.heap ∧ va_K (dC, dI) vwCl [(kM, .int), (kO, .int)] t ∧ va_D (va_A [(aR, .inr (1, [.ref aM, .ref aO, .ref aI, .ref aT, .ref aE, .int ff])), (aM, .inl (kM, 384, .inl (nM Mm))), (aO, .inl (kO, 16, .inl (nM Ob))), (aQ, .inr (0, [.int (nI rs), .int (nI fp), .int (nI tq), .int (nI nq)]))] sz) [(aR, .inr (1, [.ref aM, .ref aO, .ref aI, .ref aT, .ref aE, .int ff])), (aM, .inl (kM, 384, .inl (nM (pnM Mm Ob rs fp tq nq len)))), (aO, .inl (kO, 16, .inl (nM Ob))), (aQ, .inr (0, [.int (nI rs), .int (nI fp), .int (nI tq), .int (nI (selN (decide (nq < 8)) (nq + 1) nq))]))]) (va_A [(aR, .inr (1, [.ref aM, .ref aO, .ref aI, .ref aT, .ref aE, .int ff])), (aM, .inl (kM, 384, .inl (nM Mm))), (aO, .inl (kO, 16, .inl (nM Ob))), (aQ, .inr (0, [.int (nI rs), .int (nI fp), .int (nI tq), .int (nI nq)]))] sz)) 0 0 (va_A [(aR, .inr (1, [.ref aM, .ref aO, .ref aI, .ref aT, .ref aE, .int ff])), (aM, .inl (kM, 384, .inl (nM Mm))), (aO, .inl (kO, 16, .inl (nM Ob))), (aQ, .inr (0, [.int (nI rs), .int (nI fp), .int (nI tq), .int (nI nq)]))] sz) := by
  refine Met.ofW (cc := cX1_postNext) (maxL := 4) (ret := (some .int)) (by decide) rfl ?_
  intro p e s m args below meth c s₁ B hml hv
  obtain ⟨rfl, hsz, hP, hK, hD0⟩ := hv
  have hx := B.exec
  have hb := B.bytes
  have hr := B.returns
  have hts := atoms_spec (ws := wsX1_postNext) B.pre
  have hown : s.vm.findClass RX1 = some m.cls := findClass_of_methodNamed B.named
  have hlocks := B.notSynchronized
  subst hsz
  have hD := hD0.self (sz := s.heap.size)
  generalize hAe : va_A [(aR, .inr (1, [.ref aM, .ref aO, .ref aI, .ref aT, .ref aE, .int ff])), (aM, .inl (kM, 384, .inl (nM Mm))), (aO, .inl (kO, 16, .inl (nM Ob))), (aQ, .inr (0, [.int (nI rs), .int (nI fp), .int (nI tq), .int (nI nq)]))] s.heap.size = A at hD ⊢
  have hA : ∀ q : Nat, s.heap.size ≤ q → A q := fun q h => by rw [← hAe]; exact Or.inr h
  have hS : va_S A s.heap s.heap [] := va_S.rf
  have hP : va_P (dC, dI) vwCl [(aR, .inr (1, [.ref aM, .ref aO, .ref aI, .ref aT, .ref aE, .int ff])), (aM, .inl (kM, 384, .inl (nM Mm))), (aO, .inl (kO, 16, .inl (nM Ob))), (aQ, .inr (0, [.int (nI rs), .int (nI fp), .int (nI tq), .int (nI nq)]))] s.heap := hP
  have hl := lv_entry ([.ref aR, .ref aQ, .int (nI len)]) (n := 4) (Nat.le_of_ble_eq_true rfl)
  rw [lg_entry_eq]
  generalize (lg_sl ([.ref aR, .ref aQ, .int (nI len)]) ++ List.replicate (4 - (lg_sl ([.ref aR, .ref aQ, .int (nI len)])).length) Slot.unset).toArray = ls at hl ⊢
  have hl : lv_has ls 4 [(0, .ref aR), (1, .ref aQ), (2, .int (nI len))] := hl
  refine lv_aload_n hx hb dX1_postNext_0 rfl (lv_at hl 1 rfl) ?_
  have hPc := hP.sub (ws' := [(aQ, .inr (0, [.int (nI rs), .int (nI fp), .int (nI tq), .int (nI nq)]))]) [3] rfl
  have hDc := hD.sub (ws' := [(aQ, .inr (0, [.int (nI rs), .int (nI fp), .int (nI tq), .int (nI nq)]))]) [3] (by decide) rfl
  have hKc := hK.sub (tys' := []) [] rfl
  have hFc := va_free (wc := [(aQ, .inr (0, [.int (nI rs), .int (nI fp), .int (nI tq), .int (nI nq)]))]) hD hS hA [3] rfl
  refine va_calli (va_runV (As := []) (rest := []) ⟨hx, hb, hml, hown, hts⟩ (c_X0_size l dC dI aQ rs fp tq nq s.heap.size ) (cwV 0 hts gX1_postNext_X0_size rfl rfl rfl (by decide +kernel) ⟨Nat.le_of_ble_eq_true rfl, Nat.le_of_ble_eq_true rfl⟩) ⟨fun a U g mk q => by obtain ⟨q0, q1, qP, qK, qD⟩ := q; exact ⟨q0, q1, qP, va_K.moved (u := U) (U := U.calling g mk a) (Vm.Alike.refl U.vm) qK, qD⟩, va_recv hKc hPc (ci := 0) (q0 := 0) rfl rfl, fun U hU hW => ⟨rfl, by rw [hU], by rw [hU]; exact hPc, va_K.moved hW.alike hKc, hDc.weaken (fun _ _ _ _ => trivial)⟩⟩ rfl rfl hl.1 rfl (lv_room (Nat.le_of_ble_eq_true rfl)) dX1_postNext_1 ⟨Nat.le_of_ble_eq_true rfl, Nat.le_of_ble_eq_true rfl⟩) hS (fun q _ h => hFc q h) hFc (fun r_1 u t H1 locs ht hvm hw hB hz1 hk1 hS => ?_)
  obtain ⟨hP1, hK1, hD1⟩ := hB
  rw [ht] at hP1
  have hK1 := va_K.moved hvm.symm hK1
  obtain ⟨hP, hD⟩ := va_join (wr := [(aR, .inr (1, [.ref aM, .ref aO, .ref aI, .ref aT, .ref aE, .int ff])), (aM, .inl (kM, 384, .inl (nM Mm))), (aO, .inl (kO, 16, .inl (nM Ob)))]) (w1 := [(aQ, .inr (0, [.int (nI rs), .int (nI fp), .int (nI tq), .int (nI nq)]))]) hP hD [3] [0, 1, 2] rfl rfl (by decide) (by decide) hk1 hFc hP1 hD1
  have hK := (hK.sub (tys' := [(kM, .int), (kO, .int)]) [0, 1] rfl).app hK1
  generalize H1 = H at hP hS ⊢
  have hP : va_P (dC, dI) vwCl [(aR, .inr (1, [.ref aM, .ref aO, .ref aI, .ref aT, .ref aE, .int ff])), (aM, .inl (kM, 384, .inl (nM Mm))), (aO, .inl (kO, 16, .inl (nM Ob))), (aQ, .inr (0, [.int (nI rs), .int (nI fp), .int (nI tq), .int (nI nq)]))] H := hP
  have hD : va_D A [(aR, .inr (1, [.ref aM, .ref aO, .ref aI, .ref aT, .ref aE, .int ff])), (aM, .inl (kM, 384, .inl (nM Mm))), (aO, .inl (kO, 16, .inl (nM Ob))), (aQ, .inr (0, [.int (nI rs), .int (nI fp), .int (nI tq), .int (nI nq)]))] := hD
  have hK : va_K (dC, dI) vwCl [(kM, .int), (kO, .int)] s := hK
  obtain rfl : r_1 = nI nq := hw
  refine lv_istore_n (lv' := [(3, .int (nI nq)), (0, .ref aR), (1, .ref aQ), (2, .int (nI len))]) hx hb dX1_postNext_4 rfl hl (by decide) rfl (fun ls hl => ?_)
  refine lv_iload_n hx hb dX1_postNext_5 rfl (lv_at hl 0 rfl) ?_
  refine lv_bipush (v := nI 8) hx hb dX1_postNext_6 (by decide +kernel) ?_
  refine lv_icmp_lt (tgt := 13) hx hb dX1_postNext_8 (by decide) (fun c_2 => ?_) (fun c_2 => ?_)
  · have c_2 : nq < 8 := (nI_ltI (a := nq) (b := 8) (by omega) (by omega)).mp c_2
    refine lv_aload_n hx hb dX1_postNext_13 rfl (lv_at hl 1 rfl) ?_
    refine lv_aload_n hx hb dX1_postNext_14 rfl (lv_at hl 2 rfl) ?_
    refine lv_iload_n hx hb dX1_postNext_15 rfl (lv_at hl 0 rfl) ?_
    have hPc := hP.sub (ws' := [(aQ, .inr (0, [.int (nI rs), .int (nI fp), .int (nI tq), .int (nI nq)]))]) [3] rfl
    have hDc := hD.sub (ws' := [(aQ, .inr (0, [.int (nI rs), .int (nI fp), .int (nI tq), .int (nI nq)]))]) [3] (by decide) rfl
    have hKc := hK.sub (tys' := []) [] rfl
    have hFc := va_free (wc := [(aQ, .inr (0, [.int (nI rs), .int (nI fp), .int (nI tq), .int (nI nq)]))]) hD hS hA [3] rfl
    refine va_calli (va_runV (As := [.int (nI nq)]) (rest := [.ref aR]) ⟨hx, hb, hml, hown, hts⟩ (c_X0_bufferAt l dC dI aQ rs fp tq nq nq H.size (by omega) (by omega) (by omega)) (cwV 1 hts gX1_postNext_X0_bufferAt rfl rfl rfl (by decide +kernel) ⟨Nat.le_of_ble_eq_true rfl, Nat.le_of_ble_eq_true rfl⟩) ⟨fun a U g mk q => by obtain ⟨q0, q1, qP, qK, qD⟩ := q; exact ⟨q0, q1, qP, va_K.moved (u := U) (U := U.calling g mk a) (Vm.Alike.refl U.vm) qK, qD⟩, va_recv hKc hPc (ci := 0) (q0 := 0) rfl rfl, fun U hU hW => ⟨rfl, by rw [hU], by rw [hU]; exact hPc, va_K.moved hW.alike hKc, hDc.weaken (fun _ _ _ _ => trivial)⟩⟩ rfl rfl hl.1 rfl (lv_room (Nat.le_of_ble_eq_true rfl)) dX1_postNext_16 ⟨Nat.le_of_ble_eq_true rfl, Nat.le_of_ble_eq_true rfl⟩) hS (fun q _ h => hFc q h) hFc (fun r_3 u t H1 locs ht hvm hw hB hz1 hk1 hS => ?_)
    obtain ⟨hP1, hK1, hD1⟩ := hB
    rw [ht] at hP1
    have hK1 := va_K.moved hvm.symm hK1
    obtain ⟨hP, hD⟩ := va_join (wr := [(aR, .inr (1, [.ref aM, .ref aO, .ref aI, .ref aT, .ref aE, .int ff])), (aM, .inl (kM, 384, .inl (nM Mm))), (aO, .inl (kO, 16, .inl (nM Ob)))]) (w1 := [(aQ, .inr (0, [.int (nI rs), .int (nI fp), .int (nI tq), .int (nI nq)]))]) hP hD [3] [0, 1, 2] rfl rfl (by decide) (by decide) hk1 hFc hP1 hD1
    have hK := (hK.sub (tys' := [(kM, .int), (kO, .int)]) [0, 1] rfl).app hK1
    generalize H1 = H at hP hS ⊢
    have hP : va_P (dC, dI) vwCl [(aR, .inr (1, [.ref aM, .ref aO, .ref aI, .ref aT, .ref aE, .int ff])), (aM, .inl (kM, 384, .inl (nM Mm))), (aO, .inl (kO, 16, .inl (nM Ob))), (aQ, .inr (0, [.int (nI rs), .int (nI fp), .int (nI tq), .int (nI nq)]))] H := hP
    have hD : va_D A [(aR, .inr (1, [.ref aM, .ref aO, .ref aI, .ref aT, .ref aE, .int ff])), (aM, .inl (kM, 384, .inl (nM Mm))), (aO, .inl (kO, 16, .inl (nM Ob))), (aQ, .inr (0, [.int (nI rs), .int (nI fp), .int (nI tq), .int (nI nq)]))] := hD
    have hK : va_K (dC, dI) vwCl [(kM, .int), (kO, .int)] s := hK
    obtain rfl : r_3 = nI (16 * (fp + (tq + nq) % 8)) := hw
    refine lv_iload_n hx hb dX1_postNext_19 rfl (lv_at hl 3 rfl) ?_
    have hPc := hP.sub (ws' := [(aR, .inr (1, [.ref aM, .ref aO, .ref aI, .ref aT, .ref aE, .int ff])), (aM, .inl (kM, 384, .inl (nM Mm))), (aO, .inl (kO, 16, .inl (nM Ob)))]) [0, 1, 2] rfl
    have hDc := hD.sub (ws' := [(aR, .inr (1, [.ref aM, .ref aO, .ref aI, .ref aT, .ref aE, .int ff])), (aM, .inl (kM, 384, .inl (nM Mm))), (aO, .inl (kO, 16, .inl (nM Ob)))]) [0, 1, 2] (by decide) rfl
    have hKc := hK.sub (tys' := [(kM, .int), (kO, .int)]) [0, 1] rfl
    have hFc := va_free (wc := [(aR, .inr (1, [.ref aM, .ref aO, .ref aI, .ref aT, .ref aE, .int ff])), (aM, .inl (kM, 384, .inl (nM Mm))), (aO, .inl (kO, 16, .inl (nM Ob)))]) hD hS hA [0, 1, 2] rfl
    refine va_callv (va_runV (As := [.int (nI (16 * (fp + (tq + nq) % 8))), .int (nI len)]) (rest := []) ⟨hx, hb, hml, hown, hts⟩ (c_X1_fillBuffer l dC dI aR aM aO aI aT aE ff kM Mm kO Ob (16 * (fp + (tq + nq) % 8)) len H.size (by omega) (by omega)) (cwV 2 hts gX1_postNext_X1_fillBuffer rfl rfl rfl (by decide +kernel) ⟨Nat.le_of_ble_eq_true rfl, Nat.le_of_ble_eq_true rfl⟩) ⟨fun a U g mk q => by obtain ⟨q0, q1, qP, qK, qD⟩ := q; exact ⟨q0, q1, qP, va_K.moved (u := U) (U := U.calling g mk a) (Vm.Alike.refl U.vm) qK, qD⟩, va_recv hKc hPc (ci := 1) (q0 := 0) rfl rfl, fun U hU hW => ⟨rfl, by rw [hU], by rw [hU]; exact hPc, va_K.moved hW.alike hKc, hDc.weaken (fun _ _ _ _ => trivial)⟩⟩ rfl rfl hl.1 rfl (lv_room (Nat.le_of_ble_eq_true rfl)) dX1_postNext_20 ⟨Nat.le_of_ble_eq_true rfl, Nat.le_of_ble_eq_true rfl⟩) hS (fun q _ h => hFc q h) hFc (fun u t H1 locs ht hvm hw hB hz1 hk1 hS => ?_)
    obtain ⟨hP1, hK1, hD1⟩ := hB
    rw [ht] at hP1
    have hK1 := va_K.moved hvm.symm hK1
    obtain ⟨hP, hD⟩ := va_join (wr := [(aQ, .inr (0, [.int (nI rs), .int (nI fp), .int (nI tq), .int (nI nq)]))]) (w1 := [(aR, .inr (1, [.ref aM, .ref aO, .ref aI, .ref aT, .ref aE, .int ff])), (aM, .inl (kM, 384, .inl (nM (fbI Mm Ob (16 * (fp + (tq + nq) % 8)) len 16)))), (aO, .inl (kO, 16, .inl (nM Ob)))]) hP hD [0, 1, 2] [3] rfl rfl (by decide) (by decide) hk1 hFc hP1 hD1
    have hK := (hK.sub (tys' := []) [] rfl).app hK1
    generalize H1 = H at hP hS ⊢
    have hP : va_P (dC, dI) vwCl [(aQ, .inr (0, [.int (nI rs), .int (nI fp), .int (nI tq), .int (nI nq)])), (aR, .inr (1, [.ref aM, .ref aO, .ref aI, .ref aT, .ref aE, .int ff])), (aM, .inl (kM, 384, .inl (nM (fbI Mm Ob (16 * (fp + (tq + nq) % 8)) len 16)))), (aO, .inl (kO, 16, .inl (nM Ob)))] H := hP
    have hD : va_D A [(aQ, .inr (0, [.int (nI rs), .int (nI fp), .int (nI tq), .int (nI nq)])), (aR, .inr (1, [.ref aM, .ref aO, .ref aI, .ref aT, .ref aE, .int ff])), (aM, .inl (kM, 384, .inl (nM (fbI Mm Ob (16 * (fp + (tq + nq) % 8)) len 16)))), (aO, .inl (kO, 16, .inl (nM Ob)))] := hD
    have hK : va_K (dC, dI) vwCl [(kM, .int), (kO, .int)] s := hK
    refine lv_aload_n hx hb dX1_postNext_23 rfl (lv_at hl 1 rfl) ?_
    refine lv_aload_n hx hb dX1_postNext_24 rfl (lv_at hl 2 rfl) ?_
    refine lv_iload_n hx hb dX1_postNext_25 rfl (lv_at hl 0 rfl) ?_
    have hPc := hP.sub (ws' := [(aQ, .inr (0, [.int (nI rs), .int (nI fp), .int (nI tq), .int (nI nq)]))]) [0] rfl
    have hDc := hD.sub (ws' := [(aQ, .inr (0, [.int (nI rs), .int (nI fp), .int (nI tq), .int (nI nq)]))]) [0] (by decide) rfl
    have hKc := hK.sub (tys' := []) [] rfl
    have hFc := va_free (wc := [(aQ, .inr (0, [.int (nI rs), .int (nI fp), .int (nI tq), .int (nI nq)]))]) hD hS hA [0] rfl
    refine va_calli (va_runV (As := [.int (nI nq)]) (rest := [.ref aR]) ⟨hx, hb, hml, hown, hts⟩ (c_X0_descriptorAt l dC dI aQ rs fp tq nq nq H.size (by omega) (by omega) (by omega)) (cwV 1 hts gX1_postNext_X0_descriptorAt rfl rfl rfl (by decide +kernel) ⟨Nat.le_of_ble_eq_true rfl, Nat.le_of_ble_eq_true rfl⟩) ⟨fun a U g mk q => by obtain ⟨q0, q1, qP, qK, qD⟩ := q; exact ⟨q0, q1, qP, va_K.moved (u := U) (U := U.calling g mk a) (Vm.Alike.refl U.vm) qK, qD⟩, va_recv hKc hPc (ci := 0) (q0 := 0) rfl rfl, fun U hU hW => ⟨rfl, by rw [hU], by rw [hU]; exact hPc, va_K.moved hW.alike hKc, hDc.weaken (fun _ _ _ _ => trivial)⟩⟩ rfl rfl hl.1 rfl (lv_room (Nat.le_of_ble_eq_true rfl)) dX1_postNext_26 ⟨Nat.le_of_ble_eq_true rfl, Nat.le_of_ble_eq_true rfl⟩) hS (fun q _ h => hFc q h) hFc (fun r_5 u t H1 locs ht hvm hw hB hz1 hk1 hS => ?_)
    obtain ⟨hP1, hK1, hD1⟩ := hB
    rw [ht] at hP1
    have hK1 := va_K.moved hvm.symm hK1
    obtain ⟨hP, hD⟩ := va_join (wr := [(aR, .inr (1, [.ref aM, .ref aO, .ref aI, .ref aT, .ref aE, .int ff])), (aM, .inl (kM, 384, .inl (nM (fbI Mm Ob (16 * (fp + (tq + nq) % 8)) len 16)))), (aO, .inl (kO, 16, .inl (nM Ob)))]) (w1 := [(aQ, .inr (0, [.int (nI rs), .int (nI fp), .int (nI tq), .int (nI nq)]))]) hP hD [0] [1, 2, 3] rfl rfl (by decide) (by decide) hk1 hFc hP1 hD1
    have hK := (hK.sub (tys' := [(kM, .int), (kO, .int)]) [0, 1] rfl).app hK1
    generalize H1 = H at hP hS ⊢
    have hP : va_P (dC, dI) vwCl [(aR, .inr (1, [.ref aM, .ref aO, .ref aI, .ref aT, .ref aE, .int ff])), (aM, .inl (kM, 384, .inl (nM (fbI Mm Ob (16 * (fp + (tq + nq) % 8)) len 16)))), (aO, .inl (kO, 16, .inl (nM Ob))), (aQ, .inr (0, [.int (nI rs), .int (nI fp), .int (nI tq), .int (nI nq)]))] H := hP
    have hD : va_D A [(aR, .inr (1, [.ref aM, .ref aO, .ref aI, .ref aT, .ref aE, .int ff])), (aM, .inl (kM, 384, .inl (nM (fbI Mm Ob (16 * (fp + (tq + nq) % 8)) len 16)))), (aO, .inl (kO, 16, .inl (nM Ob))), (aQ, .inr (0, [.int (nI rs), .int (nI fp), .int (nI tq), .int (nI nq)]))] := hD
    have hK : va_K (dC, dI) vwCl [(kM, .int), (kO, .int)] s := hK
    obtain rfl : r_5 = nI (rs + 8 * ((tq + nq) % 8)) := hw
    refine lv_aload_n hx hb dX1_postNext_29 rfl (lv_at hl 2 rfl) ?_
    refine lv_iload_n hx hb dX1_postNext_30 rfl (lv_at hl 0 rfl) ?_
    have hPc := hP.sub (ws' := [(aQ, .inr (0, [.int (nI rs), .int (nI fp), .int (nI tq), .int (nI nq)]))]) [3] rfl
    have hDc := hD.sub (ws' := [(aQ, .inr (0, [.int (nI rs), .int (nI fp), .int (nI tq), .int (nI nq)]))]) [3] (by decide) rfl
    have hKc := hK.sub (tys' := []) [] rfl
    have hFc := va_free (wc := [(aQ, .inr (0, [.int (nI rs), .int (nI fp), .int (nI tq), .int (nI nq)]))]) hD hS hA [3] rfl
    refine va_calli (va_runV (As := [.int (nI nq)]) (rest := [.int (nI (rs + 8 * ((tq + nq) % 8))), .ref aR]) ⟨hx, hb, hml, hown, hts⟩ (c_X0_pageAt l dC dI aQ rs fp tq nq nq H.size (by omega) (by omega) (by omega)) (cwV 1 hts gX1_postNext_X0_pageAt rfl rfl rfl (by decide +kernel) ⟨Nat.le_of_ble_eq_true rfl, Nat.le_of_ble_eq_true rfl⟩) ⟨fun a U g mk q => by obtain ⟨q0, q1, qP, qK, qD⟩ := q; exact ⟨q0, q1, qP, va_K.moved (u := U) (U := U.calling g mk a) (Vm.Alike.refl U.vm) qK, qD⟩, va_recv hKc hPc (ci := 0) (q0 := 0) rfl rfl, fun U hU hW => ⟨rfl, by rw [hU], by rw [hU]; exact hPc, va_K.moved hW.alike hKc, hDc.weaken (fun _ _ _ _ => trivial)⟩⟩ rfl rfl hl.1 rfl (lv_room (Nat.le_of_ble_eq_true rfl)) dX1_postNext_31 ⟨Nat.le_of_ble_eq_true rfl, Nat.le_of_ble_eq_true rfl⟩) hS (fun q _ h => hFc q h) hFc (fun r_6 u t H1 locs ht hvm hw hB hz1 hk1 hS => ?_)
    obtain ⟨hP1, hK1, hD1⟩ := hB
    rw [ht] at hP1
    have hK1 := va_K.moved hvm.symm hK1
    obtain ⟨hP, hD⟩ := va_join (wr := [(aR, .inr (1, [.ref aM, .ref aO, .ref aI, .ref aT, .ref aE, .int ff])), (aM, .inl (kM, 384, .inl (nM (fbI Mm Ob (16 * (fp + (tq + nq) % 8)) len 16)))), (aO, .inl (kO, 16, .inl (nM Ob)))]) (w1 := [(aQ, .inr (0, [.int (nI rs), .int (nI fp), .int (nI tq), .int (nI nq)]))]) hP hD [3] [0, 1, 2] rfl rfl (by decide) (by decide) hk1 hFc hP1 hD1
    have hK := (hK.sub (tys' := [(kM, .int), (kO, .int)]) [0, 1] rfl).app hK1
    generalize H1 = H at hP hS ⊢
    have hP : va_P (dC, dI) vwCl [(aR, .inr (1, [.ref aM, .ref aO, .ref aI, .ref aT, .ref aE, .int ff])), (aM, .inl (kM, 384, .inl (nM (fbI Mm Ob (16 * (fp + (tq + nq) % 8)) len 16)))), (aO, .inl (kO, 16, .inl (nM Ob))), (aQ, .inr (0, [.int (nI rs), .int (nI fp), .int (nI tq), .int (nI nq)]))] H := hP
    have hD : va_D A [(aR, .inr (1, [.ref aM, .ref aO, .ref aI, .ref aT, .ref aE, .int ff])), (aM, .inl (kM, 384, .inl (nM (fbI Mm Ob (16 * (fp + (tq + nq) % 8)) len 16)))), (aO, .inl (kO, 16, .inl (nM Ob))), (aQ, .inr (0, [.int (nI rs), .int (nI fp), .int (nI tq), .int (nI nq)]))] := hD
    have hK : va_K (dC, dI) vwCl [(kM, .int), (kO, .int)] s := hK
    obtain rfl : r_6 = nI (fp + (tq + nq) % 8) := hw
    refine lv_iload_n hx hb dX1_postNext_34 rfl (lv_at hl 3 rfl) ?_
    have hPc := hP.sub (ws' := [(aR, .inr (1, [.ref aM, .ref aO, .ref aI, .ref aT, .ref aE, .int ff])), (aM, .inl (kM, 384, .inl (nM (fbI Mm Ob (16 * (fp + (tq + nq) % 8)) len 16))))]) [0, 1] rfl
    have hDc := hD.sub (ws' := [(aR, .inr (1, [.ref aM, .ref aO, .ref aI, .ref aT, .ref aE, .int ff])), (aM, .inl (kM, 384, .inl (nM (fbI Mm Ob (16 * (fp + (tq + nq) % 8)) len 16))))]) [0, 1] (by decide) rfl
    have hKc := hK.sub (tys' := [(kM, .int)]) [0] rfl
    have hFc := va_free (wc := [(aR, .inr (1, [.ref aM, .ref aO, .ref aI, .ref aT, .ref aE, .int ff])), (aM, .inl (kM, 384, .inl (nM (fbI Mm Ob (16 * (fp + (tq + nq) % 8)) len 16))))]) hD hS hA [0, 1] rfl
    refine va_callv (va_runV (As := [.int (nI (rs + 8 * ((tq + nq) % 8))), .int (nI (fp + (tq + nq) % 8)), .int (nI len)]) (rest := []) ⟨hx, hb, hml, hown, hts⟩ (c_X1_fillDescriptor l dC dI aR aM aO aI aT aE ff kM (fbI Mm Ob (16 * (fp + (tq + nq) % 8)) len 16) (rs + 8 * ((tq + nq) % 8)) (fp + (tq + nq) % 8) len H.size (by omega)) (cwV 3 hts gX1_postNext_X1_fillDescriptor rfl rfl rfl (by decide +kernel) ⟨Nat.le_of_ble_eq_true rfl, Nat.le_of_ble_eq_true rfl⟩) ⟨fun a U g mk q => by obtain ⟨q0, q1, qP, qK, qD⟩ := q; exact ⟨q0, q1, qP, va_K.moved (u := U) (U := U.calling g mk a) (Vm.Alike.refl U.vm) qK, qD⟩, va_recv hKc hPc (ci := 1) (q0 := 0) rfl rfl, fun U hU hW => ⟨rfl, by rw [hU], by rw [hU]; exact hPc, va_K.moved hW.alike hKc, hDc.weaken (fun _ _ _ _ => trivial)⟩⟩ rfl rfl hl.1 rfl (lv_room (Nat.le_of_ble_eq_true rfl)) dX1_postNext_35 ⟨Nat.le_of_ble_eq_true rfl, Nat.le_of_ble_eq_true rfl⟩) hS (fun q _ h => hFc q h) hFc (fun u t H1 locs ht hvm hw hB hz1 hk1 hS => ?_)
    obtain ⟨hP1, hK1, hD1⟩ := hB
    rw [ht] at hP1
    have hK1 := va_K.moved hvm.symm hK1
    obtain ⟨hP, hD⟩ := va_join (wr := [(aO, .inl (kO, 16, .inl (nM Ob))), (aQ, .inr (0, [.int (nI rs), .int (nI fp), .int (nI tq), .int (nI nq)]))]) (w1 := [(aR, .inr (1, [.ref aM, .ref aO, .ref aI, .ref aT, .ref aE, .int ff])), (aM, .inl (kM, 384, .inl (nM (fdI (fbI Mm Ob (16 * (fp + (tq + nq) % 8)) len 16) (rs + 8 * ((tq + nq) % 8)) (fp + (tq + nq) % 8) len 8))))]) hP hD [0, 1] [2, 3] rfl rfl (by decide) (by decide) hk1 hFc hP1 hD1
    have hK := (hK.sub (tys' := [(kO, .int)]) [1] rfl).app hK1
    generalize H1 = H at hP hS ⊢
    have hP : va_P (dC, dI) vwCl [(aO, .inl (kO, 16, .inl (nM Ob))), (aQ, .inr (0, [.int (nI rs), .int (nI fp), .int (nI tq), .int (nI nq)])), (aR, .inr (1, [.ref aM, .ref aO, .ref aI, .ref aT, .ref aE, .int ff])), (aM, .inl (kM, 384, .inl (nM (fdI (fbI Mm Ob (16 * (fp + (tq + nq) % 8)) len 16) (rs + 8 * ((tq + nq) % 8)) (fp + (tq + nq) % 8) len 8))))] H := hP
    have hD : va_D A [(aO, .inl (kO, 16, .inl (nM Ob))), (aQ, .inr (0, [.int (nI rs), .int (nI fp), .int (nI tq), .int (nI nq)])), (aR, .inr (1, [.ref aM, .ref aO, .ref aI, .ref aT, .ref aE, .int ff])), (aM, .inl (kM, 384, .inl (nM (fdI (fbI Mm Ob (16 * (fp + (tq + nq) % 8)) len 16) (rs + 8 * ((tq + nq) % 8)) (fp + (tq + nq) % 8) len 8))))] := hD
    have hK : va_K (dC, dI) vwCl [(kO, .int), (kM, .int)] s := hK
    refine lv_aload_n hx hb dX1_postNext_38 rfl (lv_at hl 2 rfl) ?_
    have hPc := hP.sub (ws' := [(aQ, .inr (0, [.int (nI rs), .int (nI fp), .int (nI tq), .int (nI nq)]))]) [1] rfl
    have hDc := hD.sub (ws' := [(aQ, .inr (0, [.int (nI rs), .int (nI fp), .int (nI tq), .int (nI nq)]))]) [1] (by decide) rfl
    have hKc := hK.sub (tys' := []) [] rfl
    have hFc := va_free (wc := [(aQ, .inr (0, [.int (nI rs), .int (nI fp), .int (nI tq), .int (nI nq)]))]) hD hS hA [1] rfl
    refine va_callv (va_runV (As := []) (rest := []) ⟨hx, hb, hml, hown, hts⟩ (c_X0_addNext l dC dI aQ rs fp tq nq H.size (by omega)) (cwV 0 hts gX1_postNext_X0_addNext rfl rfl rfl (by decide +kernel) ⟨Nat.le_of_ble_eq_true rfl, Nat.le_of_ble_eq_true rfl⟩) ⟨fun a U g mk q => by obtain ⟨q0, q1, qP, qK, qD⟩ := q; exact ⟨q0, q1, qP, va_K.moved (u := U) (U := U.calling g mk a) (Vm.Alike.refl U.vm) qK, qD⟩, va_recv hKc hPc (ci := 0) (q0 := 0) rfl rfl, fun U hU hW => ⟨rfl, by rw [hU], by rw [hU]; exact hPc, va_K.moved hW.alike hKc, hDc.weaken (fun _ _ _ _ => trivial)⟩⟩ rfl rfl hl.1 rfl (lv_room (Nat.le_of_ble_eq_true rfl)) dX1_postNext_39 ⟨Nat.le_of_ble_eq_true rfl, Nat.le_of_ble_eq_true rfl⟩) hS (fun q _ h => hFc q h) hFc (fun u t H1 locs ht hvm hw hB hz1 hk1 hS => ?_)
    obtain ⟨hP1, hK1, hD1⟩ := hB
    rw [ht] at hP1
    have hK1 := va_K.moved hvm.symm hK1
    obtain ⟨hP, hD⟩ := va_join (wr := [(aO, .inl (kO, 16, .inl (nM Ob))), (aR, .inr (1, [.ref aM, .ref aO, .ref aI, .ref aT, .ref aE, .int ff])), (aM, .inl (kM, 384, .inl (nM (fdI (fbI Mm Ob (16 * (fp + (tq + nq) % 8)) len 16) (rs + 8 * ((tq + nq) % 8)) (fp + (tq + nq) % 8) len 8))))]) (w1 := [(aQ, .inr (0, [.int (nI rs), .int (nI fp), .int (nI tq), .int (nI (nq + 1))]))]) hP hD [1] [0, 2, 3] rfl rfl (by decide) (by decide) hk1 hFc hP1 hD1
    have hK := (hK.sub (tys' := [(kO, .int), (kM, .int)]) [0, 1] rfl).app hK1
    generalize H1 = H at hP hS ⊢
    have hP : va_P (dC, dI) vwCl [(aO, .inl (kO, 16, .inl (nM Ob))), (aR, .inr (1, [.ref aM, .ref aO, .ref aI, .ref aT, .ref aE, .int ff])), (aM, .inl (kM, 384, .inl (nM (fdI (fbI Mm Ob (16 * (fp + (tq + nq) % 8)) len 16) (rs + 8 * ((tq + nq) % 8)) (fp + (tq + nq) % 8) len 8)))), (aQ, .inr (0, [.int (nI rs), .int (nI fp), .int (nI tq), .int (nI (nq + 1))]))] H := hP
    have hD : va_D A [(aO, .inl (kO, 16, .inl (nM Ob))), (aR, .inr (1, [.ref aM, .ref aO, .ref aI, .ref aT, .ref aE, .int ff])), (aM, .inl (kM, 384, .inl (nM (fdI (fbI Mm Ob (16 * (fp + (tq + nq) % 8)) len 16) (rs + 8 * ((tq + nq) % 8)) (fp + (tq + nq) % 8) len 8)))), (aQ, .inr (0, [.int (nI rs), .int (nI fp), .int (nI tq), .int (nI (nq + 1))]))] := hD
    have hK : va_K (dC, dI) vwCl [(kO, .int), (kM, .int)] s := hK
    refine lv_aload_n hx hb dX1_postNext_42 rfl (lv_at hl 2 rfl) ?_
    refine lv_iload_n hx hb dX1_postNext_43 rfl (lv_at hl 0 rfl) ?_
    have hPc := hP.sub (ws' := [(aQ, .inr (0, [.int (nI rs), .int (nI fp), .int (nI tq), .int (nI (nq + 1))]))]) [3] rfl
    have hDc := hD.sub (ws' := [(aQ, .inr (0, [.int (nI rs), .int (nI fp), .int (nI tq), .int (nI (nq + 1))]))]) [3] (by decide) rfl
    have hKc := hK.sub (tys' := []) [] rfl
    have hFc := va_free (wc := [(aQ, .inr (0, [.int (nI rs), .int (nI fp), .int (nI tq), .int (nI (nq + 1))]))]) hD hS hA [3] rfl
    refine va_calli (va_runV (As := [.int (nI nq)]) (rest := []) ⟨hx, hb, hml, hown, hts⟩ (c_X0_slotAt l dC dI aQ rs fp tq (nq + 1) nq H.size (by omega) (by omega)) (cwV 1 hts gX1_postNext_X0_slotAt rfl rfl rfl (by decide +kernel) ⟨Nat.le_of_ble_eq_true rfl, Nat.le_of_ble_eq_true rfl⟩) ⟨fun a U g mk q => by obtain ⟨q0, q1, qP, qK, qD⟩ := q; exact ⟨q0, q1, qP, va_K.moved (u := U) (U := U.calling g mk a) (Vm.Alike.refl U.vm) qK, qD⟩, va_recv hKc hPc (ci := 0) (q0 := 0) rfl rfl, fun U hU hW => ⟨rfl, by rw [hU], by rw [hU]; exact hPc, va_K.moved hW.alike hKc, hDc.weaken (fun _ _ _ _ => trivial)⟩⟩ rfl rfl hl.1 rfl (lv_room (Nat.le_of_ble_eq_true rfl)) dX1_postNext_44 ⟨Nat.le_of_ble_eq_true rfl, Nat.le_of_ble_eq_true rfl⟩) hS (fun q _ h => hFc q h) hFc (fun r_9 u t H1 locs ht hvm hw hB hz1 hk1 hS => ?_)
    obtain ⟨hP1, hK1, hD1⟩ := hB
    rw [ht] at hP1
    have hK1 := va_K.moved hvm.symm hK1
    obtain ⟨hP, hD⟩ := va_join (wr := [(aO, .inl (kO, 16, .inl (nM Ob))), (aR, .inr (1, [.ref aM, .ref aO, .ref aI, .ref aT, .ref aE, .int ff])), (aM, .inl (kM, 384, .inl (nM (fdI (fbI Mm Ob (16 * (fp + (tq + nq) % 8)) len 16) (rs + 8 * ((tq + nq) % 8)) (fp + (tq + nq) % 8) len 8))))]) (w1 := [(aQ, .inr (0, [.int (nI rs), .int (nI fp), .int (nI tq), .int (nI (nq + 1))]))]) hP hD [3] [0, 1, 2] rfl rfl (by decide) (by decide) hk1 hFc hP1 hD1
    have hK := (hK.sub (tys' := [(kO, .int), (kM, .int)]) [0, 1] rfl).app hK1
    generalize H1 = H at hP hS ⊢
    have hP : va_P (dC, dI) vwCl [(aO, .inl (kO, 16, .inl (nM Ob))), (aR, .inr (1, [.ref aM, .ref aO, .ref aI, .ref aT, .ref aE, .int ff])), (aM, .inl (kM, 384, .inl (nM (fdI (fbI Mm Ob (16 * (fp + (tq + nq) % 8)) len 16) (rs + 8 * ((tq + nq) % 8)) (fp + (tq + nq) % 8) len 8)))), (aQ, .inr (0, [.int (nI rs), .int (nI fp), .int (nI tq), .int (nI (nq + 1))]))] H := hP
    have hD : va_D A [(aO, .inl (kO, 16, .inl (nM Ob))), (aR, .inr (1, [.ref aM, .ref aO, .ref aI, .ref aT, .ref aE, .int ff])), (aM, .inl (kM, 384, .inl (nM (fdI (fbI Mm Ob (16 * (fp + (tq + nq) % 8)) len 16) (rs + 8 * ((tq + nq) % 8)) (fp + (tq + nq) % 8) len 8)))), (aQ, .inr (0, [.int (nI rs), .int (nI fp), .int (nI tq), .int (nI (nq + 1))]))] := hD
    have hK : va_K (dC, dI) vwCl [(kO, .int), (kM, .int)] s := hK
    obtain rfl : r_9 = nI ((tq + nq) % 8) := hw
    have hP9 := hP.sub (ws' := [(aR, .inr (1, [.ref aM, .ref aO, .ref aI, .ref aT, .ref aE, .int ff])), (aM, .inl (kM, 384, .inl (nM (fdI (fbI Mm Ob (16 * (fp + (tq + nq) % 8)) len 16) (rs + 8 * ((tq + nq) % 8)) (fp + (tq + nq) % 8) len 8)))), (aO, .inl (kO, 16, .inl (nM Ob))), (aQ, .inr (0, [.int (nI rs), .int (nI fp), .int (nI tq), .int (nI (nq + 1))]))]) [1, 2, 0, 3] rfl
    have hD9 := hD.sub (ws' := [(aR, .inr (1, [.ref aM, .ref aO, .ref aI, .ref aT, .ref aE, .int ff])), (aM, .inl (kM, 384, .inl (nM (fdI (fbI Mm Ob (16 * (fp + (tq + nq) % 8)) len 16) (rs + 8 * ((tq + nq) % 8)) (fp + (tq + nq) % 8) len 8)))), (aO, .inl (kO, 16, .inl (nM Ob))), (aQ, .inr (0, [.int (nI rs), .int (nI fp), .int (nI tq), .int (nI (nq + 1))]))]) [1, 2, 0, 3] (by decide) rfl
    have hK9 := hK.sub (tys' := [(kM, .int), (kO, .int)]) [1, 0] rfl
    have e_10 : (nM (fdI (fbI Mm Ob (16 * (fp + (tq + nq) % 8)) len 16) (rs + 8 * ((tq + nq) % 8)) (fp + (tq + nq) % 8) len 8)) = nM (pnM Mm Ob rs fp tq nq len) := congrArg nM (selM_t (decide_eq_true (by omega)))
    have e_11 : (nI (nq + 1) : Int32) = nI (selN (decide (nq < 8)) (nq + 1) nq) := congrArg nI (selN_t (decide_eq_true (by omega)))
    have hP9 : va_P (dC, dI) vwCl [(aR, .inr (1, [.ref aM, .ref aO, .ref aI, .ref aT, .ref aE, .int ff])), (aM, .inl (kM, 384, .inl (nM (pnM Mm Ob rs fp tq nq len)))), (aO, .inl (kO, 16, .inl (nM Ob))), (aQ, .inr (0, [.int (nI rs), .int (nI fp), .int (nI tq), .int (nI (nq + 1))]))] H := Eq.mp (congrArg (fun (z1 : Nat → Int32) => va_P (dC, dI) vwCl [(aR, .inr (1, [.ref aM, .ref aO, .ref aI, .ref aT, .ref aE, .int ff])), (aM, .inl (kM, 384, .inl z1)), (aO, .inl (kO, 16, .inl (nM Ob))), (aQ, .inr (0, [.int (nI rs), .int (nI fp), .int (nI tq), .int (nI (nq + 1))]))] H) e_10) hP9
    have hD9 : va_D A [(aR, .inr (1, [.ref aM, .ref aO, .ref aI, .ref aT, .ref aE, .int ff])), (aM, .inl (kM, 384, .inl (nM (pnM Mm Ob rs fp tq nq len)))), (aO, .inl (kO, 16, .inl (nM Ob))), (aQ, .inr (0, [.int (nI rs), .int (nI fp), .int (nI tq), .int (nI (nq + 1))]))] := Eq.mp (congrArg (fun (z1 : Nat → Int32) => va_D A [(aR, .inr (1, [.ref aM, .ref aO, .ref aI, .ref aT, .ref aE, .int ff])), (aM, .inl (kM, 384, .inl z1)), (aO, .inl (kO, 16, .inl (nM Ob))), (aQ, .inr (0, [.int (nI rs), .int (nI fp), .int (nI tq), .int (nI (nq + 1))]))]) e_10) hD9
    have hP9 : va_P (dC, dI) vwCl [(aR, .inr (1, [.ref aM, .ref aO, .ref aI, .ref aT, .ref aE, .int ff])), (aM, .inl (kM, 384, .inl (nM (pnM Mm Ob rs fp tq nq len)))), (aO, .inl (kO, 16, .inl (nM Ob))), (aQ, .inr (0, [.int (nI rs), .int (nI fp), .int (nI tq), .int (nI (selN (decide (nq < 8)) (nq + 1) nq))]))] H := Eq.mp (congrArg (fun (z1 : Int32) => va_P (dC, dI) vwCl [(aR, .inr (1, [.ref aM, .ref aO, .ref aI, .ref aT, .ref aE, .int ff])), (aM, .inl (kM, 384, .inl (nM (pnM Mm Ob rs fp tq nq len)))), (aO, .inl (kO, 16, .inl (nM Ob))), (aQ, .inr (0, [.int (nI rs), .int (nI fp), .int (nI tq), .int z1]))] H) e_11) hP9
    have hD9 : va_D A [(aR, .inr (1, [.ref aM, .ref aO, .ref aI, .ref aT, .ref aE, .int ff])), (aM, .inl (kM, 384, .inl (nM (pnM Mm Ob rs fp tq nq len)))), (aO, .inl (kO, 16, .inl (nM Ob))), (aQ, .inr (0, [.int (nI rs), .int (nI fp), .int (nI tq), .int (nI (selN (decide (nq < 8)) (nq + 1) nq))]))] := Eq.mp (congrArg (fun (z1 : Int32) => va_D A [(aR, .inr (1, [.ref aM, .ref aO, .ref aI, .ref aT, .ref aE, .int ff])), (aM, .inl (kM, 384, .inl (nM (pnM Mm Ob rs fp tq nq len)))), (aO, .inl (kO, 16, .inl (nM Ob))), (aQ, .inr (0, [.int (nI rs), .int (nI fp), .int (nI tq), .int z1]))]) e_11) hD9
    have e_12 : (nI ((tq + nq) % 8) : Int32) = sel (decide (nq < 8)) (nI ((tq + nq) % 8)) (-1) := sel_t (decide_eq_true (by omega))
    exact W.iret (v := nI ((tq + nq) % 8)) hx hb hr (fun t ht hW => ⟨⟨_, (), rfl, e_12, by rw [ht]; exact hP9, va_K.moved hW.alike hK9, hD9⟩, hS.F ht⟩) hS.2.2 dX1_postNext_47
  · have c_2 : ¬ (nq < 8) := fun h9 => c_2 ((nI_ltI (a := nq) (b := 8) (by omega) (by omega)).mpr h9)
    refine lv_iconst (v := (-1)) hx hb dX1_postNext_11 (by decide +kernel) ?_
    have hP9 := hP.sub (ws' := [(aR, .inr (1, [.ref aM, .ref aO, .ref aI, .ref aT, .ref aE, .int ff])), (aM, .inl (kM, 384, .inl (nM Mm))), (aO, .inl (kO, 16, .inl (nM Ob))), (aQ, .inr (0, [.int (nI rs), .int (nI fp), .int (nI tq), .int (nI nq)]))]) [0, 1, 2, 3] rfl
    have hD9 := hD.sub (ws' := [(aR, .inr (1, [.ref aM, .ref aO, .ref aI, .ref aT, .ref aE, .int ff])), (aM, .inl (kM, 384, .inl (nM Mm))), (aO, .inl (kO, 16, .inl (nM Ob))), (aQ, .inr (0, [.int (nI rs), .int (nI fp), .int (nI tq), .int (nI nq)]))]) [0, 1, 2, 3] (by decide) rfl
    have hK9 := hK.sub (tys' := [(kM, .int), (kO, .int)]) [0, 1] rfl
    have e_13 : (nM Mm) = nM (pnM Mm Ob rs fp tq nq len) := congrArg nM (selM_f (decide_eq_false (by omega)))
    have e_14 : (nI nq : Int32) = nI (selN (decide (nq < 8)) (nq + 1) nq) := congrArg nI (selN_f (decide_eq_false (by omega)))
    have hP9 : va_P (dC, dI) vwCl [(aR, .inr (1, [.ref aM, .ref aO, .ref aI, .ref aT, .ref aE, .int ff])), (aM, .inl (kM, 384, .inl (nM (pnM Mm Ob rs fp tq nq len)))), (aO, .inl (kO, 16, .inl (nM Ob))), (aQ, .inr (0, [.int (nI rs), .int (nI fp), .int (nI tq), .int (nI nq)]))] H := Eq.mp (congrArg (fun (z1 : Nat → Int32) => va_P (dC, dI) vwCl [(aR, .inr (1, [.ref aM, .ref aO, .ref aI, .ref aT, .ref aE, .int ff])), (aM, .inl (kM, 384, .inl z1)), (aO, .inl (kO, 16, .inl (nM Ob))), (aQ, .inr (0, [.int (nI rs), .int (nI fp), .int (nI tq), .int (nI nq)]))] H) e_13) hP9
    have hD9 : va_D A [(aR, .inr (1, [.ref aM, .ref aO, .ref aI, .ref aT, .ref aE, .int ff])), (aM, .inl (kM, 384, .inl (nM (pnM Mm Ob rs fp tq nq len)))), (aO, .inl (kO, 16, .inl (nM Ob))), (aQ, .inr (0, [.int (nI rs), .int (nI fp), .int (nI tq), .int (nI nq)]))] := Eq.mp (congrArg (fun (z1 : Nat → Int32) => va_D A [(aR, .inr (1, [.ref aM, .ref aO, .ref aI, .ref aT, .ref aE, .int ff])), (aM, .inl (kM, 384, .inl z1)), (aO, .inl (kO, 16, .inl (nM Ob))), (aQ, .inr (0, [.int (nI rs), .int (nI fp), .int (nI tq), .int (nI nq)]))]) e_13) hD9
    have hP9 : va_P (dC, dI) vwCl [(aR, .inr (1, [.ref aM, .ref aO, .ref aI, .ref aT, .ref aE, .int ff])), (aM, .inl (kM, 384, .inl (nM (pnM Mm Ob rs fp tq nq len)))), (aO, .inl (kO, 16, .inl (nM Ob))), (aQ, .inr (0, [.int (nI rs), .int (nI fp), .int (nI tq), .int (nI (selN (decide (nq < 8)) (nq + 1) nq))]))] H := Eq.mp (congrArg (fun (z1 : Int32) => va_P (dC, dI) vwCl [(aR, .inr (1, [.ref aM, .ref aO, .ref aI, .ref aT, .ref aE, .int ff])), (aM, .inl (kM, 384, .inl (nM (pnM Mm Ob rs fp tq nq len)))), (aO, .inl (kO, 16, .inl (nM Ob))), (aQ, .inr (0, [.int (nI rs), .int (nI fp), .int (nI tq), .int z1]))] H) e_14) hP9
    have hD9 : va_D A [(aR, .inr (1, [.ref aM, .ref aO, .ref aI, .ref aT, .ref aE, .int ff])), (aM, .inl (kM, 384, .inl (nM (pnM Mm Ob rs fp tq nq len)))), (aO, .inl (kO, 16, .inl (nM Ob))), (aQ, .inr (0, [.int (nI rs), .int (nI fp), .int (nI tq), .int (nI (selN (decide (nq < 8)) (nq + 1) nq))]))] := Eq.mp (congrArg (fun (z1 : Int32) => va_D A [(aR, .inr (1, [.ref aM, .ref aO, .ref aI, .ref aT, .ref aE, .int ff])), (aM, .inl (kM, 384, .inl (nM (pnM Mm Ob rs fp tq nq len)))), (aO, .inl (kO, 16, .inl (nM Ob))), (aQ, .inr (0, [.int (nI rs), .int (nI fp), .int (nI tq), .int z1]))]) e_14) hD9
    have e_15 : ((-1) : Int32) = sel (decide (nq < 8)) (nI ((tq + nq) % 8)) (-1) := sel_f (decide_eq_false (by omega))
    exact W.iret (v := (-1)) hx hb hr (fun t ht hW => ⟨⟨_, (), rfl, e_15, by rw [ht]; exact hP9, va_K.moved hW.alike hK9, hD9⟩, hS.F ht⟩) hS.2.2 dX1_postNext_12
end
section
set_option maxHeartbeats 4000000 in
set_option maxRecDepth 100000 in
theorem c_X1_deviceRead (l : Launch) (dC : Nat → ClassId) (dI : Nat → Nat → Nat) (aR : Nat) (aM : Nat) (aO : Nat) (aI : Nat) (aT : Nat) (aE : Nat) (kM : ClassId) (kO : ClassId) (kI : ClassId) (Mm : Nat → Nat) (Ob : Nat → Nat) (Ib : Nat → Nat) (tx : Nat) (nx : Nat) (rx : Nat) (mx : Nat) (ff : Int32) (p0 : Int32) (a : Nat) (sz : Nat) (htx : tx < 8) (hnx : nx ≤ 8) (hrx : rx < 8) (hmx : mx ≤ 8) (hM : ∀ j, Mm j < 256) (ha : IX p0 384 a) : Met l yX1_deviceRead wsX1_deviceRead ({ frames := 2, cells := 0, slots := 0, locals := 43 }) (va_Pc [.ref aR, .int p0] (fun U => U.heap.size = sz ∧ va_P (dC, dI) vwCl [(aR, .inr (1, [.ref aM, .ref aO, .ref aI, .ref aT, .ref aE, .int ff])), (aM, .inl (kM, 384, .inl (nM Mm))), (aO, .inl (kO, 16, .inl (nM Ob))), (aI, .inl (kI, 16, .inl (nM Ib))), (aT, .inr (0, [.int (nI 0), .int (nI 8), .int (nI tx), .int (nI nx)])), (aE, .inr (0, [.int (nI 64), .int (nI 16), .int (nI rx), .int (nI mx)]))] U.heap ∧ va_K (dC, dI) vwCl [(kM, .int), (kO, .int), (kI, .int)] U ∧ va_D (fun _ => True) [(aR, .inr (1, [.ref aM, .ref aO, .ref aI, .ref aT, .ref aE, .int ff])), (aM, .inl (kM, 384, .inl (nM Mm))), (aO, .inl (kO, 16, .inl (nM Ob))), (aI, .inl (kI, 16, .inl (nM Ib))), (aT, .inr (0, [.int (nI 0), .int (nI 8), .int (nI tx), .int (nI nx)])), (aE, .inr (0, [.int (nI 64), .int (nI 16), .int (nI rx), .int (nI mx)]))])) (va_Qi (fun (r9 : Int32) (_ : Unit) => r9 = sel (okA 8 tx nx a) (nI (Mm a)) (-1)) (fun _ t => va_P (dC, dI) vwCl [(aR, .inr (1, [.ref aM, .ref aO, .ref aI, .ref aT, .ref aE, .int (sel (okA 8 tx nx a) ff (ff + nI 1))])), (aM, .inl (kM, 384, .inl (nM Mm))), (aO, .inl (kO, 16, .inl (nM Ob))), (aI, .inl (kI, 16, .inl (nM Ib))), (aT, .inr (0, [.int (nI 0), .int (nI 8), .int (nI tx), .int (nI nx)])), (aE, .inr (0, [.int (nI 64), .int (nI 16), .int (nI rx), .int (nI mx)]))] t.heap ∧ va_K (dC, dI) vwCl [(kM, .int), (kO, .int), (kI, .int)] t ∧ va_D (va_A [(aR, .inr (1, [.ref aM, .ref aO, .ref aI, .ref aT, .ref aE, .int ff])), (aM, .inl (kM, 384, .inl (nM Mm))), (aO, .inl (kO, 16, .inl (nM Ob))), (aI, .inl (kI, 16, .inl (nM Ib))), (aT, .inr (0, [.int (nI 0), .int (nI 8), .int (nI tx), .int (nI nx)])), (aE, .inr (0, [.int (nI 64), .int (nI 16), .int (nI rx), .int (nI mx)]))] sz) [(aR, .inr (1, [.ref aM, .ref aO, .ref aI, .ref aT, .ref aE, .int (sel (okA 8 tx nx a) ff (ff + nI 1))])), (aM, .inl (kM, 384, .inl (nM Mm))), (aO, .inl (kO, 16, .inl (nM Ob))), (aI, .inl (kI, 16, .inl (nM Ib))), (aT, .inr (0, [.int (nI 0), .int (nI 8), .int (nI tx), .int (nI nx)])), (aE, .inr (0, [.int (nI 64), .int (nI 16), .int (nI rx), .int (nI mx)]))]) (va_A [(aR, .inr (1, [.ref aM, .ref aO, .ref aI, .ref aT, .ref aE, .int ff])), (aM, .inl (kM, 384, .inl (nM Mm))), (aO, .inl (kO, 16, .inl (nM Ob))), (aI, .inl (kI, 16, .inl (nM Ib))), (aT, .inr (0, [.int (nI 0), .int (nI 8), .int (nI tx), .int (nI nx)])), (aE, .inr (0, [.int (nI 64), .int (nI 16), .int (nI rx), .int (nI mx)]))] sz)) 0 0 (va_A [(aR, .inr (1, [.ref aM, .ref aO, .ref aI, .ref aT, .ref aE, .int ff])), (aM, .inl (kM, 384, .inl (nM Mm))), (aO, .inl (kO, 16, .inl (nM Ob))), (aI, .inl (kI, 16, .inl (nM Ib))), (aT, .inr (0, [.int (nI 0), .int (nI 8), .int (nI tx), .int (nI nx)])), (aE, .inr (0, [.int (nI 64), .int (nI 16), .int (nI rx), .int (nI mx)]))] sz) := by
  refine Met.ofW (cc := cX1_deviceRead) (maxL := 2) (ret := (some .int)) (by decide) rfl ?_
  intro p e s m args below meth c s₁ B hml hv
  obtain ⟨rfl, hsz, hP, hK, hD0⟩ := hv
  have hx := B.exec
  have hb := B.bytes
  have hr := B.returns
  have hts := atoms_spec (ws := wsX1_deviceRead) B.pre
  have hown : s.vm.findClass RX1 = some m.cls := findClass_of_methodNamed B.named
  have hlocks := B.notSynchronized
  have hI1 : ∀ w ∈ u_ws RX1 TX1 6, w ∈ wsX1_deviceRead := by decide +kernel
  subst hsz
  have hD := hD0.self (sz := s.heap.size)
  generalize hAe : va_A [(aR, .inr (1, [.ref aM, .ref aO, .ref aI, .ref aT, .ref aE, .int ff])), (aM, .inl (kM, 384, .inl (nM Mm))), (aO, .inl (kO, 16, .inl (nM Ob))), (aI, .inl (kI, 16, .inl (nM Ib))), (aT, .inr (0, [.int (nI 0), .int (nI 8), .int (nI tx), .int (nI nx)])), (aE, .inr (0, [.int (nI 64), .int (nI 16), .int (nI rx), .int (nI mx)]))] s.heap.size = A at hD ⊢
  have hA : ∀ q : Nat, s.heap.size ≤ q → A q := fun q h => by rw [← hAe]; exact Or.inr h
  have hS : va_S A s.heap s.heap [] := va_S.rf
  have hP : va_P (dC, dI) vwCl [(aR, .inr (1, [.ref aM, .ref aO, .ref aI, .ref aT, .ref aE, .int ff])), (aM, .inl (kM, 384, .inl (nM Mm))), (aO, .inl (kO, 16, .inl (nM Ob))), (aI, .inl (kI, 16, .inl (nM Ib))), (aT, .inr (0, [.int (nI 0), .int (nI 8), .int (nI tx), .int (nI nx)])), (aE, .inr (0, [.int (nI 64), .int (nI 16), .int (nI rx), .int (nI mx)]))] s.heap := hP
  have hl := lv_entry ([.ref aR, .int p0]) (n := 2) (Nat.le_of_ble_eq_true rfl)
  rw [lg_entry_eq]
  generalize (lg_sl ([.ref aR, .int p0]) ++ List.replicate (2 - (lg_sl ([.ref aR, .int p0])).length) Slot.unset).toArray = ls at hl ⊢
  have hl : lv_has ls 2 [(0, .ref aR), (1, .int p0)] := hl
  rcases ha with ⟨hneg, rfl⟩ | ⟨hge, rfl⟩ | ⟨hlt, rfl⟩
  · refine lv_iload_n hx hb dX1_deviceRead_0 rfl (lv_at hl 1 rfl) ?_
    refine lv_if_lt (tgt := 22) hx hb dX1_deviceRead_1 (by decide) (fun c_1 => ?_) (fun c_1 => ?_)
    · refine lv_aload_n hx hb dX1_deviceRead_22 rfl (lv_at hl 0 rfl) ?_
      have hPc := hP.sub (ws' := [(aR, .inr (1, [.ref aM, .ref aO, .ref aI, .ref aT, .ref aE, .int ff]))]) [0] rfl
      have hDc := hD.sub (ws' := [(aR, .inr (1, [.ref aM, .ref aO, .ref aI, .ref aT, .ref aE, .int ff]))]) [0] (by decide) rfl
      have hKc := hK.sub (tys' := []) [] rfl
      have hFc := va_free (wc := [(aR, .inr (1, [.ref aM, .ref aO, .ref aI, .ref aT, .ref aE, .int ff]))]) hD hS hA [0] rfl
      refine va_calli (va_runV (As := []) (rest := []) ⟨hx, hb, hml, hown, hts⟩ (c_X1_fault l dC dI aR aM aO aI aT aE ff s.heap.size ) (cwV 0 hts gX1_deviceRead_X1_fault rfl rfl rfl (by decide +kernel) ⟨Nat.le_of_ble_eq_true rfl, Nat.le_of_ble_eq_true rfl⟩) ⟨fun a U g mk q => by obtain ⟨q0, q1, qP, qK, qD⟩ := q; exact ⟨q0, q1, qP, va_K.moved (u := U) (U := U.calling g mk a) (Vm.Alike.refl U.vm) qK, qD⟩, va_recv hKc hPc (ci := 1) (q0 := 0) rfl rfl, fun U hU hW => ⟨rfl, by rw [hU], by rw [hU]; exact hPc, va_K.moved hW.alike hKc, hDc.weaken (fun _ _ _ _ => trivial)⟩⟩ rfl rfl hl.1 rfl (lv_room (Nat.le_of_ble_eq_true rfl)) dX1_deviceRead_23 ⟨Nat.le_of_ble_eq_true rfl, Nat.le_of_ble_eq_true rfl⟩) hS (fun q _ h => hFc q h) hFc (fun r_2 u t H1 locs ht hvm hw hB hz1 hk1 hS => ?_)
      obtain ⟨hP1, hK1, hD1⟩ := hB
      rw [ht] at hP1
      have hK1 := va_K.moved hvm.symm hK1
      obtain ⟨hP, hD⟩ := va_join (wr := [(aM, .inl (kM, 384, .inl (nM Mm))), (aO, .inl (kO, 16, .inl (nM Ob))), (aI, .inl (kI, 16, .inl (nM Ib))), (aT, .inr (0, [.int (nI 0), .int (nI 8), .int (nI tx), .int (nI nx)])), (aE, .inr (0, [.int (nI 64), .int (nI 16), .int (nI rx), .int (nI mx)]))]) (w1 := [(aR, .inr (1, [.ref aM, .ref aO, .ref aI, .ref aT, .ref aE, .int ((ff + nI 1))]))]) hP hD [0] [1, 2, 3, 4, 5] rfl rfl (by decide) (by decide) hk1 hFc hP1 hD1
      have hK := (hK.sub (tys' := [(kM, .int), (kO, .int), (kI, .int)]) [0, 1, 2] rfl).app hK1
      generalize H1 = H at hP hS ⊢
      have hP : va_P (dC, dI) vwCl [(aM, .inl (kM, 384, .inl (nM Mm))), (aO, .inl (kO, 16, .inl (nM Ob))), (aI, .inl (kI, 16, .inl (nM Ib))), (aT, .inr (0, [.int (nI 0), .int (nI 8), .int (nI tx), .int (nI nx)])), (aE, .inr (0, [.int (nI 64), .int (nI 16), .int (nI rx), .int (nI mx)])), (aR, .inr (1, [.ref aM, .ref aO, .ref aI, .ref aT, .ref aE, .int ((ff + nI 1))]))] H := hP
      have hD : va_D A [(aM, .inl (kM, 384, .inl (nM Mm))), (aO, .inl (kO, 16, .inl (nM Ob))), (aI, .inl (kI, 16, .inl (nM Ib))), (aT, .inr (0, [.int (nI 0), .int (nI 8), .int (nI tx), .int (nI nx)])), (aE, .inr (0, [.int (nI 64), .int (nI 16), .int (nI rx), .int (nI mx)])), (aR, .inr (1, [.ref aM, .ref aO, .ref aI, .ref aT, .ref aE, .int ((ff + nI 1))]))] := hD
      have hK : va_K (dC, dI) vwCl [(kM, .int), (kO, .int), (kI, .int)] s := hK
      obtain rfl : r_2 = (-1) := hw
      have hP9 := hP.sub (ws' := [(aR, .inr (1, [.ref aM, .ref aO, .ref aI, .ref aT, .ref aE, .int ((ff + nI 1))])), (aM, .inl (kM, 384, .inl (nM Mm))), (aO, .inl (kO, 16, .inl (nM Ob))), (aI, .inl (kI, 16, .inl (nM Ib))), (aT, .inr (0, [.int (nI 0), .int (nI 8), .int (nI tx), .int (nI nx)])), (aE, .inr (0, [.int (nI 64), .int (nI 16), .int (nI rx), .int (nI mx)]))]) [5, 0, 1, 2, 3, 4] rfl
      have hD9 := hD.sub (ws' := [(aR, .inr (1, [.ref aM, .ref aO, .ref aI, .ref aT, .ref aE, .int ((ff + nI 1))])), (aM, .inl (kM, 384, .inl (nM Mm))), (aO, .inl (kO, 16, .inl (nM Ob))), (aI, .inl (kI, 16, .inl (nM Ib))), (aT, .inr (0, [.int (nI 0), .int (nI 8), .int (nI tx), .int (nI nx)])), (aE, .inr (0, [.int (nI 64), .int (nI 16), .int (nI rx), .int (nI mx)]))]) [5, 0, 1, 2, 3, 4] (by decide) rfl
      have hK9 := hK.sub (tys' := [(kM, .int), (kO, .int), (kI, .int)]) [0, 1, 2] rfl
      have e_3 : ((ff + nI 1) : Int32) = sel (okA 8 tx nx 384) ff (ff + nI 1) := (by first | exact sel_f okA_out | exact sel_t ((okA_in hlt).trans (by assumption)) | exact sel_f ((okA_in hlt).trans (by assumption)))
      have hP9 : va_P (dC, dI) vwCl [(aR, .inr (1, [.ref aM, .ref aO, .ref aI, .ref aT, .ref aE, .int (sel (okA 8 tx nx 384) ff (ff + nI 1))])), (aM, .inl (kM, 384, .inl (nM Mm))), (aO, .inl (kO, 16, .inl (nM Ob))), (aI, .inl (kI, 16, .inl (nM Ib))), (aT, .inr (0, [.int (nI 0), .int (nI 8), .int (nI tx), .int (nI nx)])), (aE, .inr (0, [.int (nI 64), .int (nI 16), .int (nI rx), .int (nI mx)]))] H := Eq.mp (congrArg (fun (z1 : Int32) => va_P (dC, dI) vwCl [(aR, .inr (1, [.ref aM, .ref aO, .ref aI, .ref aT, .ref aE, .int z1])), (aM, .inl (kM, 384, .inl (nM Mm))), (aO, .inl (kO, 16, .inl (nM Ob))), (aI, .inl (kI, 16, .inl (nM Ib))), (aT, .inr (0, [.int (nI 0), .int (nI 8), .int (nI tx), .int (nI nx)])), (aE, .inr (0, [.int (nI 64), .int (nI 16), .int (nI rx), .int (nI mx)]))] H) e_3) hP9
      have hD9 : va_D A [(aR, .inr (1, [.ref aM, .ref aO, .ref aI, .ref aT, .ref aE, .int (sel (okA 8 tx nx 384) ff (ff + nI 1))])), (aM, .inl (kM, 384, .inl (nM Mm))), (aO, .inl (kO, 16, .inl (nM Ob))), (aI, .inl (kI, 16, .inl (nM Ib))), (aT, .inr (0, [.int (nI 0), .int (nI 8), .int (nI tx), .int (nI nx)])), (aE, .inr (0, [.int (nI 64), .int (nI 16), .int (nI rx), .int (nI mx)]))] := Eq.mp (congrArg (fun (z1 : Int32) => va_D A [(aR, .inr (1, [.ref aM, .ref aO, .ref aI, .ref aT, .ref aE, .int z1])), (aM, .inl (kM, 384, .inl (nM Mm))), (aO, .inl (kO, 16, .inl (nM Ob))), (aI, .inl (kI, 16, .inl (nM Ib))), (aT, .inr (0, [.int (nI 0), .int (nI 8), .int (nI tx), .int (nI nx)])), (aE, .inr (0, [.int (nI 64), .int (nI 16), .int (nI rx), .int (nI mx)]))]) e_3) hD9
      have e_4 : ((-1) : Int32) = sel (okA 8 tx nx 384) (nI (Mm 384)) (-1) := (by first | exact sel_f okA_out | exact sel_t ((okA_in hlt).trans (by assumption)) | exact sel_f ((okA_in hlt).trans (by assumption)))
      exact W.iret (v := (-1)) hx hb hr (fun t ht hW => ⟨⟨_, (), rfl, e_4, by rw [ht]; exact hP9, va_K.moved hW.alike hK9, hD9⟩, hS.F ht⟩) hS.2.2 dX1_deviceRead_26
    · exact absurd hneg c_1
  · refine lv_iload_n hx hb dX1_deviceRead_0 rfl (lv_at hl 1 rfl) ?_
    refine lv_if_lt (tgt := 22) hx hb dX1_deviceRead_1 (by decide) (fun c_5 => ?_) (fun c_5 => ?_)
    · exact absurd c_5 hge.1
    · refine lv_iload_n hx hb dX1_deviceRead_4 rfl (lv_at hl 1 rfl) ?_
      refine lv_sipush (v := nI 384) hx hb dX1_deviceRead_5 (by decide +kernel) ?_
      refine lv_icmp_ge (tgt := 22) hx hb dX1_deviceRead_8 (by decide) (fun c_6 => ?_) (fun c_6 => ?_)
      · refine lv_aload_n hx hb dX1_deviceRead_22 rfl (lv_at hl 0 rfl) ?_
        have hPc := hP.sub (ws' := [(aR, .inr (1, [.ref aM, .ref aO, .ref aI, .ref aT, .ref aE, .int ff]))]) [0] rfl
        have hDc := hD.sub (ws' := [(aR, .inr (1, [.ref aM, .ref aO, .ref aI, .ref aT, .ref aE, .int ff]))]) [0] (by decide) rfl
        have hKc := hK.sub (tys' := []) [] rfl
        have hFc := va_free (wc := [(aR, .inr (1, [.ref aM, .ref aO, .ref aI, .ref aT, .ref aE, .int ff]))]) hD hS hA [0] rfl
        refine va_calli (va_runV (As := []) (rest := []) ⟨hx, hb, hml, hown, hts⟩ (c_X1_fault l dC dI aR aM aO aI aT aE ff s.heap.size ) (cwV 0 hts gX1_deviceRead_X1_fault rfl rfl rfl (by decide +kernel) ⟨Nat.le_of_ble_eq_true rfl, Nat.le_of_ble_eq_true rfl⟩) ⟨fun a U g mk q => by obtain ⟨q0, q1, qP, qK, qD⟩ := q; exact ⟨q0, q1, qP, va_K.moved (u := U) (U := U.calling g mk a) (Vm.Alike.refl U.vm) qK, qD⟩, va_recv hKc hPc (ci := 1) (q0 := 0) rfl rfl, fun U hU hW => ⟨rfl, by rw [hU], by rw [hU]; exact hPc, va_K.moved hW.alike hKc, hDc.weaken (fun _ _ _ _ => trivial)⟩⟩ rfl rfl hl.1 rfl (lv_room (Nat.le_of_ble_eq_true rfl)) dX1_deviceRead_23 ⟨Nat.le_of_ble_eq_true rfl, Nat.le_of_ble_eq_true rfl⟩) hS (fun q _ h => hFc q h) hFc (fun r_7 u t H1 locs ht hvm hw hB hz1 hk1 hS => ?_)
        obtain ⟨hP1, hK1, hD1⟩ := hB
        rw [ht] at hP1
        have hK1 := va_K.moved hvm.symm hK1
        obtain ⟨hP, hD⟩ := va_join (wr := [(aM, .inl (kM, 384, .inl (nM Mm))), (aO, .inl (kO, 16, .inl (nM Ob))), (aI, .inl (kI, 16, .inl (nM Ib))), (aT, .inr (0, [.int (nI 0), .int (nI 8), .int (nI tx), .int (nI nx)])), (aE, .inr (0, [.int (nI 64), .int (nI 16), .int (nI rx), .int (nI mx)]))]) (w1 := [(aR, .inr (1, [.ref aM, .ref aO, .ref aI, .ref aT, .ref aE, .int ((ff + nI 1))]))]) hP hD [0] [1, 2, 3, 4, 5] rfl rfl (by decide) (by decide) hk1 hFc hP1 hD1
        have hK := (hK.sub (tys' := [(kM, .int), (kO, .int), (kI, .int)]) [0, 1, 2] rfl).app hK1
        generalize H1 = H at hP hS ⊢
        have hP : va_P (dC, dI) vwCl [(aM, .inl (kM, 384, .inl (nM Mm))), (aO, .inl (kO, 16, .inl (nM Ob))), (aI, .inl (kI, 16, .inl (nM Ib))), (aT, .inr (0, [.int (nI 0), .int (nI 8), .int (nI tx), .int (nI nx)])), (aE, .inr (0, [.int (nI 64), .int (nI 16), .int (nI rx), .int (nI mx)])), (aR, .inr (1, [.ref aM, .ref aO, .ref aI, .ref aT, .ref aE, .int ((ff + nI 1))]))] H := hP
        have hD : va_D A [(aM, .inl (kM, 384, .inl (nM Mm))), (aO, .inl (kO, 16, .inl (nM Ob))), (aI, .inl (kI, 16, .inl (nM Ib))), (aT, .inr (0, [.int (nI 0), .int (nI 8), .int (nI tx), .int (nI nx)])), (aE, .inr (0, [.int (nI 64), .int (nI 16), .int (nI rx), .int (nI mx)])), (aR, .inr (1, [.ref aM, .ref aO, .ref aI, .ref aT, .ref aE, .int ((ff + nI 1))]))] := hD
        have hK : va_K (dC, dI) vwCl [(kM, .int), (kO, .int), (kI, .int)] s := hK
        obtain rfl : r_7 = (-1) := hw
        have hP9 := hP.sub (ws' := [(aR, .inr (1, [.ref aM, .ref aO, .ref aI, .ref aT, .ref aE, .int ((ff + nI 1))])), (aM, .inl (kM, 384, .inl (nM Mm))), (aO, .inl (kO, 16, .inl (nM Ob))), (aI, .inl (kI, 16, .inl (nM Ib))), (aT, .inr (0, [.int (nI 0), .int (nI 8), .int (nI tx), .int (nI nx)])), (aE, .inr (0, [.int (nI 64), .int (nI 16), .int (nI rx), .int (nI mx)]))]) [5, 0, 1, 2, 3, 4] rfl
        have hD9 := hD.sub (ws' := [(aR, .inr (1, [.ref aM, .ref aO, .ref aI, .ref aT, .ref aE, .int ((ff + nI 1))])), (aM, .inl (kM, 384, .inl (nM Mm))), (aO, .inl (kO, 16, .inl (nM Ob))), (aI, .inl (kI, 16, .inl (nM Ib))), (aT, .inr (0, [.int (nI 0), .int (nI 8), .int (nI tx), .int (nI nx)])), (aE, .inr (0, [.int (nI 64), .int (nI 16), .int (nI rx), .int (nI mx)]))]) [5, 0, 1, 2, 3, 4] (by decide) rfl
        have hK9 := hK.sub (tys' := [(kM, .int), (kO, .int), (kI, .int)]) [0, 1, 2] rfl
        have e_8 : ((ff + nI 1) : Int32) = sel (okA 8 tx nx 384) ff (ff + nI 1) := (by first | exact sel_f okA_out | exact sel_t ((okA_in hlt).trans (by assumption)) | exact sel_f ((okA_in hlt).trans (by assumption)))
        have hP9 : va_P (dC, dI) vwCl [(aR, .inr (1, [.ref aM, .ref aO, .ref aI, .ref aT, .ref aE, .int (sel (okA 8 tx nx 384) ff (ff + nI 1))])), (aM, .inl (kM, 384, .inl (nM Mm))), (aO, .inl (kO, 16, .inl (nM Ob))), (aI, .inl (kI, 16, .inl (nM Ib))), (aT, .inr (0, [.int (nI 0), .int (nI 8), .int (nI tx), .int (nI nx)])), (aE, .inr (0, [.int (nI 64), .int (nI 16), .int (nI rx), .int (nI mx)]))] H := Eq.mp (congrArg (fun (z1 : Int32) => va_P (dC, dI) vwCl [(aR, .inr (1, [.ref aM, .ref aO, .ref aI, .ref aT, .ref aE, .int z1])), (aM, .inl (kM, 384, .inl (nM Mm))), (aO, .inl (kO, 16, .inl (nM Ob))), (aI, .inl (kI, 16, .inl (nM Ib))), (aT, .inr (0, [.int (nI 0), .int (nI 8), .int (nI tx), .int (nI nx)])), (aE, .inr (0, [.int (nI 64), .int (nI 16), .int (nI rx), .int (nI mx)]))] H) e_8) hP9
        have hD9 : va_D A [(aR, .inr (1, [.ref aM, .ref aO, .ref aI, .ref aT, .ref aE, .int (sel (okA 8 tx nx 384) ff (ff + nI 1))])), (aM, .inl (kM, 384, .inl (nM Mm))), (aO, .inl (kO, 16, .inl (nM Ob))), (aI, .inl (kI, 16, .inl (nM Ib))), (aT, .inr (0, [.int (nI 0), .int (nI 8), .int (nI tx), .int (nI nx)])), (aE, .inr (0, [.int (nI 64), .int (nI 16), .int (nI rx), .int (nI mx)]))] := Eq.mp (congrArg (fun (z1 : Int32) => va_D A [(aR, .inr (1, [.ref aM, .ref aO, .ref aI, .ref aT, .ref aE, .int z1])), (aM, .inl (kM, 384, .inl (nM Mm))), (aO, .inl (kO, 16, .inl (nM Ob))), (aI, .inl (kI, 16, .inl (nM Ib))), (aT, .inr (0, [.int (nI 0), .int (nI 8), .int (nI tx), .int (nI nx)])), (aE, .inr (0, [.int (nI 64), .int (nI 16), .int (nI rx), .int (nI mx)]))]) e_8) hD9
        have e_9 : ((-1) : Int32) = sel (okA 8 tx nx 384) (nI (Mm 384)) (-1) := (by first | exact sel_f okA_out | exact sel_t ((okA_in hlt).trans (by assumption)) | exact sel_f ((okA_in hlt).trans (by assumption)))
        exact W.iret (v := (-1)) hx hb hr (fun t ht hW => ⟨⟨_, (), rfl, e_9, by rw [ht]; exact hP9, va_K.moved hW.alike hK9, hD9⟩, hS.F ht⟩) hS.2.2 dX1_deviceRead_26
      · exact absurd hge.2 c_6
  · refine lv_iload_n hx hb dX1_deviceRead_0 rfl (lv_at hl 1 rfl) ?_
    refine lv_if_lt (tgt := 22) hx hb dX1_deviceRead_1 (by decide) (fun c_10 => ?_) (fun c_10 => ?_)
    · exact absurd c_10 (nI_pos (by omega))
    · refine lv_iload_n hx hb dX1_deviceRead_4 rfl (lv_at hl 1 rfl) ?_
      refine lv_sipush (v := nI 384) hx hb dX1_deviceRead_5 (by decide +kernel) ?_
      refine lv_icmp_ge (tgt := 22) hx hb dX1_deviceRead_8 (by decide) (fun c_11 => ?_) (fun c_11 => ?_)
      · have c_11 : 384 ≤ a := (nI_leI (a := 384) (b := a) (by omega) (by omega)).mp c_11
        exact absurd c_11 (by omega)
      · have c_11 : ¬ (384 ≤ a) := fun h9 => c_11 ((nI_leI (a := 384) (b := a) (by omega) (by omega)).mpr h9)
        refine lv_iload_n hx hb dX1_deviceRead_11 rfl (lv_at hl 1 rfl) ?_
        refine lv_aload_n hx hb dX1_deviceRead_12 rfl (lv_at hl 0 rfl) ?_
        refine va_get (D := (dC, dI)) (ci := 1) (v := .ref aT) (C := RX1) (T := TX1) (N := 6) hx hb hts hI1 hown hK hP 0 rfl rfl 3 (by decide) (hts (.fieldLink RX1 24 "RingDriver" "transmitQueue" "LRingDriver$SlotQueue;") (by decide +kernel)) (fun _ h9 => h9) rfl dX1_deviceRead_13 ?_
        have hPc := hP.sub (ws' := [(aT, .inr (0, [.int (nI 0), .int (nI 8), .int (nI tx), .int (nI nx)]))]) [4] rfl
        have hDc := hD.sub (ws' := [(aT, .inr (0, [.int (nI 0), .int (nI 8), .int (nI tx), .int (nI nx)]))]) [4] (by decide) rfl
        have hKc := hK.sub (tys' := []) [] rfl
        have hFc := va_free (wc := [(aT, .inr (0, [.int (nI 0), .int (nI 8), .int (nI tx), .int (nI nx)]))]) hD hS hA [4] rfl
        refine va_calli (va_runS (As := [.int (nI a), .ref aT]) (rest := []) ⟨hx, hb, hml, hown, hts⟩ (c_X1_isOpen l dC dI aT 0 8 tx nx a s.heap.size (by omega) (by omega) (by omega) (by omega)) (va_cwS 2 hts gX1_deviceRead_X1_isOpen rfl rfl rfl (by decide +kernel) ⟨Nat.le_of_ble_eq_true rfl, Nat.le_of_ble_eq_true rfl⟩) ⟨fun a U g mk q => by obtain ⟨q0, q1, qP, qK, qD⟩ := q; exact ⟨q0, q1, qP, va_K.moved (u := U) (U := U.calling g mk a) (Vm.Alike.refl U.vm) qK, qD⟩, fun U hU hW => ⟨rfl, by rw [hU], by rw [hU]; exact hPc, va_K.moved hW.alike hKc, hDc.weaken (fun _ _ _ _ => trivial)⟩⟩ rfl rfl hl.1 rfl (lv_room (Nat.le_of_ble_eq_true rfl)) dX1_deviceRead_16 ⟨Nat.le_of_ble_eq_true rfl, Nat.le_of_ble_eq_true rfl⟩) hS (fun q _ h => hFc q h) hFc (fun r_12 u t H1 locs ht hvm hw hB hz1 hk1 hS => ?_)
        obtain ⟨hP1, hK1, hD1⟩ := hB
        rw [ht] at hP1
        have hK1 := va_K.moved hvm.symm hK1
        obtain ⟨hP, hD⟩ := va_join (wr := [(aR, .inr (1, [.ref aM, .ref aO, .ref aI, .ref aT, .ref aE, .int ff])), (aM, .inl (kM, 384, .inl (nM Mm))), (aO, .inl (kO, 16, .inl (nM Ob))), (aI, .inl (kI, 16, .inl (nM Ib))), (aE, .inr (0, [.int (nI 64), .int (nI 16), .int (nI rx), .int (nI mx)]))]) (w1 := [(aT, .inr (0, [.int (nI 0), .int (nI 8), .int (nI tx), .int (nI nx)]))]) hP hD [4] [0, 1, 2, 3, 5] rfl rfl (by decide) (by decide) hk1 hFc hP1 hD1
        have hK := (hK.sub (tys' := [(kM, .int), (kO, .int), (kI, .int)]) [0, 1, 2] rfl).app hK1
        generalize H1 = H at hP hS ⊢
        have hP : va_P (dC, dI) vwCl [(aR, .inr (1, [.ref aM, .ref aO, .ref aI, .ref aT, .ref aE, .int ff])), (aM, .inl (kM, 384, .inl (nM Mm))), (aO, .inl (kO, 16, .inl (nM Ob))), (aI, .inl (kI, 16, .inl (nM Ib))), (aE, .inr (0, [.int (nI 64), .int (nI 16), .int (nI rx), .int (nI mx)])), (aT, .inr (0, [.int (nI 0), .int (nI 8), .int (nI tx), .int (nI nx)]))] H := hP
        have hD : va_D A [(aR, .inr (1, [.ref aM, .ref aO, .ref aI, .ref aT, .ref aE, .int ff])), (aM, .inl (kM, 384, .inl (nM Mm))), (aO, .inl (kO, 16, .inl (nM Ob))), (aI, .inl (kI, 16, .inl (nM Ib))), (aE, .inr (0, [.int (nI 64), .int (nI 16), .int (nI rx), .int (nI mx)])), (aT, .inr (0, [.int (nI 0), .int (nI 8), .int (nI tx), .int (nI nx)]))] := hD
        have hK : va_K (dC, dI) vwCl [(kM, .int), (kO, .int), (kI, .int)] s := hK
        obtain rfl : r_12 = b01 (ropn 8 tx nx a) := hw
        refine lv_if_ne (tgt := 27) hx hb dX1_deviceRead_19 (by decide) (fun c_13 => ?_) (fun c_13 => ?_)
        · have c_13 := b01_n c_13
          refine lv_aload_n hx hb dX1_deviceRead_27 rfl (lv_at hl 0 rfl) ?_
          refine va_get (D := (dC, dI)) (ci := 1) (v := .ref aM) (C := RX1) (T := TX1) (N := 6) hx hb hts hI1 hown hK hP 0 rfl rfl 0 (by decide) (hts (.fieldLink RX1 9 "RingDriver" "memory" "[I") (by decide +kernel)) (fun _ h9 => h9) rfl dX1_deviceRead_28 ?_
          refine lv_iload_n hx hb dX1_deviceRead_31 rfl (lv_at hl 1 rfl) ?_
          refine va_iald hx hb hK hP 1 0 rfl rfl (vp_in_nI (n := a) (N := 384) (by omega) (by decide)) dX1_deviceRead_32 ?_
          have h9 : a < 2 ^ 31 := Nat.lt_trans (m := 384) (by omega) (by decide)
          refine lv_topi (fun y_14 ey_14 => ?_)
          obtain rfl : y_14 = nI (Mm a) := ey_14.trans (rdA (nM Mm) h9)
          have hP9 := hP.sub (ws' := [(aR, .inr (1, [.ref aM, .ref aO, .ref aI, .ref aT, .ref aE, .int ff])), (aM, .inl (kM, 384, .inl (nM Mm))), (aO, .inl (kO, 16, .inl (nM Ob))), (aI, .inl (kI, 16, .inl (nM Ib))), (aT, .inr (0, [.int (nI 0), .int (nI 8), .int (nI tx), .int (nI nx)])), (aE, .inr (0, [.int (nI 64), .int (nI 16), .int (nI rx), .int (nI mx)]))]) [0, 1, 2, 3, 5, 4] rfl
          have hD9 := hD.sub (ws' := [(aR, .inr (1, [.ref aM, .ref aO, .ref aI, .ref aT, .ref aE, .int ff])), (aM, .inl (kM, 384, .inl (nM Mm))), (aO, .inl (kO, 16, .inl (nM Ob))), (aI, .inl (kI, 16, .inl (nM Ib))), (aT, .inr (0, [.int (nI 0), .int (nI 8), .int (nI tx), .int (nI nx)])), (aE, .inr (0, [.int (nI 64), .int (nI 16), .int (nI rx), .int (nI mx)]))]) [0, 1, 2, 3, 5, 4] (by decide) rfl
          have hK9 := hK.sub (tys' := [(kM, .int), (kO, .int), (kI, .int)]) [0, 1, 2] rfl
          have e_15 : (ff : Int32) = sel (okA 8 tx nx a) ff (ff + nI 1) := (by first | exact sel_f okA_out | exact sel_t ((okA_in hlt).trans (by assumption)) | exact sel_f ((okA_in hlt).trans (by assumption)))
          have hP9 : va_P (dC, dI) vwCl [(aR, .inr (1, [.ref aM, .ref aO, .ref aI, .ref aT, .ref aE, .int (sel (okA 8 tx nx a) ff (ff + nI 1))])), (aM, .inl (kM, 384, .inl (nM Mm))), (aO, .inl (kO, 16, .inl (nM Ob))), (aI, .inl (kI, 16, .inl (nM Ib))), (aT, .inr (0, [.int (nI 0), .int (nI 8), .int (nI tx), .int (nI nx)])), (aE, .inr (0, [.int (nI 64), .int (nI 16), .int (nI rx), .int (nI mx)]))] H := Eq.mp (congrArg (fun (z1 : Int32) => va_P (dC, dI) vwCl [(aR, .inr (1, [.ref aM, .ref aO, .ref aI, .ref aT, .ref aE, .int z1])), (aM, .inl (kM, 384, .inl (nM Mm))), (aO, .inl (kO, 16, .inl (nM Ob))), (aI, .inl (kI, 16, .inl (nM Ib))), (aT, .inr (0, [.int (nI 0), .int (nI 8), .int (nI tx), .int (nI nx)])), (aE, .inr (0, [.int (nI 64), .int (nI 16), .int (nI rx), .int (nI mx)]))] H) e_15) hP9
          have hD9 : va_D A [(aR, .inr (1, [.ref aM, .ref aO, .ref aI, .ref aT, .ref aE, .int (sel (okA 8 tx nx a) ff (ff + nI 1))])), (aM, .inl (kM, 384, .inl (nM Mm))), (aO, .inl (kO, 16, .inl (nM Ob))), (aI, .inl (kI, 16, .inl (nM Ib))), (aT, .inr (0, [.int (nI 0), .int (nI 8), .int (nI tx), .int (nI nx)])), (aE, .inr (0, [.int (nI 64), .int (nI 16), .int (nI rx), .int (nI mx)]))] := Eq.mp (congrArg (fun (z1 : Int32) => va_D A [(aR, .inr (1, [.ref aM, .ref aO, .ref aI, .ref aT, .ref aE, .int z1])), (aM, .inl (kM, 384, .inl (nM Mm))), (aO, .inl (kO, 16, .inl (nM Ob))), (aI, .inl (kI, 16, .inl (nM Ib))), (aT, .inr (0, [.int (nI 0), .int (nI 8), .int (nI tx), .int (nI nx)])), (aE, .inr (0, [.int (nI 64), .int (nI 16), .int (nI rx), .int (nI mx)]))]) e_15) hD9
          have e_16 : (nI (Mm a) : Int32) = sel (okA 8 tx nx a) (nI (Mm a)) (-1) := (by first | exact sel_f okA_out | exact sel_t ((okA_in hlt).trans (by assumption)) | exact sel_f ((okA_in hlt).trans (by assumption)))
          exact W.iret (v := nI (Mm a)) hx hb hr (fun t ht hW => ⟨⟨_, (), rfl, e_16, by rw [ht]; exact hP9, va_K.moved hW.alike hK9, hD9⟩, hS.F ht⟩) hS.2.2 dX1_deviceRead_33
        · have c_13 := b01_e c_13
          refine lv_aload_n hx hb dX1_deviceRead_22 rfl (lv_at hl 0 rfl) ?_
          have hPc := hP.sub (ws' := [(aR, .inr (1, [.ref aM, .ref aO, .ref aI, .ref aT, .ref aE, .int ff]))]) [0] rfl
          have hDc := hD.sub (ws' := [(aR, .inr (1, [.ref aM, .ref aO, .ref aI, .ref aT, .ref aE, .int ff]))]) [0] (by decide) rfl
          have hKc := hK.sub (tys' := []) [] rfl
          have hFc := va_free (wc := [(aR, .inr (1, [.ref aM, .ref aO, .ref aI, .ref aT, .ref aE, .int ff]))]) hD hS hA [0] rfl
          refine va_calli (va_runV (As := []) (rest := []) ⟨hx, hb, hml, hown, hts⟩ (c_X1_fault l dC dI aR aM aO aI aT aE ff H.size ) (cwV 0 hts gX1_deviceRead_X1_fault rfl rfl rfl (by decide +kernel) ⟨Nat.le_of_ble_eq_true rfl, Nat.le_of_ble_eq_true rfl⟩) ⟨fun a U g mk q => by obtain ⟨q0, q1, qP, qK, qD⟩ := q; exact ⟨q0, q1, qP, va_K.moved (u := U) (U := U.calling g mk a) (Vm.Alike.refl U.vm) qK, qD⟩, va_recv hKc hPc (ci := 1) (q0 := 0) rfl rfl, fun U hU hW => ⟨rfl, by rw [hU], by rw [hU]; exact hPc, va_K.moved hW.alike hKc, hDc.weaken (fun _ _ _ _ => trivial)⟩⟩ rfl rfl hl.1 rfl (lv_room (Nat.le_of_ble_eq_true rfl)) dX1_deviceRead_23 ⟨Nat.le_of_ble_eq_true rfl, Nat.le_of_ble_eq_true rfl⟩) hS (fun q _ h => hFc q h) hFc (fun r_17 u t H1 locs ht hvm hw hB hz1 hk1 hS => ?_)
          obtain ⟨hP1, hK1, hD1⟩ := hB
          rw [ht] at hP1
          have hK1 := va_K.moved hvm.symm hK1
          obtain ⟨hP, hD⟩ := va_join (wr := [(aM, .inl (kM, 384, .inl (nM Mm))), (aO, .inl (kO, 16, .inl (nM Ob))), (aI, .inl (kI, 16, .inl (nM Ib))), (aE, .inr (0, [.int (nI 64), .int (nI 16), .int (nI rx), .int (nI mx)])), (aT, .inr (0, [.int (nI 0), .int (nI 8), .int (nI tx), .int (nI nx)]))]) (w1 := [(aR, .inr (1, [.ref aM, .ref aO, .ref aI, .ref aT, .ref aE, .int ((ff + nI 1))]))]) hP hD [0] [1, 2, 3, 4, 5] rfl rfl (by decide) (by decide) hk1 hFc hP1 hD1
          have hK := (hK.sub (tys' := [(kM, .int), (kO, .int), (kI, .int)]) [0, 1, 2] rfl).app hK1
          generalize H1 = H at hP hS ⊢
          have hP : va_P (dC, dI) vwCl [(aM, .inl (kM, 384, .inl (nM Mm))), (aO, .inl (kO, 16, .inl (nM Ob))), (aI, .inl (kI, 16, .inl (nM Ib))), (aE, .inr (0, [.int (nI 64), .int (nI 16), .int (nI rx), .int (nI mx)])), (aT, .inr (0, [.int (nI 0), .int (nI 8), .int (nI tx), .int (nI nx)])), (aR, .inr (1, [.ref aM, .ref aO, .ref aI, .ref aT, .ref aE, .int ((ff + nI 1))]))] H := hP
          have hD : va_D A [(aM, .inl (kM, 384, .inl (nM Mm))), (aO, .inl (kO, 16, .inl (nM Ob))), (aI, .inl (kI, 16, .inl (nM Ib))), (aE, .inr (0, [.int (nI 64), .int (nI 16), .int (nI rx), .int (nI mx)])), (aT, .inr (0, [.int (nI 0), .int (nI 8), .int (nI tx), .int (nI nx)])), (aR, .inr (1, [.ref aM, .ref aO, .ref aI, .ref aT, .ref aE, .int ((ff + nI 1))]))] := hD
          have hK : va_K (dC, dI) vwCl [(kM, .int), (kO, .int), (kI, .int)] s := hK
          obtain rfl : r_17 = (-1) := hw
          have hP9 := hP.sub (ws' := [(aR, .inr (1, [.ref aM, .ref aO, .ref aI, .ref aT, .ref aE, .int ((ff + nI 1))])), (aM, .inl (kM, 384, .inl (nM Mm))), (aO, .inl (kO, 16, .inl (nM Ob))), (aI, .inl (kI, 16, .inl (nM Ib))), (aT, .inr (0, [.int (nI 0), .int (nI 8), .int (nI tx), .int (nI nx)])), (aE, .inr (0, [.int (nI 64), .int (nI 16), .int (nI rx), .int (nI mx)]))]) [5, 0, 1, 2, 4, 3] rfl
          have hD9 := hD.sub (ws' := [(aR, .inr (1, [.ref aM, .ref aO, .ref aI, .ref aT, .ref aE, .int ((ff + nI 1))])), (aM, .inl (kM, 384, .inl (nM Mm))), (aO, .inl (kO, 16, .inl (nM Ob))), (aI, .inl (kI, 16, .inl (nM Ib))), (aT, .inr (0, [.int (nI 0), .int (nI 8), .int (nI tx), .int (nI nx)])), (aE, .inr (0, [.int (nI 64), .int (nI 16), .int (nI rx), .int (nI mx)]))]) [5, 0, 1, 2, 4, 3] (by decide) rfl
          have hK9 := hK.sub (tys' := [(kM, .int), (kO, .int), (kI, .int)]) [0, 1, 2] rfl
          have e_18 : ((ff + nI 1) : Int32) = sel (okA 8 tx nx a) ff (ff + nI 1) := (by first | exact sel_f okA_out | exact sel_t ((okA_in hlt).trans (by assumption)) | exact sel_f ((okA_in hlt).trans (by assumption)))
          have hP9 : va_P (dC, dI) vwCl [(aR, .inr (1, [.ref aM, .ref aO, .ref aI, .ref aT, .ref aE, .int (sel (okA 8 tx nx a) ff (ff + nI 1))])), (aM, .inl (kM, 384, .inl (nM Mm))), (aO, .inl (kO, 16, .inl (nM Ob))), (aI, .inl (kI, 16, .inl (nM Ib))), (aT, .inr (0, [.int (nI 0), .int (nI 8), .int (nI tx), .int (nI nx)])), (aE, .inr (0, [.int (nI 64), .int (nI 16), .int (nI rx), .int (nI mx)]))] H := Eq.mp (congrArg (fun (z1 : Int32) => va_P (dC, dI) vwCl [(aR, .inr (1, [.ref aM, .ref aO, .ref aI, .ref aT, .ref aE, .int z1])), (aM, .inl (kM, 384, .inl (nM Mm))), (aO, .inl (kO, 16, .inl (nM Ob))), (aI, .inl (kI, 16, .inl (nM Ib))), (aT, .inr (0, [.int (nI 0), .int (nI 8), .int (nI tx), .int (nI nx)])), (aE, .inr (0, [.int (nI 64), .int (nI 16), .int (nI rx), .int (nI mx)]))] H) e_18) hP9
          have hD9 : va_D A [(aR, .inr (1, [.ref aM, .ref aO, .ref aI, .ref aT, .ref aE, .int (sel (okA 8 tx nx a) ff (ff + nI 1))])), (aM, .inl (kM, 384, .inl (nM Mm))), (aO, .inl (kO, 16, .inl (nM Ob))), (aI, .inl (kI, 16, .inl (nM Ib))), (aT, .inr (0, [.int (nI 0), .int (nI 8), .int (nI tx), .int (nI nx)])), (aE, .inr (0, [.int (nI 64), .int (nI 16), .int (nI rx), .int (nI mx)]))] := Eq.mp (congrArg (fun (z1 : Int32) => va_D A [(aR, .inr (1, [.ref aM, .ref aO, .ref aI, .ref aT, .ref aE, .int z1])), (aM, .inl (kM, 384, .inl (nM Mm))), (aO, .inl (kO, 16, .inl (nM Ob))), (aI, .inl (kI, 16, .inl (nM Ib))), (aT, .inr (0, [.int (nI 0), .int (nI 8), .int (nI tx), .int (nI nx)])), (aE, .inr (0, [.int (nI 64), .int (nI 16), .int (nI rx), .int (nI mx)]))]) e_18) hD9
          have e_19 : ((-1) : Int32) = sel (okA 8 tx nx a) (nI (Mm a)) (-1) := (by first | exact sel_f okA_out | exact sel_t ((okA_in hlt).trans (by assumption)) | exact sel_f ((okA_in hlt).trans (by assumption)))
          exact W.iret (v := (-1)) hx hb hr (fun t ht hW => ⟨⟨_, (), rfl, e_19, by rw [ht]; exact hP9, va_K.moved hW.alike hK9, hD9⟩, hS.F ht⟩) hS.2.2 dX1_deviceRead_26
set_option maxHeartbeats 4000000 in
set_option maxRecDepth 100000 in
theorem c_X1_deviceWrite (l : Launch) (dC : Nat → ClassId) (dI : Nat → Nat → Nat) (aR : Nat) (aM : Nat) (aO : Nat) (aI : Nat) (aT : Nat) (aE : Nat) (kM : ClassId) (kO : ClassId) (kI : ClassId) (Mm : Nat → Nat) (Ob : Nat → Nat) (Ib : Nat → Nat) (tx : Nat) (nx : Nat) (rx : Nat) (mx : Nat) (ff : Int32) (p0 : Int32) (a : Nat) (pv : Int32) (sz : Nat) (htx : tx < 8) (hnx : nx ≤ 8) (hrx : rx < 8) (hmx : mx ≤ 8) (hM : ∀ j, Mm j < 256) (ha : IX p0 384 a) : Met l yX1_deviceWrite wsX1_deviceWrite ({ frames := 2, cells := 0, slots := 0, locals := 43 }) (va_Pc [.ref aR, .int p0, .int pv] (fun U => U.heap.size = sz ∧ va_P (dC, dI) vwCl [(aR, .inr (1, [.ref aM, .ref aO, .ref aI, .ref aT, .ref aE, .int ff])), (aM, .inl (kM, 384, .inl (nM Mm))), (aO, .inl (kO, 16, .inl (nM Ob))), (aI, .inl (kI, 16, .inl (nM Ib))), (aT, .inr (0, [.int (nI 0), .int (nI 8), .int (nI tx), .int (nI nx)])), (aE, .inr (0, [.int (nI 64), .int (nI 16), .int (nI rx), .int (nI mx)]))] U.heap ∧ va_K (dC, dI) vwCl [(kM, .int), (kO, .int), (kI, .int)] U ∧ va_D (fun _ => True) [(aR, .inr (1, [.ref aM, .ref aO, .ref aI, .ref aT, .ref aE, .int ff])), (aM, .inl (kM, 384, .inl (nM Mm))), (aO, .inl (kO, 16, .inl (nM Ob))), (aI, .inl (kI, 16, .inl (nM Ib))), (aT, .inr (0, [.int (nI 0), .int (nI 8), .int (nI tx), .int (nI nx)])), (aE, .inr (0, [.int (nI 64), .int (nI 16), .int (nI rx), .int (nI mx)]))])) (va_Qi (fun (r9 : Int32) (_ : Unit) => r9 = sel (okA 16 rx mx a) (nI 0) (-1)) (fun _ t => va_P (dC, dI) vwCl [(aR, .inr (1, [.ref aM, .ref aO, .ref aI, .ref aT, .ref aE, .int (sel (okA 16 rx mx a) ff (ff + nI 1))])), (aM, .inl (kM, 384, .inl (nM (selM (okA 16 rx mx a) (updN Mm a (lo pv)) Mm)))), (aO, .inl (kO, 16, .inl (nM Ob))), (aI, .inl (kI, 16, .inl (nM Ib))), (aT, .inr (0, [.int (nI 0), .int (nI 8), .int (nI tx), .int (nI nx)])), (aE, .inr (0, [.int (nI 64), .int (nI 16), .int (nI rx), .int (nI mx)]))] t.heap ∧ va_K (dC, dI) vwCl [(kM, .int), (kO, .int), (kI, .int)] t ∧ va_D (va_A [(aR, .inr (1, [.ref aM, .ref aO, .ref aI, .ref aT, .ref aE, .int ff])), (aM, .inl (kM, 384, .inl (nM Mm))), (aO, .inl (kO, 16, .inl (nM Ob))), (aI, .inl (kI, 16, .inl (nM Ib))), (aT, .inr (0, [.int (nI 0), .int (nI 8), .int (nI tx), .int (nI nx)])), (aE, .inr (0, [.int (nI 64), .int (nI 16), .int (nI rx), .int (nI mx)]))] sz) [(aR, .inr (1, [.ref aM, .ref aO, .ref aI, .ref aT, .ref aE, .int (sel (okA 16 rx mx a) ff (ff + nI 1))])), (aM, .inl (kM, 384, .inl (nM (selM (okA 16 rx mx a) (updN Mm a (lo pv)) Mm)))), (aO, .inl (kO, 16, .inl (nM Ob))), (aI, .inl (kI, 16, .inl (nM Ib))), (aT, .inr (0, [.int (nI 0), .int (nI 8), .int (nI tx), .int (nI nx)])), (aE, .inr (0, [.int (nI 64), .int (nI 16), .int (nI rx), .int (nI mx)]))]) (va_A [(aR, .inr (1, [.ref aM, .ref aO, .ref aI, .ref aT, .ref aE, .int ff])), (aM, .inl (kM, 384, .inl (nM Mm))), (aO, .inl (kO, 16, .inl (nM Ob))), (aI, .inl (kI, 16, .inl (nM Ib))), (aT, .inr (0, [.int (nI 0), .int (nI 8), .int (nI tx), .int (nI nx)])), (aE, .inr (0, [.int (nI 64), .int (nI 16), .int (nI rx), .int (nI mx)]))] sz)) 0 0 (va_A [(aR, .inr (1, [.ref aM, .ref aO, .ref aI, .ref aT, .ref aE, .int ff])), (aM, .inl (kM, 384, .inl (nM Mm))), (aO, .inl (kO, 16, .inl (nM Ob))), (aI, .inl (kI, 16, .inl (nM Ib))), (aT, .inr (0, [.int (nI 0), .int (nI 8), .int (nI tx), .int (nI nx)])), (aE, .inr (0, [.int (nI 64), .int (nI 16), .int (nI rx), .int (nI mx)]))] sz) := by
  refine Met.ofW (cc := cX1_deviceWrite) (maxL := 3) (ret := (some .int)) (by decide) rfl ?_
  intro p e s m args below meth c s₁ B hml hv
  obtain ⟨rfl, hsz, hP, hK, hD0⟩ := hv
  have hx := B.exec
  have hb := B.bytes
  have hr := B.returns
  have hts := atoms_spec (ws := wsX1_deviceWrite) B.pre
  have hown : s.vm.findClass RX1 = some m.cls := findClass_of_methodNamed B.named
  have hlocks := B.notSynchronized
  have hI1 : ∀ w ∈ u_ws RX1 TX1 6, w ∈ wsX1_deviceWrite := by decide +kernel
  subst hsz
  have hD := hD0.self (sz := s.heap.size)
  generalize hAe : va_A [(aR, .inr (1, [.ref aM, .ref aO, .ref aI, .ref aT, .ref aE, .int ff])), (aM, .inl (kM, 384, .inl (nM Mm))), (aO, .inl (kO, 16, .inl (nM Ob))), (aI, .inl (kI, 16, .inl (nM Ib))), (aT, .inr (0, [.int (nI 0), .int (nI 8), .int (nI tx), .int (nI nx)])), (aE, .inr (0, [.int (nI 64), .int (nI 16), .int (nI rx), .int (nI mx)]))] s.heap.size = A at hD ⊢
  have hA : ∀ q : Nat, s.heap.size ≤ q → A q := fun q h => by rw [← hAe]; exact Or.inr h
  have hS : va_S A s.heap s.heap [] := va_S.rf
  have hP : va_P (dC, dI) vwCl [(aR, .inr (1, [.ref aM, .ref aO, .ref aI, .ref aT, .ref aE, .int ff])), (aM, .inl (kM, 384, .inl (nM Mm))), (aO, .inl (kO, 16, .inl (nM Ob))), (aI, .inl (kI, 16, .inl (nM Ib))), (aT, .inr (0, [.int (nI 0), .int (nI 8), .int (nI tx), .int (nI nx)])), (aE, .inr (0, [.int (nI 64), .int (nI 16), .int (nI rx), .int (nI mx)]))] s.heap := hP
  have hl := lv_entry ([.ref aR, .int p0, .int pv]) (n := 3) (Nat.le_of_ble_eq_true rfl)
  rw [lg_entry_eq]
  generalize (lg_sl ([.ref aR, .int p0, .int pv]) ++ List.replicate (3 - (lg_sl ([.ref aR, .int p0, .int pv])).length) Slot.unset).toArray = ls at hl ⊢
  have hl : lv_has ls 3 [(0, .ref aR), (1, .int p0), (2, .int pv)] := hl
  rcases ha with ⟨hneg, rfl⟩ | ⟨hge, rfl⟩ | ⟨hlt, rfl⟩
  · refine lv_iload_n hx hb dX1_deviceWrite_0 rfl (lv_at hl 1 rfl) ?_
    refine lv_if_lt (tgt := 22) hx hb dX1_deviceWrite_1 (by decide) (fun c_1 => ?_) (fun c_1 => ?_)
    · refine lv_aload_n hx hb dX1_deviceWrite_22 rfl (lv_at hl 0 rfl) ?_
      have hPc := hP.sub (ws' := [(aR, .inr (1, [.ref aM, .ref aO, .ref aI, .ref aT, .ref aE, .int ff]))]) [0] rfl
      have hDc := hD.sub (ws' := [(aR, .inr (1, [.ref aM, .ref aO, .ref aI, .ref aT, .ref aE, .int ff]))]) [0] (by decide) rfl
      have hKc := hK.sub (tys' := []) [] rfl
      have hFc := va_free (wc := [(aR, .inr (1, [.ref aM, .ref aO, .ref aI, .ref aT, .ref aE, .int ff]))]) hD hS hA [0] rfl
      refine va_calli (va_runV (As := []) (rest := []) ⟨hx, hb, hml, hown, hts⟩ (c_X1_fault l dC dI aR aM aO aI aT aE ff s.heap.size ) (cwV 0 hts gX1_deviceWrite_X1_fault rfl rfl rfl (by decide +kernel) ⟨Nat.le_of_ble_eq_true rfl, Nat.le_of_ble_eq_true rfl⟩) ⟨fun a U g mk q => by obtain ⟨q0, q1, qP, qK, qD⟩ := q; exact ⟨q0, q1, qP, va_K.moved (u := U) (U := U.calling g mk a) (Vm.Alike.refl U.vm) qK, qD⟩, va_recv hKc hPc (ci := 1) (q0 := 0) rfl rfl, fun U hU hW => ⟨rfl, by rw [hU], by rw [hU]; exact hPc, va_K.moved hW.alike hKc, hDc.weaken (fun _ _ _ _ => trivial)⟩⟩ rfl rfl hl.1 rfl (lv_room (Nat.le_of_ble_eq_true rfl)) dX1_deviceWrite_23 ⟨Nat.le_of_ble_eq_true rfl, Nat.le_of_ble_eq_true rfl⟩) hS (fun q _ h => hFc q h) hFc (fun r_2 u t H1 locs ht hvm hw hB hz1 hk1 hS => ?_)
      obtain ⟨hP1, hK1, hD1⟩ := hB
      rw [ht] at hP1
      have hK1 := va_K.moved hvm.symm hK1
      obtain ⟨hP, hD⟩ := va_join (wr := [(aM, .inl (kM, 384, .inl (nM Mm))), (aO, .inl (kO, 16, .inl (nM Ob))), (aI, .inl (kI, 16, .inl (nM Ib))), (aT, .inr (0, [.int (nI 0), .int (nI 8), .int (nI tx), .int (nI nx)])), (aE, .inr (0, [.int (nI 64), .int (nI 16), .int (nI rx), .int (nI mx)]))]) (w1 := [(aR, .inr (1, [.ref aM, .ref aO, .ref aI, .ref aT, .ref aE, .int ((ff + nI 1))]))]) hP hD [0] [1, 2, 3, 4, 5] rfl rfl (by decide) (by decide) hk1 hFc hP1 hD1
      have hK := (hK.sub (tys' := [(kM, .int), (kO, .int), (kI, .int)]) [0, 1, 2] rfl).app hK1
      generalize H1 = H at hP hS ⊢
      have hP : va_P (dC, dI) vwCl [(aM, .inl (kM, 384, .inl (nM Mm))), (aO, .inl (kO, 16, .inl (nM Ob))), (aI, .inl (kI, 16, .inl (nM Ib))), (aT, .inr (0, [.int (nI 0), .int (nI 8), .int (nI tx), .int (nI nx)])), (aE, .inr (0, [.int (nI 64), .int (nI 16), .int (nI rx), .int (nI mx)])), (aR, .inr (1, [.ref aM, .ref aO, .ref aI, .ref aT, .ref aE, .int ((ff + nI 1))]))] H := hP
      have hD : va_D A [(aM, .inl (kM, 384, .inl (nM Mm))), (aO, .inl (kO, 16, .inl (nM Ob))), (aI, .inl (kI, 16, .inl (nM Ib))), (aT, .inr (0, [.int (nI 0), .int (nI 8), .int (nI tx), .int (nI nx)])), (aE, .inr (0, [.int (nI 64), .int (nI 16), .int (nI rx), .int (nI mx)])), (aR, .inr (1, [.ref aM, .ref aO, .ref aI, .ref aT, .ref aE, .int ((ff + nI 1))]))] := hD
      have hK : va_K (dC, dI) vwCl [(kM, .int), (kO, .int), (kI, .int)] s := hK
      obtain rfl : r_2 = (-1) := hw
      have hP9 := hP.sub (ws' := [(aR, .inr (1, [.ref aM, .ref aO, .ref aI, .ref aT, .ref aE, .int ((ff + nI 1))])), (aM, .inl (kM, 384, .inl (nM Mm))), (aO, .inl (kO, 16, .inl (nM Ob))), (aI, .inl (kI, 16, .inl (nM Ib))), (aT, .inr (0, [.int (nI 0), .int (nI 8), .int (nI tx), .int (nI nx)])), (aE, .inr (0, [.int (nI 64), .int (nI 16), .int (nI rx), .int (nI mx)]))]) [5, 0, 1, 2, 3, 4] rfl
      have hD9 := hD.sub (ws' := [(aR, .inr (1, [.ref aM, .ref aO, .ref aI, .ref aT, .ref aE, .int ((ff + nI 1))])), (aM, .inl (kM, 384, .inl (nM Mm))), (aO, .inl (kO, 16, .inl (nM Ob))), (aI, .inl (kI, 16, .inl (nM Ib))), (aT, .inr (0, [.int (nI 0), .int (nI 8), .int (nI tx), .int (nI nx)])), (aE, .inr (0, [.int (nI 64), .int (nI 16), .int (nI rx), .int (nI mx)]))]) [5, 0, 1, 2, 3, 4] (by decide) rfl
      have hK9 := hK.sub (tys' := [(kM, .int), (kO, .int), (kI, .int)]) [0, 1, 2] rfl
      have e_3 : ((ff + nI 1) : Int32) = sel (okA 16 rx mx 384) ff (ff + nI 1) := (by first | exact sel_f okA_out | exact sel_t ((okA_in hlt).trans (by assumption)) | exact sel_f ((okA_in hlt).trans (by assumption)) | exact congrArg nM (selM_f okA_out) | exact congrArg nM (selM_t ((okA_in hlt).trans (by assumption))) | exact congrArg nM (selM_f ((okA_in hlt).trans (by assumption))))
      have e_4 : (nM Mm) = nM (selM (okA 16 rx mx 384) (updN Mm 384 (lo pv)) Mm) := (by first | exact sel_f okA_out | exact sel_t ((okA_in hlt).trans (by assumption)) | exact sel_f ((okA_in hlt).trans (by assumption)) | exact congrArg nM (selM_f okA_out) | exact congrArg nM (selM_t ((okA_in hlt).trans (by assumption))) | exact congrArg nM (selM_f ((okA_in hlt).trans (by assumption))))
      have hP9 : va_P (dC, dI) vwCl [(aR, .inr (1, [.ref aM, .ref aO, .ref aI, .ref aT, .ref aE, .int (sel (okA 16 rx mx 384) ff (ff + nI 1))])), (aM, .inl (kM, 384, .inl (nM Mm))), (aO, .inl (kO, 16, .inl (nM Ob))), (aI, .inl (kI, 16, .inl (nM Ib))), (aT, .inr (0, [.int (nI 0), .int (nI 8), .int (nI tx), .int (nI nx)])), (aE, .inr (0, [.int (nI 64), .int (nI 16), .int (nI rx), .int (nI mx)]))] H := Eq.mp (congrArg (fun (z1 : Int32) => va_P (dC, dI) vwCl [(aR, .inr (1, [.ref aM, .ref aO, .ref aI, .ref aT, .ref aE, .int z1])), (aM, .inl (kM, 384, .inl (nM Mm))), (aO, .inl (kO, 16, .inl (nM Ob))), (aI, .inl (kI, 16, .inl (nM Ib))), (aT, .inr (0, [.int (nI 0), .int (nI 8), .int (nI tx), .int (nI nx)])), (aE, .inr (0, [.int (nI 64), .int (nI 16), .int (nI rx), .int (nI mx)]))] H) e_3) hP9
      have hD9 : va_D A [(aR, .inr (1, [.ref aM, .ref aO, .ref aI, .ref aT, .ref aE, .int (sel (okA 16 rx mx 384) ff (ff + nI 1))])), (aM, .inl (kM, 384, .inl (nM Mm))), (aO, .inl (kO, 16, .inl (nM Ob))), (aI, .inl (kI, 16, .inl (nM Ib))), (aT, .inr (0, [.int (nI 0), .int (nI 8), .int (nI tx), .int (nI nx)])), (aE, .inr (0, [.int (nI 64), .int (nI 16), .int (nI rx), .int (nI mx)]))] := Eq.mp (congrArg (fun (z1 : Int32) => va_D A [(aR, .inr (1, [.ref aM, .ref aO, .ref aI, .ref aT, .ref aE, .int z1])), (aM, .inl (kM, 384, .inl (nM Mm))), (aO, .inl (kO, 16, .inl (nM Ob))), (aI, .inl (kI, 16, .inl (nM Ib))), (aT, .inr (0, [.int (nI 0), .int (nI 8), .int (nI tx), .int (nI nx)])), (aE, .inr (0, [.int (nI 64), .int (nI 16), .int (nI rx), .int (nI mx)]))]) e_3) hD9
      have hP9 : va_P (dC, dI) vwCl [(aR, .inr (1, [.ref aM, .ref aO, .ref aI, .ref aT, .ref aE, .int (sel (okA 16 rx mx 384) ff (ff + nI 1))])), (aM, .inl (kM, 384, .inl (nM (selM (okA 16 rx mx 384) (updN Mm 384 (lo pv)) Mm)))), (aO, .inl (kO, 16, .inl (nM Ob))), (aI, .inl (kI, 16, .inl (nM Ib))), (aT, .inr (0, [.int (nI 0), .int (nI 8), .int (nI tx), .int (nI nx)])), (aE, .inr (0, [.int (nI 64), .int (nI 16), .int (nI rx), .int (nI mx)]))] H := Eq.mp (congrArg (fun (z1 : Nat → Int32) => va_P (dC, dI) vwCl [(aR, .inr (1, [.ref aM, .ref aO, .ref aI, .ref aT, .ref aE, .int (sel (okA 16 rx mx 384) ff (ff + nI 1))])), (aM, .inl (kM, 384, .inl z1)), (aO, .inl (kO, 16, .inl (nM Ob))), (aI, .inl (kI, 16, .inl (nM Ib))), (aT, .inr (0, [.int (nI 0), .int (nI 8), .int (nI tx), .int (nI nx)])), (aE, .inr (0, [.int (nI 64), .int (nI 16), .int (nI rx), .int (nI mx)]))] H) e_4) hP9
      have hD9 : va_D A [(aR, .inr (1, [.ref aM, .ref aO, .ref aI, .ref aT, .ref aE, .int (sel (okA 16 rx mx 384) ff (ff + nI 1))])), (aM, .inl (kM, 384, .inl (nM (selM (okA 16 rx mx 384) (updN Mm 384 (lo pv)) Mm)))), (aO, .inl (kO, 16, .inl (nM Ob))), (aI, .inl (kI, 16, .inl (nM Ib))), (aT, .inr (0, [.int (nI 0), .int (nI 8), .int (nI tx), .int (nI nx)])), (aE, .inr (0, [.int (nI 64), .int (nI 16), .int (nI rx), .int (nI mx)]))] := Eq.mp (congrArg (fun (z1 : Nat → Int32) => va_D A [(aR, .inr (1, [.ref aM, .ref aO, .ref aI, .ref aT, .ref aE, .int (sel (okA 16 rx mx 384) ff (ff + nI 1))])), (aM, .inl (kM, 384, .inl z1)), (aO, .inl (kO, 16, .inl (nM Ob))), (aI, .inl (kI, 16, .inl (nM Ib))), (aT, .inr (0, [.int (nI 0), .int (nI 8), .int (nI tx), .int (nI nx)])), (aE, .inr (0, [.int (nI 64), .int (nI 16), .int (nI rx), .int (nI mx)]))]) e_4) hD9
      have e_5 : ((-1) : Int32) = sel (okA 16 rx mx 384) (nI 0) (-1) := (by first | exact sel_f okA_out | exact sel_t ((okA_in hlt).trans (by assumption)) | exact sel_f ((okA_in hlt).trans (by assumption)))
      exact W.iret (v := (-1)) hx hb hr (fun t ht hW => ⟨⟨_, (), rfl, e_5, by rw [ht]; exact hP9, va_K.moved hW.alike hK9, hD9⟩, hS.F ht⟩) hS.2.2 dX1_deviceWrite_26
    · exact absurd hneg c_1
  · refine lv_iload_n hx hb dX1_deviceWrite_0 rfl (lv_at hl 1 rfl) ?_
    refine lv_if_lt (tgt := 22) hx hb dX1_deviceWrite_1 (by decide) (fun c_6 => ?_) (fun c_6 => ?_)
    · exact absurd c_6 hge.1
    · refine lv_iload_n hx hb dX1_deviceWrite_4 rfl (lv_at hl 1 rfl) ?_
      refine lv_sipush (v := nI 384) hx hb dX1_deviceWrite_5 (by decide +kernel) ?_
      refine lv_icmp_ge (tgt := 22) hx hb dX1_deviceWrite_8 (by decide) (fun c_7 => ?_) (fun c_7 => ?_)
      · refine lv_aload_n hx hb dX1_deviceWrite_22 rfl (lv_at hl 0 rfl) ?_
        have hPc := hP.sub (ws' := [(aR, .inr (1, [.ref aM, .ref aO, .ref aI, .ref aT, .ref aE, .int ff]))]) [0] rfl
        have hDc := hD.sub (ws' := [(aR, .inr (1, [.ref aM, .ref aO, .ref aI, .ref aT, .ref aE, .int ff]))]) [0] (by decide) rfl
        have hKc := hK.sub (tys' := []) [] rfl
        have hFc := va_free (wc := [(aR, .inr (1, [.ref aM, .ref aO, .ref aI, .ref aT, .ref aE, .int ff]))]) hD hS hA [0] rfl
        refine va_calli (va_runV (As := []) (rest := []) ⟨hx, hb, hml, hown, hts⟩ (c_X1_fault l dC dI aR aM aO aI aT aE ff s.heap.size ) (cwV 0 hts gX1_deviceWrite_X1_fault rfl rfl rfl (by decide +kernel) ⟨Nat.le_of_ble_eq_true rfl, Nat.le_of_ble_eq_true rfl⟩) ⟨fun a U g mk q => by obtain ⟨q0, q1, qP, qK, qD⟩ := q; exact ⟨q0, q1, qP, va_K.moved (u := U) (U := U.calling g mk a) (Vm.Alike.refl U.vm) qK, qD⟩, va_recv hKc hPc (ci := 1) (q0 := 0) rfl rfl, fun U hU hW => ⟨rfl, by rw [hU], by rw [hU]; exact hPc, va_K.moved hW.alike hKc, hDc.weaken (fun _ _ _ _ => trivial)⟩⟩ rfl rfl hl.1 rfl (lv_room (Nat.le_of_ble_eq_true rfl)) dX1_deviceWrite_23 ⟨Nat.le_of_ble_eq_true rfl, Nat.le_of_ble_eq_true rfl⟩) hS (fun q _ h => hFc q h) hFc (fun r_8 u t H1 locs ht hvm hw hB hz1 hk1 hS => ?_)
        obtain ⟨hP1, hK1, hD1⟩ := hB
        rw [ht] at hP1
        have hK1 := va_K.moved hvm.symm hK1
        obtain ⟨hP, hD⟩ := va_join (wr := [(aM, .inl (kM, 384, .inl (nM Mm))), (aO, .inl (kO, 16, .inl (nM Ob))), (aI, .inl (kI, 16, .inl (nM Ib))), (aT, .inr (0, [.int (nI 0), .int (nI 8), .int (nI tx), .int (nI nx)])), (aE, .inr (0, [.int (nI 64), .int (nI 16), .int (nI rx), .int (nI mx)]))]) (w1 := [(aR, .inr (1, [.ref aM, .ref aO, .ref aI, .ref aT, .ref aE, .int ((ff + nI 1))]))]) hP hD [0] [1, 2, 3, 4, 5] rfl rfl (by decide) (by decide) hk1 hFc hP1 hD1
        have hK := (hK.sub (tys' := [(kM, .int), (kO, .int), (kI, .int)]) [0, 1, 2] rfl).app hK1
        generalize H1 = H at hP hS ⊢
        have hP : va_P (dC, dI) vwCl [(aM, .inl (kM, 384, .inl (nM Mm))), (aO, .inl (kO, 16, .inl (nM Ob))), (aI, .inl (kI, 16, .inl (nM Ib))), (aT, .inr (0, [.int (nI 0), .int (nI 8), .int (nI tx), .int (nI nx)])), (aE, .inr (0, [.int (nI 64), .int (nI 16), .int (nI rx), .int (nI mx)])), (aR, .inr (1, [.ref aM, .ref aO, .ref aI, .ref aT, .ref aE, .int ((ff + nI 1))]))] H := hP
        have hD : va_D A [(aM, .inl (kM, 384, .inl (nM Mm))), (aO, .inl (kO, 16, .inl (nM Ob))), (aI, .inl (kI, 16, .inl (nM Ib))), (aT, .inr (0, [.int (nI 0), .int (nI 8), .int (nI tx), .int (nI nx)])), (aE, .inr (0, [.int (nI 64), .int (nI 16), .int (nI rx), .int (nI mx)])), (aR, .inr (1, [.ref aM, .ref aO, .ref aI, .ref aT, .ref aE, .int ((ff + nI 1))]))] := hD
        have hK : va_K (dC, dI) vwCl [(kM, .int), (kO, .int), (kI, .int)] s := hK
        obtain rfl : r_8 = (-1) := hw
        have hP9 := hP.sub (ws' := [(aR, .inr (1, [.ref aM, .ref aO, .ref aI, .ref aT, .ref aE, .int ((ff + nI 1))])), (aM, .inl (kM, 384, .inl (nM Mm))), (aO, .inl (kO, 16, .inl (nM Ob))), (aI, .inl (kI, 16, .inl (nM Ib))), (aT, .inr (0, [.int (nI 0), .int (nI 8), .int (nI tx), .int (nI nx)])), (aE, .inr (0, [.int (nI 64), .int (nI 16), .int (nI rx), .int (nI mx)]))]) [5, 0, 1, 2, 3, 4] rfl
        have hD9 := hD.sub (ws' := [(aR, .inr (1, [.ref aM, .ref aO, .ref aI, .ref aT, .ref aE, .int ((ff + nI 1))])), (aM, .inl (kM, 384, .inl (nM Mm))), (aO, .inl (kO, 16, .inl (nM Ob))), (aI, .inl (kI, 16, .inl (nM Ib))), (aT, .inr (0, [.int (nI 0), .int (nI 8), .int (nI tx), .int (nI nx)])), (aE, .inr (0, [.int (nI 64), .int (nI 16), .int (nI rx), .int (nI mx)]))]) [5, 0, 1, 2, 3, 4] (by decide) rfl
        have hK9 := hK.sub (tys' := [(kM, .int), (kO, .int), (kI, .int)]) [0, 1, 2] rfl
        have e_9 : ((ff + nI 1) : Int32) = sel (okA 16 rx mx 384) ff (ff + nI 1) := (by first | exact sel_f okA_out | exact sel_t ((okA_in hlt).trans (by assumption)) | exact sel_f ((okA_in hlt).trans (by assumption)) | exact congrArg nM (selM_f okA_out) | exact congrArg nM (selM_t ((okA_in hlt).trans (by assumption))) | exact congrArg nM (selM_f ((okA_in hlt).trans (by assumption))))
        have e_10 : (nM Mm) = nM (selM (okA 16 rx mx 384) (updN Mm 384 (lo pv)) Mm) := (by first | exact sel_f okA_out | exact sel_t ((okA_in hlt).trans (by assumption)) | exact sel_f ((okA_in hlt).trans (by assumption)) | exact congrArg nM (selM_f okA_out) | exact congrArg nM (selM_t ((okA_in hlt).trans (by assumption))) | exact congrArg nM (selM_f ((okA_in hlt).trans (by assumption))))
        have hP9 : va_P (dC, dI) vwCl [(aR, .inr (1, [.ref aM, .ref aO, .ref aI, .ref aT, .ref aE, .int (sel (okA 16 rx mx 384) ff (ff + nI 1))])), (aM, .inl (kM, 384, .inl (nM Mm))), (aO, .inl (kO, 16, .inl (nM Ob))), (aI, .inl (kI, 16, .inl (nM Ib))), (aT, .inr (0, [.int (nI 0), .int (nI 8), .int (nI tx), .int (nI nx)])), (aE, .inr (0, [.int (nI 64), .int (nI 16), .int (nI rx), .int (nI mx)]))] H := Eq.mp (congrArg (fun (z1 : Int32) => va_P (dC, dI) vwCl [(aR, .inr (1, [.ref aM, .ref aO, .ref aI, .ref aT, .ref aE, .int z1])), (aM, .inl (kM, 384, .inl (nM Mm))), (aO, .inl (kO, 16, .inl (nM Ob))), (aI, .inl (kI, 16, .inl (nM Ib))), (aT, .inr (0, [.int (nI 0), .int (nI 8), .int (nI tx), .int (nI nx)])), (aE, .inr (0, [.int (nI 64), .int (nI 16), .int (nI rx), .int (nI mx)]))] H) e_9) hP9
        have hD9 : va_D A [(aR, .inr (1, [.ref aM, .ref aO, .ref aI, .ref aT, .ref aE, .int (sel (okA 16 rx mx 384) ff (ff + nI 1))])), (aM, .inl (kM, 384, .inl (nM Mm))), (aO, .inl (kO, 16, .inl (nM Ob))), (aI, .inl (kI, 16, .inl (nM Ib))), (aT, .inr (0, [.int (nI 0), .int (nI 8), .int (nI tx), .int (nI nx)])), (aE, .inr (0, [.int (nI 64), .int (nI 16), .int (nI rx), .int (nI mx)]))] := Eq.mp (congrArg (fun (z1 : Int32) => va_D A [(aR, .inr (1, [.ref aM, .ref aO, .ref aI, .ref aT, .ref aE, .int z1])), (aM, .inl (kM, 384, .inl (nM Mm))), (aO, .inl (kO, 16, .inl (nM Ob))), (aI, .inl (kI, 16, .inl (nM Ib))), (aT, .inr (0, [.int (nI 0), .int (nI 8), .int (nI tx), .int (nI nx)])), (aE, .inr (0, [.int (nI 64), .int (nI 16), .int (nI rx), .int (nI mx)]))]) e_9) hD9
        have hP9 : va_P (dC, dI) vwCl [(aR, .inr (1, [.ref aM, .ref aO, .ref aI, .ref aT, .ref aE, .int (sel (okA 16 rx mx 384) ff (ff + nI 1))])), (aM, .inl (kM, 384, .inl (nM (selM (okA 16 rx mx 384) (updN Mm 384 (lo pv)) Mm)))), (aO, .inl (kO, 16, .inl (nM Ob))), (aI, .inl (kI, 16, .inl (nM Ib))), (aT, .inr (0, [.int (nI 0), .int (nI 8), .int (nI tx), .int (nI nx)])), (aE, .inr (0, [.int (nI 64), .int (nI 16), .int (nI rx), .int (nI mx)]))] H := Eq.mp (congrArg (fun (z1 : Nat → Int32) => va_P (dC, dI) vwCl [(aR, .inr (1, [.ref aM, .ref aO, .ref aI, .ref aT, .ref aE, .int (sel (okA 16 rx mx 384) ff (ff + nI 1))])), (aM, .inl (kM, 384, .inl z1)), (aO, .inl (kO, 16, .inl (nM Ob))), (aI, .inl (kI, 16, .inl (nM Ib))), (aT, .inr (0, [.int (nI 0), .int (nI 8), .int (nI tx), .int (nI nx)])), (aE, .inr (0, [.int (nI 64), .int (nI 16), .int (nI rx), .int (nI mx)]))] H) e_10) hP9
        have hD9 : va_D A [(aR, .inr (1, [.ref aM, .ref aO, .ref aI, .ref aT, .ref aE, .int (sel (okA 16 rx mx 384) ff (ff + nI 1))])), (aM, .inl (kM, 384, .inl (nM (selM (okA 16 rx mx 384) (updN Mm 384 (lo pv)) Mm)))), (aO, .inl (kO, 16, .inl (nM Ob))), (aI, .inl (kI, 16, .inl (nM Ib))), (aT, .inr (0, [.int (nI 0), .int (nI 8), .int (nI tx), .int (nI nx)])), (aE, .inr (0, [.int (nI 64), .int (nI 16), .int (nI rx), .int (nI mx)]))] := Eq.mp (congrArg (fun (z1 : Nat → Int32) => va_D A [(aR, .inr (1, [.ref aM, .ref aO, .ref aI, .ref aT, .ref aE, .int (sel (okA 16 rx mx 384) ff (ff + nI 1))])), (aM, .inl (kM, 384, .inl z1)), (aO, .inl (kO, 16, .inl (nM Ob))), (aI, .inl (kI, 16, .inl (nM Ib))), (aT, .inr (0, [.int (nI 0), .int (nI 8), .int (nI tx), .int (nI nx)])), (aE, .inr (0, [.int (nI 64), .int (nI 16), .int (nI rx), .int (nI mx)]))]) e_10) hD9
        have e_11 : ((-1) : Int32) = sel (okA 16 rx mx 384) (nI 0) (-1) := (by first | exact sel_f okA_out | exact sel_t ((okA_in hlt).trans (by assumption)) | exact sel_f ((okA_in hlt).trans (by assumption)))
        exact W.iret (v := (-1)) hx hb hr (fun t ht hW => ⟨⟨_, (), rfl, e_11, by rw [ht]; exact hP9, va_K.moved hW.alike hK9, hD9⟩, hS.F ht⟩) hS.2.2 dX1_deviceWrite_26
      · exact absurd hge.2 c_7
  · refine lv_iload_n hx hb dX1_deviceWrite_0 rfl (lv_at hl 1 rfl) ?_
    refine lv_if_lt (tgt := 22) hx hb dX1_deviceWrite_1 (by decide) (fun c_12 => ?_) (fun c_12 => ?_)
    · exact absurd c_12 (nI_pos (by omega))
    · refine lv_iload_n hx hb dX1_deviceWrite_4 rfl (lv_at hl 1 rfl) ?_
      refine lv_sipush (v := nI 384) hx hb dX1_deviceWrite_5 (by decide +kernel) ?_
      refine lv_icmp_ge (tgt := 22) hx hb dX1_deviceWrite_8 (by decide) (fun c_13 => ?_) (fun c_13 => ?_)
      · have c_13 : 384 ≤ a := (nI_leI (a := 384) (b := a) (by omega) (by omega)).mp c_13
        exact absurd c_13 (by omega)
      · have c_13 : ¬ (384 ≤ a) := fun h9 => c_13 ((nI_leI (a := 384) (b := a) (by omega) (by omega)).mpr h9)
        refine lv_iload_n hx hb dX1_deviceWrite_11 rfl (lv_at hl 1 rfl) ?_
        refine lv_aload_n hx hb dX1_deviceWrite_12 rfl (lv_at hl 0 rfl) ?_
        refine va_get (D := (dC, dI)) (ci := 1) (v := .ref aE) (C := RX1) (T := TX1) (N := 6) hx hb hts hI1 hown hK hP 0 rfl rfl 4 (by decide) (hts (.fieldLink RX1 28 "RingDriver" "receiveQueue" "LRingDriver$SlotQueue;") (by decide +kernel)) (fun _ h9 => h9) rfl dX1_deviceWrite_13 ?_
        have hPc := hP.sub (ws' := [(aE, .inr (0, [.int (nI 64), .int (nI 16), .int (nI rx), .int (nI mx)]))]) [5] rfl
        have hDc := hD.sub (ws' := [(aE, .inr (0, [.int (nI 64), .int (nI 16), .int (nI rx), .int (nI mx)]))]) [5] (by decide) rfl
        have hKc := hK.sub (tys' := []) [] rfl
        have hFc := va_free (wc := [(aE, .inr (0, [.int (nI 64), .int (nI 16), .int (nI rx), .int (nI mx)]))]) hD hS hA [5] rfl
        refine va_calli (va_runS (As := [.int (nI a), .ref aE]) (rest := []) ⟨hx, hb, hml, hown, hts⟩ (c_X1_isOpen l dC dI aE 64 16 rx mx a s.heap.size (by omega) (by omega) (by omega) (by omega)) (va_cwS 2 hts gX1_deviceWrite_X1_isOpen rfl rfl rfl (by decide +kernel) ⟨Nat.le_of_ble_eq_true rfl, Nat.le_of_ble_eq_true rfl⟩) ⟨fun a U g mk q => by obtain ⟨q0, q1, qP, qK, qD⟩ := q; exact ⟨q0, q1, qP, va_K.moved (u := U) (U := U.calling g mk a) (Vm.Alike.refl U.vm) qK, qD⟩, fun U hU hW => ⟨rfl, by rw [hU], by rw [hU]; exact hPc, va_K.moved hW.alike hKc, hDc.weaken (fun _ _ _ _ => trivial)⟩⟩ rfl rfl hl.1 rfl (lv_room (Nat.le_of_ble_eq_true rfl)) dX1_deviceWrite_16 ⟨Nat.le_of_ble_eq_true rfl, Nat.le_of_ble_eq_true rfl⟩) hS (fun q _ h => hFc q h) hFc (fun r_14 u t H1 locs ht hvm hw hB hz1 hk1 hS => ?_)
        obtain ⟨hP1, hK1, hD1⟩ := hB
        rw [ht] at hP1
        have hK1 := va_K.moved hvm.symm hK1
        obtain ⟨hP, hD⟩ := va_join (wr := [(aR, .inr (1, [.ref aM, .ref aO, .ref aI, .ref aT, .ref aE, .int ff])), (aM, .inl (kM, 384, .inl (nM Mm))), (aO, .inl (kO, 16, .inl (nM Ob))), (aI, .inl (kI, 16, .inl (nM Ib))), (aT, .inr (0, [.int (nI 0), .int (nI 8), .int (nI tx), .int (nI nx)]))]) (w1 := [(aE, .inr (0, [.int (nI 64), .int (nI 16), .int (nI rx), .int (nI mx)]))]) hP hD [5] [0, 1, 2, 3, 4] rfl rfl (by decide) (by decide) hk1 hFc hP1 hD1
        have hK := (hK.sub (tys' := [(kM, .int), (kO, .int), (kI, .int)]) [0, 1, 2] rfl).app hK1
        generalize H1 = H at hP hS ⊢
        have hP : va_P (dC, dI) vwCl [(aR, .inr (1, [.ref aM, .ref aO, .ref aI, .ref aT, .ref aE, .int ff])), (aM, .inl (kM, 384, .inl (nM Mm))), (aO, .inl (kO, 16, .inl (nM Ob))), (aI, .inl (kI, 16, .inl (nM Ib))), (aT, .inr (0, [.int (nI 0), .int (nI 8), .int (nI tx), .int (nI nx)])), (aE, .inr (0, [.int (nI 64), .int (nI 16), .int (nI rx), .int (nI mx)]))] H := hP
        have hD : va_D A [(aR, .inr (1, [.ref aM, .ref aO, .ref aI, .ref aT, .ref aE, .int ff])), (aM, .inl (kM, 384, .inl (nM Mm))), (aO, .inl (kO, 16, .inl (nM Ob))), (aI, .inl (kI, 16, .inl (nM Ib))), (aT, .inr (0, [.int (nI 0), .int (nI 8), .int (nI tx), .int (nI nx)])), (aE, .inr (0, [.int (nI 64), .int (nI 16), .int (nI rx), .int (nI mx)]))] := hD
        have hK : va_K (dC, dI) vwCl [(kM, .int), (kO, .int), (kI, .int)] s := hK
        obtain rfl : r_14 = b01 (ropn 16 rx mx a) := hw
        refine lv_if_ne (tgt := 27) hx hb dX1_deviceWrite_19 (by decide) (fun c_15 => ?_) (fun c_15 => ?_)
        · have c_15 := b01_n c_15
          refine lv_aload_n hx hb dX1_deviceWrite_27 rfl (lv_at hl 0 rfl) ?_
          refine va_get (D := (dC, dI)) (ci := 1) (v := .ref aM) (C := RX1) (T := TX1) (N := 6) hx hb hts hI1 hown hK hP 0 rfl rfl 0 (by decide) (hts (.fieldLink RX1 9 "RingDriver" "memory" "[I") (by decide +kernel)) (fun _ h9 => h9) rfl dX1_deviceWrite_28 ?_
          refine lv_iload_n hx hb dX1_deviceWrite_31 rfl (lv_at hl 1 rfl) ?_
          refine lv_iload_n hx hb dX1_deviceWrite_32 rfl (lv_at hl 2 rfl) ?_
          refine lv_sipush (v := nI 255) hx hb dX1_deviceWrite_33 (by decide +kernel) ?_
          refine lv_iand hx hb dX1_deviceWrite_36 ?_
          refine lv_topi (fun y_16 ey_16 => ?_)
          obtain rfl := ey_16.trans (n_and255 pv)
          refine va_iast (x := nI (lo pv)) hx hb hK hP hD hS 1 0 rfl rfl (vp_in_nI (n := a) (N := 384) (by omega) (by decide)) dX1_deviceWrite_37 (fun H locs hP hD hS => ?_)
          have h9 : a < 2 ^ 31 := Nat.lt_trans (m := 384) (by omega) (by decide)
          have hP : va_P (dC, dI) vwCl [(aR, .inr (1, [.ref aM, .ref aO, .ref aI, .ref aT, .ref aE, .int ff])), (aM, .inl (kM, 384, .inl (upd (nM Mm) (nI a).toNatClampNeg (nI (lo pv))))), (aO, .inl (kO, 16, .inl (nM Ob))), (aI, .inl (kI, 16, .inl (nM Ib))), (aT, .inr (0, [.int (nI 0), .int (nI 8), .int (nI tx), .int (nI nx)])), (aE, .inr (0, [.int (nI 64), .int (nI 16), .int (nI rx), .int (nI mx)]))] H := hP
          have hD : va_D A [(aR, .inr (1, [.ref aM, .ref aO, .ref aI, .ref aT, .ref aE, .int ff])), (aM, .inl (kM, 384, .inl (upd (nM Mm) (nI a).toNatClampNeg (nI (lo pv))))), (aO, .inl (kO, 16, .inl (nM Ob))), (aI, .inl (kI, 16, .inl (nM Ib))), (aT, .inr (0, [.int (nI 0), .int (nI 8), .int (nI tx), .int (nI nx)])), (aE, .inr (0, [.int (nI 64), .int (nI 16), .int (nI rx), .int (nI mx)]))] := hD
          have e_17 : upd (nM Mm) (nI a).toNatClampNeg (nI (lo pv)) = nM (updN Mm a (lo pv)) := updI h9
          have hP : va_P (dC, dI) vwCl [(aR, .inr (1, [.ref aM, .ref aO, .ref aI, .ref aT, .ref aE, .int ff])), (aM, .inl (kM, 384, .inl (nM (updN Mm a (lo pv))))), (aO, .inl (kO, 16, .inl (nM Ob))), (aI, .inl (kI, 16, .inl (nM Ib))), (aT, .inr (0, [.int (nI 0), .int (nI 8), .int (nI tx), .int (nI nx)])), (aE, .inr (0, [.int (nI 64), .int (nI 16), .int (nI rx), .int (nI mx)]))] H := Eq.mp (congrArg (fun (z1 : Nat → Int32) => va_P (dC, dI) vwCl [(aR, .inr (1, [.ref aM, .ref aO, .ref aI, .ref aT, .ref aE, .int ff])), (aM, .inl (kM, 384, .inl z1)), (aO, .inl (kO, 16, .inl (nM Ob))), (aI, .inl (kI, 16, .inl (nM Ib))), (aT, .inr (0, [.int (nI 0), .int (nI 8), .int (nI tx), .int (nI nx)])), (aE, .inr (0, [.int (nI 64), .int (nI 16), .int (nI rx), .int (nI mx)]))] H) e_17) hP
          have hD : va_D A [(aR, .inr (1, [.ref aM, .ref aO, .ref aI, .ref aT, .ref aE, .int ff])), (aM, .inl (kM, 384, .inl (nM (updN Mm a (lo pv))))), (aO, .inl (kO, 16, .inl (nM Ob))), (aI, .inl (kI, 16, .inl (nM Ib))), (aT, .inr (0, [.int (nI 0), .int (nI 8), .int (nI tx), .int (nI nx)])), (aE, .inr (0, [.int (nI 64), .int (nI 16), .int (nI rx), .int (nI mx)]))] := Eq.mp (congrArg (fun (z1 : Nat → Int32) => va_D A [(aR, .inr (1, [.ref aM, .ref aO, .ref aI, .ref aT, .ref aE, .int ff])), (aM, .inl (kM, 384, .inl z1)), (aO, .inl (kO, 16, .inl (nM Ob))), (aI, .inl (kI, 16, .inl (nM Ib))), (aT, .inr (0, [.int (nI 0), .int (nI 8), .int (nI tx), .int (nI nx)])), (aE, .inr (0, [.int (nI 64), .int (nI 16), .int (nI rx), .int (nI mx)]))]) e_17) hD
          refine lv_iconst (v := nI 0) hx hb dX1_deviceWrite_38 (by decide +kernel) ?_
          have hP9 := hP.sub (ws' := [(aR, .inr (1, [.ref aM, .ref aO, .ref aI, .ref aT, .ref aE, .int ff])), (aM, .inl (kM, 384, .inl (nM (updN Mm a (lo pv))))), (aO, .inl (kO, 16, .inl (nM Ob))), (aI, .inl (kI, 16, .inl (nM Ib))), (aT, .inr (0, [.int (nI 0), .int (nI 8), .int (nI tx), .int (nI nx)])), (aE, .inr (0, [.int (nI 64), .int (nI 16), .int (nI rx), .int (nI mx)]))]) [0, 1, 2, 3, 4, 5] rfl
          have hD9 := hD.sub (ws' := [(aR, .inr (1, [.ref aM, .ref aO, .ref aI, .ref aT, .ref aE, .int ff])), (aM, .inl (kM, 384, .inl (nM (updN Mm a (lo pv))))), (aO, .inl (kO, 16, .inl (nM Ob))), (aI, .inl (kI, 16, .inl (nM Ib))), (aT, .inr (0, [.int (nI 0), .int (nI 8), .int (nI tx), .int (nI nx)])), (aE, .inr (0, [.int (nI 64), .int (nI 16), .int (nI rx), .int (nI mx)]))]) [0, 1, 2, 3, 4, 5] (by decide) rfl
          have hK9 := hK.sub (tys' := [(kM, .int), (kO, .int), (kI, .int)]) [0, 1, 2] rfl
          have e_18 : (ff : Int32) = sel (okA 16 rx mx a) ff (ff + nI 1) := (by first | exact sel_f okA_out | exact sel_t ((okA_in hlt).trans (by assumption)) | exact sel_f ((okA_in hlt).trans (by assumption)) | exact congrArg nM (selM_f okA_out) | exact congrArg nM (selM_t ((okA_in hlt).trans (by assumption))) | exact congrArg nM (selM_f ((okA_in hlt).trans (by assumption))))
          have e_19 : (nM (updN Mm a (lo pv))) = nM (selM (okA 16 rx mx a) (updN Mm a (lo pv)) Mm) := (by first | exact sel_f okA_out | exact sel_t ((okA_in hlt).trans (by assumption)) | exact sel_f ((okA_in hlt).trans (by assumption)) | exact congrArg nM (selM_f okA_out) | exact congrArg nM (selM_t ((okA_in hlt).trans (by assumption))) | exact congrArg nM (selM_f ((okA_in hlt).trans (by assumption))))
          have hP9 : va_P (dC, dI) vwCl [(aR, .inr (1, [.ref aM, .ref aO, .ref aI, .ref aT, .ref aE, .int (sel (okA 16 rx mx a) ff (ff + nI 1))])), (aM, .inl (kM, 384, .inl (nM (updN Mm a (lo pv))))), (aO, .inl (kO, 16, .inl (nM Ob))), (aI, .inl (kI, 16, .inl (nM Ib))), (aT, .inr (0, [.int (nI 0), .int (nI 8), .int (nI tx), .int (nI nx)])), (aE, .inr (0, [.int (nI 64), .int (nI 16), .int (nI rx), .int (nI mx)]))] H := Eq.mp (congrArg (fun (z1 : Int32) => va_P (dC, dI) vwCl [(aR, .inr (1, [.ref aM, .ref aO, .ref aI, .ref aT, .ref aE, .int z1])), (aM, .inl (kM, 384, .inl (nM (updN Mm a (lo pv))))), (aO, .inl (kO, 16, .inl (nM Ob))), (aI, .inl (kI, 16, .inl (nM Ib))), (aT, .inr (0, [.int (nI 0), .int (nI 8), .int (nI tx), .int (nI nx)])), (aE, .inr (0, [.int (nI 64), .int (nI 16), .int (nI rx), .int (nI mx)]))] H) e_18) hP9
          have hD9 : va_D A [(aR, .inr (1, [.ref aM, .ref aO, .ref aI, .ref aT, .ref aE, .int (sel (okA 16 rx mx a) ff (ff + nI 1))])), (aM, .inl (kM, 384, .inl (nM (updN Mm a (lo pv))))), (aO, .inl (kO, 16, .inl (nM Ob))), (aI, .inl (kI, 16, .inl (nM Ib))), (aT, .inr (0, [.int (nI 0), .int (nI 8), .int (nI tx), .int (nI nx)])), (aE, .inr (0, [.int (nI 64), .int (nI 16), .int (nI rx), .int (nI mx)]))] := Eq.mp (congrArg (fun (z1 : Int32) => va_D A [(aR, .inr (1, [.ref aM, .ref aO, .ref aI, .ref aT, .ref aE, .int z1])), (aM, .inl (kM, 384, .inl (nM (updN Mm a (lo pv))))), (aO, .inl (kO, 16, .inl (nM Ob))), (aI, .inl (kI, 16, .inl (nM Ib))), (aT, .inr (0, [.int (nI 0), .int (nI 8), .int (nI tx), .int (nI nx)])), (aE, .inr (0, [.int (nI 64), .int (nI 16), .int (nI rx), .int (nI mx)]))]) e_18) hD9
          have hP9 : va_P (dC, dI) vwCl [(aR, .inr (1, [.ref aM, .ref aO, .ref aI, .ref aT, .ref aE, .int (sel (okA 16 rx mx a) ff (ff + nI 1))])), (aM, .inl (kM, 384, .inl (nM (selM (okA 16 rx mx a) (updN Mm a (lo pv)) Mm)))), (aO, .inl (kO, 16, .inl (nM Ob))), (aI, .inl (kI, 16, .inl (nM Ib))), (aT, .inr (0, [.int (nI 0), .int (nI 8), .int (nI tx), .int (nI nx)])), (aE, .inr (0, [.int (nI 64), .int (nI 16), .int (nI rx), .int (nI mx)]))] H := Eq.mp (congrArg (fun (z1 : Nat → Int32) => va_P (dC, dI) vwCl [(aR, .inr (1, [.ref aM, .ref aO, .ref aI, .ref aT, .ref aE, .int (sel (okA 16 rx mx a) ff (ff + nI 1))])), (aM, .inl (kM, 384, .inl z1)), (aO, .inl (kO, 16, .inl (nM Ob))), (aI, .inl (kI, 16, .inl (nM Ib))), (aT, .inr (0, [.int (nI 0), .int (nI 8), .int (nI tx), .int (nI nx)])), (aE, .inr (0, [.int (nI 64), .int (nI 16), .int (nI rx), .int (nI mx)]))] H) e_19) hP9
          have hD9 : va_D A [(aR, .inr (1, [.ref aM, .ref aO, .ref aI, .ref aT, .ref aE, .int (sel (okA 16 rx mx a) ff (ff + nI 1))])), (aM, .inl (kM, 384, .inl (nM (selM (okA 16 rx mx a) (updN Mm a (lo pv)) Mm)))), (aO, .inl (kO, 16, .inl (nM Ob))), (aI, .inl (kI, 16, .inl (nM Ib))), (aT, .inr (0, [.int (nI 0), .int (nI 8), .int (nI tx), .int (nI nx)])), (aE, .inr (0, [.int (nI 64), .int (nI 16), .int (nI rx), .int (nI mx)]))] := Eq.mp (congrArg (fun (z1 : Nat → Int32) => va_D A [(aR, .inr (1, [.ref aM, .ref aO, .ref aI, .ref aT, .ref aE, .int (sel (okA 16 rx mx a) ff (ff + nI 1))])), (aM, .inl (kM, 384, .inl z1)), (aO, .inl (kO, 16, .inl (nM Ob))), (aI, .inl (kI, 16, .inl (nM Ib))), (aT, .inr (0, [.int (nI 0), .int (nI 8), .int (nI tx), .int (nI nx)])), (aE, .inr (0, [.int (nI 64), .int (nI 16), .int (nI rx), .int (nI mx)]))]) e_19) hD9
          have e_20 : (nI 0 : Int32) = sel (okA 16 rx mx a) (nI 0) (-1) := (by first | exact sel_f okA_out | exact sel_t ((okA_in hlt).trans (by assumption)) | exact sel_f ((okA_in hlt).trans (by assumption)))
          exact W.iret (v := nI 0) hx hb hr (fun t ht hW => ⟨⟨_, (), rfl, e_20, by rw [ht]; exact hP9, va_K.moved hW.alike hK9, hD9⟩, hS.F ht⟩) hS.2.2 dX1_deviceWrite_39
        · have c_15 := b01_e c_15
          refine lv_aload_n hx hb dX1_deviceWrite_22 rfl (lv_at hl 0 rfl) ?_
          have hPc := hP.sub (ws' := [(aR, .inr (1, [.ref aM, .ref aO, .ref aI, .ref aT, .ref aE, .int ff]))]) [0] rfl
          have hDc := hD.sub (ws' := [(aR, .inr (1, [.ref aM, .ref aO, .ref aI, .ref aT, .ref aE, .int ff]))]) [0] (by decide) rfl
          have hKc := hK.sub (tys' := []) [] rfl
          have hFc := va_free (wc := [(aR, .inr (1, [.ref aM, .ref aO, .ref aI, .ref aT, .ref aE, .int ff]))]) hD hS hA [0] rfl
          refine va_calli (va_runV (As := []) (rest := []) ⟨hx, hb, hml, hown, hts⟩ (c_X1_fault l dC dI aR aM aO aI aT aE ff H.size ) (cwV 0 hts gX1_deviceWrite_X1_fault rfl rfl rfl (by decide +kernel) ⟨Nat.le_of_ble_eq_true rfl, Nat.le_of_ble_eq_true rfl⟩) ⟨fun a U g mk q => by obtain ⟨q0, q1, qP, qK, qD⟩ := q; exact ⟨q0, q1, qP, va_K.moved (u := U) (U := U.calling g mk a) (Vm.Alike.refl U.vm) qK, qD⟩, va_recv hKc hPc (ci := 1) (q0 := 0) rfl rfl, fun U hU hW => ⟨rfl, by rw [hU], by rw [hU]; exact hPc, va_K.moved hW.alike hKc, hDc.weaken (fun _ _ _ _ => trivial)⟩⟩ rfl rfl hl.1 rfl (lv_room (Nat.le_of_ble_eq_true rfl)) dX1_deviceWrite_23 ⟨Nat.le_of_ble_eq_true rfl, Nat.le_of_ble_eq_true rfl⟩) hS (fun q _ h => hFc q h) hFc (fun r_21 u t H1 locs ht hvm hw hB hz1 hk1 hS => ?_)
          obtain ⟨hP1, hK1, hD1⟩ := hB
          rw [ht] at hP1
          have hK1 := va_K.moved hvm.symm hK1
          obtain ⟨hP, hD⟩ := va_join (wr := [(aM, .inl (kM, 384, .inl (nM Mm))), (aO, .inl (kO, 16, .inl (nM Ob))), (aI, .inl (kI, 16, .inl (nM Ib))), (aT, .inr (0, [.int (nI 0), .int (nI 8), .int (nI tx), .int (nI nx)])), (aE, .inr (0, [.int (nI 64), .int (nI 16), .int (nI rx), .int (nI mx)]))]) (w1 := [(aR, .inr (1, [.ref aM, .ref aO, .ref aI, .ref aT, .ref aE, .int ((ff + nI 1))]))]) hP hD [0] [1, 2, 3, 4, 5] rfl rfl (by decide) (by decide) hk1 hFc hP1 hD1
          have hK := (hK.sub (tys' := [(kM, .int), (kO, .int), (kI, .int)]) [0, 1, 2] rfl).app hK1
          generalize H1 = H at hP hS ⊢
          have hP : va_P (dC, dI) vwCl [(aM, .inl (kM, 384, .inl (nM Mm))), (aO, .inl (kO, 16, .inl (nM Ob))), (aI, .inl (kI, 16, .inl (nM Ib))), (aT, .inr (0, [.int (nI 0), .int (nI 8), .int (nI tx), .int (nI nx)])), (aE, .inr (0, [.int (nI 64), .int (nI 16), .int (nI rx), .int (nI mx)])), (aR, .inr (1, [.ref aM, .ref aO, .ref aI, .ref aT, .ref aE, .int ((ff + nI 1))]))] H := hP
          have hD : va_D A [(aM, .inl (kM, 384, .inl (nM Mm))), (aO, .inl (kO, 16, .inl (nM Ob))), (aI, .inl (kI, 16, .inl (nM Ib))), (aT, .inr (0, [.int (nI 0), .int (nI 8), .int (nI tx), .int (nI nx)])), (aE, .inr (0, [.int (nI 64), .int (nI 16), .int (nI rx), .int (nI mx)])), (aR, .inr (1, [.ref aM, .ref aO, .ref aI, .ref aT, .ref aE, .int ((ff + nI 1))]))] := hD
          have hK : va_K (dC, dI) vwCl [(kM, .int), (kO, .int), (kI, .int)] s := hK
          obtain rfl : r_21 = (-1) := hw
          have hP9 := hP.sub (ws' := [(aR, .inr (1, [.ref aM, .ref aO, .ref aI, .ref aT, .ref aE, .int ((ff + nI 1))])), (aM, .inl (kM, 384, .inl (nM Mm))), (aO, .inl (kO, 16, .inl (nM Ob))), (aI, .inl (kI, 16, .inl (nM Ib))), (aT, .inr (0, [.int (nI 0), .int (nI 8), .int (nI tx), .int (nI nx)])), (aE, .inr (0, [.int (nI 64), .int (nI 16), .int (nI rx), .int (nI mx)]))]) [5, 0, 1, 2, 3, 4] rfl
          have hD9 := hD.sub (ws' := [(aR, .inr (1, [.ref aM, .ref aO, .ref aI, .ref aT, .ref aE, .int ((ff + nI 1))])), (aM, .inl (kM, 384, .inl (nM Mm))), (aO, .inl (kO, 16, .inl (nM Ob))), (aI, .inl (kI, 16, .inl (nM Ib))), (aT, .inr (0, [.int (nI 0), .int (nI 8), .int (nI tx), .int (nI nx)])), (aE, .inr (0, [.int (nI 64), .int (nI 16), .int (nI rx), .int (nI mx)]))]) [5, 0, 1, 2, 3, 4] (by decide) rfl
          have hK9 := hK.sub (tys' := [(kM, .int), (kO, .int), (kI, .int)]) [0, 1, 2] rfl
          have e_22 : ((ff + nI 1) : Int32) = sel (okA 16 rx mx a) ff (ff + nI 1) := (by first | exact sel_f okA_out | exact sel_t ((okA_in hlt).trans (by assumption)) | exact sel_f ((okA_in hlt).trans (by assumption)) | exact congrArg nM (selM_f okA_out) | exact congrArg nM (selM_t ((okA_in hlt).trans (by assumption))) | exact congrArg nM (selM_f ((okA_in hlt).trans (by assumption))))
          have e_23 : (nM Mm) = nM (selM (okA 16 rx mx a) (updN Mm a (lo pv)) Mm) := (by first | exact sel_f okA_out | exact sel_t ((okA_in hlt).trans (by assumption)) | exact sel_f ((okA_in hlt).trans (by assumption)) | exact congrArg nM (selM_f okA_out) | exact congrArg nM (selM_t ((okA_in hlt).trans (by assumption))) | exact congrArg nM (selM_f ((okA_in hlt).trans (by assumption))))
          have hP9 : va_P (dC, dI) vwCl [(aR, .inr (1, [.ref aM, .ref aO, .ref aI, .ref aT, .ref aE, .int (sel (okA 16 rx mx a) ff (ff + nI 1))])), (aM, .inl (kM, 384, .inl (nM Mm))), (aO, .inl (kO, 16, .inl (nM Ob))), (aI, .inl (kI, 16, .inl (nM Ib))), (aT, .inr (0, [.int (nI 0), .int (nI 8), .int (nI tx), .int (nI nx)])), (aE, .inr (0, [.int (nI 64), .int (nI 16), .int (nI rx), .int (nI mx)]))] H := Eq.mp (congrArg (fun (z1 : Int32) => va_P (dC, dI) vwCl [(aR, .inr (1, [.ref aM, .ref aO, .ref aI, .ref aT, .ref aE, .int z1])), (aM, .inl (kM, 384, .inl (nM Mm))), (aO, .inl (kO, 16, .inl (nM Ob))), (aI, .inl (kI, 16, .inl (nM Ib))), (aT, .inr (0, [.int (nI 0), .int (nI 8), .int (nI tx), .int (nI nx)])), (aE, .inr (0, [.int (nI 64), .int (nI 16), .int (nI rx), .int (nI mx)]))] H) e_22) hP9
          have hD9 : va_D A [(aR, .inr (1, [.ref aM, .ref aO, .ref aI, .ref aT, .ref aE, .int (sel (okA 16 rx mx a) ff (ff + nI 1))])), (aM, .inl (kM, 384, .inl (nM Mm))), (aO, .inl (kO, 16, .inl (nM Ob))), (aI, .inl (kI, 16, .inl (nM Ib))), (aT, .inr (0, [.int (nI 0), .int (nI 8), .int (nI tx), .int (nI nx)])), (aE, .inr (0, [.int (nI 64), .int (nI 16), .int (nI rx), .int (nI mx)]))] := Eq.mp (congrArg (fun (z1 : Int32) => va_D A [(aR, .inr (1, [.ref aM, .ref aO, .ref aI, .ref aT, .ref aE, .int z1])), (aM, .inl (kM, 384, .inl (nM Mm))), (aO, .inl (kO, 16, .inl (nM Ob))), (aI, .inl (kI, 16, .inl (nM Ib))), (aT, .inr (0, [.int (nI 0), .int (nI 8), .int (nI tx), .int (nI nx)])), (aE, .inr (0, [.int (nI 64), .int (nI 16), .int (nI rx), .int (nI mx)]))]) e_22) hD9
          have hP9 : va_P (dC, dI) vwCl [(aR, .inr (1, [.ref aM, .ref aO, .ref aI, .ref aT, .ref aE, .int (sel (okA 16 rx mx a) ff (ff + nI 1))])), (aM, .inl (kM, 384, .inl (nM (selM (okA 16 rx mx a) (updN Mm a (lo pv)) Mm)))), (aO, .inl (kO, 16, .inl (nM Ob))), (aI, .inl (kI, 16, .inl (nM Ib))), (aT, .inr (0, [.int (nI 0), .int (nI 8), .int (nI tx), .int (nI nx)])), (aE, .inr (0, [.int (nI 64), .int (nI 16), .int (nI rx), .int (nI mx)]))] H := Eq.mp (congrArg (fun (z1 : Nat → Int32) => va_P (dC, dI) vwCl [(aR, .inr (1, [.ref aM, .ref aO, .ref aI, .ref aT, .ref aE, .int (sel (okA 16 rx mx a) ff (ff + nI 1))])), (aM, .inl (kM, 384, .inl z1)), (aO, .inl (kO, 16, .inl (nM Ob))), (aI, .inl (kI, 16, .inl (nM Ib))), (aT, .inr (0, [.int (nI 0), .int (nI 8), .int (nI tx), .int (nI nx)])), (aE, .inr (0, [.int (nI 64), .int (nI 16), .int (nI rx), .int (nI mx)]))] H) e_23) hP9
          have hD9 : va_D A [(aR, .inr (1, [.ref aM, .ref aO, .ref aI, .ref aT, .ref aE, .int (sel (okA 16 rx mx a) ff (ff + nI 1))])), (aM, .inl (kM, 384, .inl (nM (selM (okA 16 rx mx a) (updN Mm a (lo pv)) Mm)))), (aO, .inl (kO, 16, .inl (nM Ob))), (aI, .inl (kI, 16, .inl (nM Ib))), (aT, .inr (0, [.int (nI 0), .int (nI 8), .int (nI tx), .int (nI nx)])), (aE, .inr (0, [.int (nI 64), .int (nI 16), .int (nI rx), .int (nI mx)]))] := Eq.mp (congrArg (fun (z1 : Nat → Int32) => va_D A [(aR, .inr (1, [.ref aM, .ref aO, .ref aI, .ref aT, .ref aE, .int (sel (okA 16 rx mx a) ff (ff + nI 1))])), (aM, .inl (kM, 384, .inl z1)), (aO, .inl (kO, 16, .inl (nM Ob))), (aI, .inl (kI, 16, .inl (nM Ib))), (aT, .inr (0, [.int (nI 0), .int (nI 8), .int (nI tx), .int (nI nx)])), (aE, .inr (0, [.int (nI 64), .int (nI 16), .int (nI rx), .int (nI mx)]))]) e_23) hD9
          have e_24 : ((-1) : Int32) = sel (okA 16 rx mx a) (nI 0) (-1) := (by first | exact sel_f okA_out | exact sel_t ((okA_in hlt).trans (by assumption)) | exact sel_f ((okA_in hlt).trans (by assumption)))
          exact W.iret (v := (-1)) hx hb hr (fun t ht hW => ⟨⟨_, (), rfl, e_24, by rw [ht]; exact hP9, va_K.moved hW.alike hK9, hD9⟩, hS.F ht⟩) hS.2.2 dX1_deviceWrite_26
set_option maxHeartbeats 4000000 in
set_option maxRecDepth 100000 in
theorem c_X1_faults (l : Launch) (dC : Nat → ClassId) (dI : Nat → Nat → Nat) (aR : Nat) (aM : Nat) (aO : Nat) (aI : Nat) (aT : Nat) (aE : Nat) (kM : ClassId) (kO : ClassId) (kI : ClassId) (Mm : Nat → Nat) (Ob : Nat → Nat) (Ib : Nat → Nat) (tx : Nat) (nx : Nat) (rx : Nat) (mx : Nat) (ff : Int32) (sz : Nat) (htx : tx < 8) (hnx : nx ≤ 8) (hrx : rx < 8) (hmx : mx ≤ 8) (hM : ∀ j, Mm j < 256) : Met l yX1_faults wsX1_faults ({ frames := 0, cells := 0, slots := 0, locals := 0 }) (va_Pc [.ref aR] (fun U => U.heap.size = sz ∧ va_P (dC, dI) vwCl [(aR, .inr (1, [.ref aM, .ref aO, .ref aI, .ref aT, .ref aE, .int ff])), (aM, .inl (kM, 384, .inl (nM Mm))), (aO, .inl (kO, 16, .inl (nM Ob))), (aI, .inl (kI, 16, .inl (nM Ib))), (aT, .inr (0, [.int (nI 0), .int (nI 8), .int (nI tx), .int (nI nx)])), (aE, .inr (0, [.int (nI 64), .int (nI 16), .int (nI rx), .int (nI mx)]))] U.heap ∧ va_K (dC, dI) vwCl [(kM, .int), (kO, .int), (kI, .int)] U ∧ va_D (fun _ => True) [(aR, .inr (1, [.ref aM, .ref aO, .ref aI, .ref aT, .ref aE, .int ff])), (aM, .inl (kM, 384, .inl (nM Mm))), (aO, .inl (kO, 16, .inl (nM Ob))), (aI, .inl (kI, 16, .inl (nM Ib))), (aT, .inr (0, [.int (nI 0), .int (nI 8), .int (nI tx), .int (nI nx)])), (aE, .inr (0, [.int (nI 64), .int (nI 16), .int (nI rx), .int (nI mx)]))])) (va_Qi (fun (r9 : Int32) (_ : Unit) => r9 = ff) (fun _ t => va_P (dC, dI) vwCl [(aR, .inr (1, [.ref aM, .ref aO, .ref aI, .ref aT, .ref aE, .int ff])), (aM, .inl (kM, 384, .inl (nM Mm))), (aO, .inl (kO, 16, .inl (nM Ob))), (aI, .inl (kI, 16, .inl (nM Ib))), (aT, .inr (0, [.int (nI 0), .int (nI 8), .int (nI tx), .int (nI nx)])), (aE, .inr (0, [.int (nI 64), .int (nI 16), .int (nI rx), .int (nI mx)]))] t.heap ∧ va_K (dC, dI) vwCl [(kM, .int), (kO, .int), (kI, .int)] t ∧ va_D (va_A [(aR, .inr (1, [.ref aM, .ref aO, .ref aI, .ref aT, .ref aE, .int ff])), (aM, .inl (kM, 384, .inl (nM Mm))), (aO, .inl (kO, 16, .inl (nM Ob))), (aI, .inl (kI, 16, .inl (nM Ib))), (aT, .inr (0, [.int (nI 0), .int (nI 8), .int (nI tx), .int (nI nx)])), (aE, .inr (0, [.int (nI 64), .int (nI 16), .int (nI rx), .int (nI mx)]))] sz) [(aR, .inr (1, [.ref aM, .ref aO, .ref aI, .ref aT, .ref aE, .int ff])), (aM, .inl (kM, 384, .inl (nM Mm))), (aO, .inl (kO, 16, .inl (nM Ob))), (aI, .inl (kI, 16, .inl (nM Ib))), (aT, .inr (0, [.int (nI 0), .int (nI 8), .int (nI tx), .int (nI nx)])), (aE, .inr (0, [.int (nI 64), .int (nI 16), .int (nI rx), .int (nI mx)]))]) (va_A [(aR, .inr (1, [.ref aM, .ref aO, .ref aI, .ref aT, .ref aE, .int ff])), (aM, .inl (kM, 384, .inl (nM Mm))), (aO, .inl (kO, 16, .inl (nM Ob))), (aI, .inl (kI, 16, .inl (nM Ib))), (aT, .inr (0, [.int (nI 0), .int (nI 8), .int (nI tx), .int (nI nx)])), (aE, .inr (0, [.int (nI 64), .int (nI 16), .int (nI rx), .int (nI mx)]))] sz)) 0 0 (va_A [(aR, .inr (1, [.ref aM, .ref aO, .ref aI, .ref aT, .ref aE, .int ff])), (aM, .inl (kM, 384, .inl (nM Mm))), (aO, .inl (kO, 16, .inl (nM Ob))), (aI, .inl (kI, 16, .inl (nM Ib))), (aT, .inr (0, [.int (nI 0), .int (nI 8), .int (nI tx), .int (nI nx)])), (aE, .inr (0, [.int (nI 64), .int (nI 16), .int (nI rx), .int (nI mx)]))] sz) := by
  refine Met.ofW (cc := cX1_faults) (maxL := 1) (ret := (some .int)) (by decide) rfl ?_
  intro p e s m args below meth c s₁ B hml hv
  obtain ⟨rfl, hsz, hP, hK, hD0⟩ := hv
  have hx := B.exec
  have hb := B.bytes
  have hr := B.returns
  have hts := atoms_spec (ws := wsX1_faults) B.pre
  have hown : s.vm.findClass RX1 = some m.cls := findClass_of_methodNamed B.named
  have hlocks := B.notSynchronized
  have hI1 : ∀ w ∈ u_ws RX1 TX1 6, w ∈ wsX1_faults := by decide +kernel
  subst hsz
  have hD := hD0.self (sz := s.heap.size)
  generalize hAe : va_A [(aR, .inr (1, [.ref aM, .ref aO, .ref aI, .ref aT, .ref aE, .int ff])), (aM, .inl (kM, 384, .inl (nM Mm))), (aO, .inl (kO, 16, .inl (nM Ob))), (aI, .inl (kI, 16, .inl (nM Ib))), (aT, .inr (0, [.int (nI 0), .int (nI 8), .int (nI tx), .int (nI nx)])), (aE, .inr (0, [.int (nI 64), .int (nI 16), .int (nI rx), .int (nI mx)]))] s.heap.size = A at hD ⊢
  have hA : ∀ q : Nat, s.heap.size ≤ q → A q := fun q h => by rw [← hAe]; exact Or.inr h
  have hS : va_S A s.heap s.heap [] := va_S.rf
  have hP : va_P (dC, dI) vwCl [(aR, .inr (1, [.ref aM, .ref aO, .ref aI, .ref aT, .ref aE, .int ff])), (aM, .inl (kM, 384, .inl (nM Mm))), (aO, .inl (kO, 16, .inl (nM Ob))), (aI, .inl (kI, 16, .inl (nM Ib))), (aT, .inr (0, [.int (nI 0), .int (nI 8), .int (nI tx), .int (nI nx)])), (aE, .inr (0, [.int (nI 64), .int (nI 16), .int (nI rx), .int (nI mx)]))] s.heap := hP
  have hl := lv_entry ([.ref aR]) (n := 1) (Nat.le_of_ble_eq_true rfl)
  rw [lg_entry_eq]
  generalize (lg_sl ([.ref aR]) ++ List.replicate (1 - (lg_sl ([.ref aR])).length) Slot.unset).toArray = ls at hl ⊢
  have hl : lv_has ls 1 [(0, .ref aR)] := hl
  refine lv_aload_n hx hb dX1_faults_0 rfl (lv_at hl 0 rfl) ?_
  refine va_get (D := (dC, dI)) (ci := 1) (v := .int ff) (C := RX1) (T := TX1) (N := 6) hx hb hts hI1 hown hK hP 0 rfl rfl 5 (by decide) (hts (.fieldLink RX1 31 "RingDriver" "faultCount" "I") (by decide +kernel)) (fun _ h9 => h9) rfl dX1_faults_1 ?_
  have hP9 := hP.sub (ws' := [(aR, .inr (1, [.ref aM, .ref aO, .ref aI, .ref aT, .ref aE, .int ff])), (aM, .inl (kM, 384, .inl (nM Mm))), (aO, .inl (kO, 16, .inl (nM Ob))), (aI, .inl (kI, 16, .inl (nM Ib))), (aT, .inr (0, [.int (nI 0), .int (nI 8), .int (nI tx), .int (nI nx)])), (aE, .inr (0, [.int (nI 64), .int (nI 16), .int (nI rx), .int (nI mx)]))]) [0, 1, 2, 3, 4, 5] rfl
  have hD9 := hD.sub (ws' := [(aR, .inr (1, [.ref aM, .ref aO, .ref aI, .ref aT, .ref aE, .int ff])), (aM, .inl (kM, 384, .inl (nM Mm))), (aO, .inl (kO, 16, .inl (nM Ob))), (aI, .inl (kI, 16, .inl (nM Ib))), (aT, .inr (0, [.int (nI 0), .int (nI 8), .int (nI tx), .int (nI nx)])), (aE, .inr (0, [.int (nI 64), .int (nI 16), .int (nI rx), .int (nI mx)]))]) [0, 1, 2, 3, 4, 5] (by decide) rfl
  have hK9 := hK.sub (tys' := [(kM, .int), (kO, .int), (kI, .int)]) [0, 1, 2] rfl
  have e_1 : (ff : Int32) = ff := rfl
  exact W.iret (v := ff) hx hb hr (fun t ht hW => ⟨⟨_, (), rfl, e_1, by rw [ht]; exact hP9, va_K.moved hW.alike hK9, hD9⟩, hS.F ht⟩) hS.2.2 dX1_faults_4
set_option maxHeartbeats 4000000 in
set_option maxRecDepth 100000 in
theorem c_X1_load (l : Launch) (dC : Nat → ClassId) (dI : Nat → Nat → Nat) (aR : Nat) (aM : Nat) (aO : Nat) (aI : Nat) (aT : Nat) (aE : Nat) (kM : ClassId) (kO : ClassId) (kI : ClassId) (Mm : Nat → Nat) (Ob : Nat → Nat) (Ib : Nat → Nat) (tx : Nat) (nx : Nat) (rx : Nat) (mx : Nat) (ff : Int32) (p0 : Int32) (a : Nat) (pv : Int32) (sz : Nat) (htx : tx < 8) (hnx : nx ≤ 8) (hrx : rx < 8) (hmx : mx ≤ 8) (hM : ∀ j, Mm j < 256) (ha : IX p0 16 a) : Met l yX1_load wsX1_load ({ frames := 0, cells := 0, slots := 0, locals := 0 }) (va_Pc [.ref aR, .int p0, .int pv] (fun U => U.heap.size = sz ∧ va_P (dC, dI) vwCl [(aR, .inr (1, [.ref aM, .ref aO, .ref aI, .ref aT, .ref aE, .int ff])), (aM, .inl (kM, 384, .inl (nM Mm))), (aO, .inl (kO, 16, .inl (nM Ob))), (aI, .inl (kI, 16, .inl (nM Ib))), (aT, .inr (0, [.int (nI 0), .int (nI 8), .int (nI tx), .int (nI nx)])), (aE, .inr (0, [.int (nI 64), .int (nI 16), .int (nI rx), .int (nI mx)]))] U.heap ∧ va_K (dC, dI) vwCl [(kM, .int), (kO, .int), (kI, .int)] U ∧ va_D (fun _ => True) [(aR, .inr (1, [.ref aM, .ref aO, .ref aI, .ref aT, .ref aE, .int ff])), (aM, .inl (kM, 384, .inl (nM Mm))), (aO, .inl (kO, 16, .inl (nM Ob))), (aI, .inl (kI, 16, .inl (nM Ib))), (aT, .inr (0, [.int (nI 0), .int (nI 8), .int (nI tx), .int (nI nx)])), (aE, .inr (0, [.int (nI 64), .int (nI 16), .int (nI rx), .int (nI mx)]))])) (va_Qi (fun (r9 : Int32) (_ : Unit) => r9 = b01 (decide (a < 16))) (fun _ t => va_P (dC, dI) vwCl [(aR, .inr (1, [.ref aM, .ref aO, .ref aI, .ref aT, .ref aE, .int ff])), (aM, .inl (kM, 384, .inl (nM Mm))), (aO, .inl (kO, 16, .inl (nM (selM (decide (a < 16)) (updN Ob a (lo pv)) Ob)))), (aI, .inl (kI, 16, .inl (nM Ib))), (aT, .inr (0, [.int (nI 0), .int (nI 8), .int (nI tx), .int (nI nx)])), (aE, .inr (0, [.int (nI 64), .int (nI 16), .int (nI rx), .int (nI mx)]))] t.heap ∧ va_K (dC, dI) vwCl [(kM, .int), (kO, .int), (kI, .int)] t ∧ va_D (va_A [(aR, .inr (1, [.ref aM, .ref aO, .ref aI, .ref aT, .ref aE, .int ff])), (aM, .inl (kM, 384, .inl (nM Mm))), (aO, .inl (kO, 16, .inl (nM Ob))), (aI, .inl (kI, 16, .inl (nM Ib))), (aT, .inr (0, [.int (nI 0), .int (nI 8), .int (nI tx), .int (nI nx)])), (aE, .inr (0, [.int (nI 64), .int (nI 16), .int (nI rx), .int (nI mx)]))] sz) [(aR, .inr (1, [.ref aM, .ref aO, .ref aI, .ref aT, .ref aE, .int ff])), (aM, .inl (kM, 384, .inl (nM Mm))), (aO, .inl (kO, 16, .inl (nM (selM (decide (a < 16)) (updN Ob a (lo pv)) Ob)))), (aI, .inl (kI, 16, .inl (nM Ib))), (aT, .inr (0, [.int (nI 0), .int (nI 8), .int (nI tx), .int (nI nx)])), (aE, .inr (0, [.int (nI 64), .int (nI 16), .int (nI rx), .int (nI mx)]))]) (va_A [(aR, .inr (1, [.ref aM, .ref aO, .ref aI, .ref aT, .ref aE, .int ff])), (aM, .inl (kM, 384, .inl (nM Mm))), (aO, .inl (kO, 16, .inl (nM Ob))), (aI, .inl (kI, 16, .inl (nM Ib))), (aT, .inr (0, [.int (nI 0), .int (nI 8), .int (nI tx), .int (nI nx)])), (aE, .inr (0, [.int (nI 64), .int (nI 16), .int (nI rx), .int (nI mx)]))] sz)) 0 0 (va_A [(aR, .inr (1, [.ref aM, .ref aO, .ref aI, .ref aT, .ref aE, .int ff])), (aM, .inl (kM, 384, .inl (nM Mm))), (aO, .inl (kO, 16, .inl (nM Ob))), (aI, .inl (kI, 16, .inl (nM Ib))), (aT, .inr (0, [.int (nI 0), .int (nI 8), .int (nI tx), .int (nI nx)])), (aE, .inr (0, [.int (nI 64), .int (nI 16), .int (nI rx), .int (nI mx)]))] sz) := by
  refine Met.ofW (cc := cX1_load) (maxL := 3) (ret := (some .boolean)) (by decide) rfl ?_
  intro p e s m args below meth c s₁ B hml hv
  obtain ⟨rfl, hsz, hP, hK, hD0⟩ := hv
  have hx := B.exec
  have hb := B.bytes
  have hr := B.returns
  have hts := atoms_spec (ws := wsX1_load) B.pre
  have hown : s.vm.findClass RX1 = some m.cls := findClass_of_methodNamed B.named
  have hlocks := B.notSynchronized
  have hI1 : ∀ w ∈ u_ws RX1 TX1 6, w ∈ wsX1_load := by decide +kernel
  subst hsz
  have hD := hD0.self (sz := s.heap.size)
  generalize hAe : va_A [(aR, .inr (1, [.ref aM, .ref aO, .ref aI, .ref aT, .ref aE, .int ff])), (aM, .inl (kM, 384, .inl (nM Mm))), (aO, .inl (kO, 16, .inl (nM Ob))), (aI, .inl (kI, 16, .inl (nM Ib))), (aT, .inr (0, [.int (nI 0), .int (nI 8), .int (nI tx), .int (nI nx)])), (aE, .inr (0, [.int (nI 64), .int (nI 16), .int (nI rx), .int (nI mx)]))] s.heap.size = A at hD ⊢
  have hA : ∀ q : Nat, s.heap.size ≤ q → A q := fun q h => by rw [← hAe]; exact Or.inr h
  have hS : va_S A s.heap s.heap [] := va_S.rf
  have hP : va_P (dC, dI) vwCl [(aR, .inr (1, [.ref aM, .ref aO, .ref aI, .ref aT, .ref aE, .int ff])), (aM, .inl (kM, 384, .inl (nM Mm))), (aO, .inl (kO, 16, .inl (nM Ob))), (aI, .inl (kI, 16, .inl (nM Ib))), (aT, .inr (0, [.int (nI 0), .int (nI 8), .int (nI tx), .int (nI nx)])), (aE, .inr (0, [.int (nI 64), .int (nI 16), .int (nI rx), .int (nI mx)]))] s.heap := hP
  have hl := lv_entry ([.ref aR, .int p0, .int pv]) (n := 3) (Nat.le_of_ble_eq_true rfl)
  rw [lg_entry_eq]
  generalize (lg_sl ([.ref aR, .int p0, .int pv]) ++ List.replicate (3 - (lg_sl ([.ref aR, .int p0, .int pv])).length) Slot.unset).toArray = ls at hl ⊢
  have hl : lv_has ls 3 [(0, .ref aR), (1, .int p0), (2, .int pv)] := hl
  rcases ha with ⟨hneg, rfl⟩ | ⟨hge, rfl⟩ | ⟨hlt, rfl⟩
  · refine lv_iload_n hx hb dX1_load_0 rfl (lv_at hl 1 rfl) ?_
    refine lv_if_lt (tgt := 10) hx hb dX1_load_1 (by decide) (fun c_1 => ?_) (fun c_1 => ?_)
    · refine lv_iconst (v := nI 0) hx hb dX1_load_10 (by decide +kernel) ?_
      have hP9 := hP.sub (ws' := [(aR, .inr (1, [.ref aM, .ref aO, .ref aI, .ref aT, .ref aE, .int ff])), (aM, .inl (kM, 384, .inl (nM Mm))), (aO, .inl (kO, 16, .inl (nM Ob))), (aI, .inl (kI, 16, .inl (nM Ib))), (aT, .inr (0, [.int (nI 0), .int (nI 8), .int (nI tx), .int (nI nx)])), (aE, .inr (0, [.int (nI 64), .int (nI 16), .int (nI rx), .int (nI mx)]))]) [0, 1, 2, 3, 4, 5] rfl
      have hD9 := hD.sub (ws' := [(aR, .inr (1, [.ref aM, .ref aO, .ref aI, .ref aT, .ref aE, .int ff])), (aM, .inl (kM, 384, .inl (nM Mm))), (aO, .inl (kO, 16, .inl (nM Ob))), (aI, .inl (kI, 16, .inl (nM Ib))), (aT, .inr (0, [.int (nI 0), .int (nI 8), .int (nI tx), .int (nI nx)])), (aE, .inr (0, [.int (nI 64), .int (nI 16), .int (nI rx), .int (nI mx)]))]) [0, 1, 2, 3, 4, 5] (by decide) rfl
      have hK9 := hK.sub (tys' := [(kM, .int), (kO, .int), (kI, .int)]) [0, 1, 2] rfl
      have e_2 : (nM Ob) = nM (selM (decide (16 < 16)) (updN Ob 16 (lo pv)) Ob) := (by first | exact congrArg nM (selM_f (decide_eq_false (by omega))) | exact congrArg nM (selM_t (decide_eq_true (by omega))))
      have hP9 : va_P (dC, dI) vwCl [(aR, .inr (1, [.ref aM, .ref aO, .ref aI, .ref aT, .ref aE, .int ff])), (aM, .inl (kM, 384, .inl (nM Mm))), (aO, .inl (kO, 16, .inl (nM (selM (decide (16 < 16)) (updN Ob 16 (lo pv)) Ob)))), (aI, .inl (kI, 16, .inl (nM Ib))), (aT, .inr (0, [.int (nI 0), .int (nI 8), .int (nI tx), .int (nI nx)])), (aE, .inr (0, [.int (nI 64), .int (nI 16), .int (nI rx), .int (nI mx)]))] s.heap := Eq.mp (congrArg (fun (z1 : Nat → Int32) => va_P (dC, dI) vwCl [(aR, .inr (1, [.ref aM, .ref aO, .ref aI, .ref aT, .ref aE, .int ff])), (aM, .inl (kM, 384, .inl (nM Mm))), (aO, .inl (kO, 16, .inl z1)), (aI, .inl (kI, 16, .inl (nM Ib))), (aT, .inr (0, [.int (nI 0), .int (nI 8), .int (nI tx), .int (nI nx)])), (aE, .inr (0, [.int (nI 64), .int (nI 16), .int (nI rx), .int (nI mx)]))] s.heap) e_2) hP9
      have hD9 : va_D A [(aR, .inr (1, [.ref aM, .ref aO, .ref aI, .ref aT, .ref aE, .int ff])), (aM, .inl (kM, 384, .inl (nM Mm))), (aO, .inl (kO, 16, .inl (nM (selM (decide (16 < 16)) (updN Ob 16 (lo pv)) Ob)))), (aI, .inl (kI, 16, .inl (nM Ib))), (aT, .inr (0, [.int (nI 0), .int (nI 8), .int (nI tx), .int (nI nx)])), (aE, .inr (0, [.int (nI 64), .int (nI 16), .int (nI rx), .int (nI mx)]))] := Eq.mp (congrArg (fun (z1 : Nat → Int32) => va_D A [(aR, .inr (1, [.ref aM, .ref aO, .ref aI, .ref aT, .ref aE, .int ff])), (aM, .inl (kM, 384, .inl (nM Mm))), (aO, .inl (kO, 16, .inl z1)), (aI, .inl (kI, 16, .inl (nM Ib))), (aT, .inr (0, [.int (nI 0), .int (nI 8), .int (nI tx), .int (nI nx)])), (aE, .inr (0, [.int (nI 64), .int (nI 16), .int (nI rx), .int (nI mx)]))]) e_2) hD9
      have e_3 : (nI 0 : Int32) = b01 (decide (16 < 16)) := b01_f (decide_eq_false (by omega))
      exact W.zret (v := nI 0) (ty := .boolean) hx hb hr (by decide +kernel) (fun t ht hW => ⟨⟨_, (), rfl, e_3, by rw [ht]; exact hP9, va_K.moved hW.alike hK9, hD9⟩, hS.F ht⟩) hS.2.2 dX1_load_11
    · exact absurd hneg c_1
  · refine lv_iload_n hx hb dX1_load_0 rfl (lv_at hl 1 rfl) ?_
    refine lv_if_lt (tgt := 10) hx hb dX1_load_1 (by decide) (fun c_4 => ?_) (fun c_4 => ?_)
    · exact absurd c_4 hge.1
    · refine lv_iload_n hx hb dX1_load_4 rfl (lv_at hl 1 rfl) ?_
      refine lv_bipush (v := nI 16) hx hb dX1_load_5 (by decide +kernel) ?_
      refine lv_icmp_lt (tgt := 12) hx hb dX1_load_7 (by decide) (fun c_5 => ?_) (fun c_5 => ?_)
      · exact absurd (Int32.lt_of_le_of_lt hge.2 c_5) (Int32.lt_irrefl)
      · refine lv_iconst (v := nI 0) hx hb dX1_load_10 (by decide +kernel) ?_
        have hP9 := hP.sub (ws' := [(aR, .inr (1, [.ref aM, .ref aO, .ref aI, .ref aT, .ref aE, .int ff])), (aM, .inl (kM, 384, .inl (nM Mm))), (aO, .inl (kO, 16, .inl (nM Ob))), (aI, .inl (kI, 16, .inl (nM Ib))), (aT, .inr (0, [.int (nI 0), .int (nI 8), .int (nI tx), .int (nI nx)])), (aE, .inr (0, [.int (nI 64), .int (nI 16), .int (nI rx), .int (nI mx)]))]) [0, 1, 2, 3, 4, 5] rfl
        have hD9 := hD.sub (ws' := [(aR, .inr (1, [.ref aM, .ref aO, .ref aI, .ref aT, .ref aE, .int ff])), (aM, .inl (kM, 384, .inl (nM Mm))), (aO, .inl (kO, 16, .inl (nM Ob))), (aI, .inl (kI, 16, .inl (nM Ib))), (aT, .inr (0, [.int (nI 0), .int (nI 8), .int (nI tx), .int (nI nx)])), (aE, .inr (0, [.int (nI 64), .int (nI 16), .int (nI rx), .int (nI mx)]))]) [0, 1, 2, 3, 4, 5] (by decide) rfl
        have hK9 := hK.sub (tys' := [(kM, .int), (kO, .int), (kI, .int)]) [0, 1, 2] rfl
        have e_6 : (nM Ob) = nM (selM (decide (16 < 16)) (updN Ob 16 (lo pv)) Ob) := (by first | exact congrArg nM (selM_f (decide_eq_false (by omega))) | exact congrArg nM (selM_t (decide_eq_true (by omega))))
        have hP9 : va_P (dC, dI) vwCl [(aR, .inr (1, [.ref aM, .ref aO, .ref aI, .ref aT, .ref aE, .int ff])), (aM, .inl (kM, 384, .inl (nM Mm))), (aO, .inl (kO, 16, .inl (nM (selM (decide (16 < 16)) (updN Ob 16 (lo pv)) Ob)))), (aI, .inl (kI, 16, .inl (nM Ib))), (aT, .inr (0, [.int (nI 0), .int (nI 8), .int (nI tx), .int (nI nx)])), (aE, .inr (0, [.int (nI 64), .int (nI 16), .int (nI rx), .int (nI mx)]))] s.heap := Eq.mp (congrArg (fun (z1 : Nat → Int32) => va_P (dC, dI) vwCl [(aR, .inr (1, [.ref aM, .ref aO, .ref aI, .ref aT, .ref aE, .int ff])), (aM, .inl (kM, 384, .inl (nM Mm))), (aO, .inl (kO, 16, .inl z1)), (aI, .inl (kI, 16, .inl (nM Ib))), (aT, .inr (0, [.int (nI 0), .int (nI 8), .int (nI tx), .int (nI nx)])), (aE, .inr (0, [.int (nI 64), .int (nI 16), .int (nI rx), .int (nI mx)]))] s.heap) e_6) hP9
        have hD9 : va_D A [(aR, .inr (1, [.ref aM, .ref aO, .ref aI, .ref aT, .ref aE, .int ff])), (aM, .inl (kM, 384, .inl (nM Mm))), (aO, .inl (kO, 16, .inl (nM (selM (decide (16 < 16)) (updN Ob 16 (lo pv)) Ob)))), (aI, .inl (kI, 16, .inl (nM Ib))), (aT, .inr (0, [.int (nI 0), .int (nI 8), .int (nI tx), .int (nI nx)])), (aE, .inr (0, [.int (nI 64), .int (nI 16), .int (nI rx), .int (nI mx)]))] := Eq.mp (congrArg (fun (z1 : Nat → Int32) => va_D A [(aR, .inr (1, [.ref aM, .ref aO, .ref aI, .ref aT, .ref aE, .int ff])), (aM, .inl (kM, 384, .inl (nM Mm))), (aO, .inl (kO, 16, .inl z1)), (aI, .inl (kI, 16, .inl (nM Ib))), (aT, .inr (0, [.int (nI 0), .int (nI 8), .int (nI tx), .int (nI nx)])), (aE, .inr (0, [.int (nI 64), .int (nI 16), .int (nI rx), .int (nI mx)]))]) e_6) hD9
        have e_7 : (nI 0 : Int32) = b01 (decide (16 < 16)) := b01_f (decide_eq_false (by omega))
        exact W.zret (v := nI 0) (ty := .boolean) hx hb hr (by decide +kernel) (fun t ht hW => ⟨⟨_, (), rfl, e_7, by rw [ht]; exact hP9, va_K.moved hW.alike hK9, hD9⟩, hS.F ht⟩) hS.2.2 dX1_load_11
  · refine lv_iload_n hx hb dX1_load_0 rfl (lv_at hl 1 rfl) ?_
    refine lv_if_lt (tgt := 10) hx hb dX1_load_1 (by decide) (fun c_8 => ?_) (fun c_8 => ?_)
    · exact absurd c_8 (nI_pos (by omega))
    · refine lv_iload_n hx hb dX1_load_4 rfl (lv_at hl 1 rfl) ?_
      refine lv_bipush (v := nI 16) hx hb dX1_load_5 (by decide +kernel) ?_
      refine lv_icmp_lt (tgt := 12) hx hb dX1_load_7 (by decide) (fun c_9 => ?_) (fun c_9 => ?_)
      · have c_9 : a < 16 := (nI_ltI (a := a) (b := 16) (by omega) (by omega)).mp c_9
        refine lv_aload_n hx hb dX1_load_12 rfl (lv_at hl 0 rfl) ?_
        refine va_get (D := (dC, dI)) (ci := 1) (v := .ref aO) (C := RX1) (T := TX1) (N := 6) hx hb hts hI1 hown hK hP 0 rfl rfl 1 (by decide) (hts (.fieldLink RX1 13 "RingDriver" "outBox" "[I") (by decide +kernel)) (fun _ h9 => h9) rfl dX1_load_13 ?_
        refine lv_iload_n hx hb dX1_load_16 rfl (lv_at hl 1 rfl) ?_
        refine lv_iload_n hx hb dX1_load_17 rfl (lv_at hl 2 rfl) ?_
        refine lv_sipush (v := nI 255) hx hb dX1_load_18 (by decide +kernel) ?_
        refine lv_iand hx hb dX1_load_21 ?_
        refine lv_topi (fun y_10 ey_10 => ?_)
        obtain rfl := ey_10.trans (n_and255 pv)
        refine va_iast (x := nI (lo pv)) hx hb hK hP hD hS 2 1 rfl rfl (vp_in_nI (n := a) (N := 16) (by omega) (by decide)) dX1_load_22 (fun H locs hP hD hS => ?_)
        have h9 : a < 2 ^ 31 := Nat.lt_trans (m := 16) (by omega) (by decide)
        have hP : va_P (dC, dI) vwCl [(aR, .inr (1, [.ref aM, .ref aO, .ref aI, .ref aT, .ref aE, .int ff])), (aM, .inl (kM, 384, .inl (nM Mm))), (aO, .inl (kO, 16, .inl (upd (nM Ob) (nI a).toNatClampNeg (nI (lo pv))))), (aI, .inl (kI, 16, .inl (nM Ib))), (aT, .inr (0, [.int (nI 0), .int (nI 8), .int (nI tx), .int (nI nx)])), (aE, .inr (0, [.int (nI 64), .int (nI 16), .int (nI rx), .int (nI mx)]))] H := hP
        have hD : va_D A [(aR, .inr (1, [.ref aM, .ref aO, .ref aI, .ref aT, .ref aE, .int ff])), (aM, .inl (kM, 384, .inl (nM Mm))), (aO, .inl (kO, 16, .inl (upd (nM Ob) (nI a).toNatClampNeg (nI (lo pv))))), (aI, .inl (kI, 16, .inl (nM Ib))), (aT, .inr (0, [.int (nI 0), .int (nI 8), .int (nI tx), .int (nI nx)])), (aE, .inr (0, [.int (nI 64), .int (nI 16), .int (nI rx), .int (nI mx)]))] := hD
        have e_11 : upd (nM Ob) (nI a).toNatClampNeg (nI (lo pv)) = nM (updN Ob a (lo pv)) := updI h9
        have hP : va_P (dC, dI) vwCl [(aR, .inr (1, [.ref aM, .ref aO, .ref aI, .ref aT, .ref aE, .int ff])), (aM, .inl (kM, 384, .inl (nM Mm))), (aO, .inl (kO, 16, .inl (nM (updN Ob a (lo pv))))), (aI, .inl (kI, 16, .inl (nM Ib))), (aT, .inr (0, [.int (nI 0), .int (nI 8), .int (nI tx), .int (nI nx)])), (aE, .inr (0, [.int (nI 64), .int (nI 16), .int (nI rx), .int (nI mx)]))] H := Eq.mp (congrArg (fun (z1 : Nat → Int32) => va_P (dC, dI) vwCl [(aR, .inr (1, [.ref aM, .ref aO, .ref aI, .ref aT, .ref aE, .int ff])), (aM, .inl (kM, 384, .inl (nM Mm))), (aO, .inl (kO, 16, .inl z1)), (aI, .inl (kI, 16, .inl (nM Ib))), (aT, .inr (0, [.int (nI 0), .int (nI 8), .int (nI tx), .int (nI nx)])), (aE, .inr (0, [.int (nI 64), .int (nI 16), .int (nI rx), .int (nI mx)]))] H) e_11) hP
        have hD : va_D A [(aR, .inr (1, [.ref aM, .ref aO, .ref aI, .ref aT, .ref aE, .int ff])), (aM, .inl (kM, 384, .inl (nM Mm))), (aO, .inl (kO, 16, .inl (nM (updN Ob a (lo pv))))), (aI, .inl (kI, 16, .inl (nM Ib))), (aT, .inr (0, [.int (nI 0), .int (nI 8), .int (nI tx), .int (nI nx)])), (aE, .inr (0, [.int (nI 64), .int (nI 16), .int (nI rx), .int (nI mx)]))] := Eq.mp (congrArg (fun (z1 : Nat → Int32) => va_D A [(aR, .inr (1, [.ref aM, .ref aO, .ref aI, .ref aT, .ref aE, .int ff])), (aM, .inl (kM, 384, .inl (nM Mm))), (aO, .inl (kO, 16, .inl z1)), (aI, .inl (kI, 16, .inl (nM Ib))), (aT, .inr (0, [.int (nI 0), .int (nI 8), .int (nI tx), .int (nI nx)])), (aE, .inr (0, [.int (nI 64), .int (nI 16), .int (nI rx), .int (nI mx)]))]) e_11) hD
        refine lv_iconst (v := nI 1) hx hb dX1_load_23 (by decide +kernel) ?_
        have hP9 := hP.sub (ws' := [(aR, .inr (1, [.ref aM, .ref aO, .ref aI, .ref aT, .ref aE, .int ff])), (aM, .inl (kM, 384, .inl (nM Mm))), (aO, .inl (kO, 16, .inl (nM (updN Ob a (lo pv))))), (aI, .inl (kI, 16, .inl (nM Ib))), (aT, .inr (0, [.int (nI 0), .int (nI 8), .int (nI tx), .int (nI nx)])), (aE, .inr (0, [.int (nI 64), .int (nI 16), .int (nI rx), .int (nI mx)]))]) [0, 1, 2, 3, 4, 5] rfl
        have hD9 := hD.sub (ws' := [(aR, .inr (1, [.ref aM, .ref aO, .ref aI, .ref aT, .ref aE, .int ff])), (aM, .inl (kM, 384, .inl (nM Mm))), (aO, .inl (kO, 16, .inl (nM (updN Ob a (lo pv))))), (aI, .inl (kI, 16, .inl (nM Ib))), (aT, .inr (0, [.int (nI 0), .int (nI 8), .int (nI tx), .int (nI nx)])), (aE, .inr (0, [.int (nI 64), .int (nI 16), .int (nI rx), .int (nI mx)]))]) [0, 1, 2, 3, 4, 5] (by decide) rfl
        have hK9 := hK.sub (tys' := [(kM, .int), (kO, .int), (kI, .int)]) [0, 1, 2] rfl
        have e_12 : (nM (updN Ob a (lo pv))) = nM (selM (decide (a < 16)) (updN Ob a (lo pv)) Ob) := (by first | exact congrArg nM (selM_f (decide_eq_false (by omega))) | exact congrArg nM (selM_t (decide_eq_true (by omega))))
        have hP9 : va_P (dC, dI) vwCl [(aR, .inr (1, [.ref aM, .ref aO, .ref aI, .ref aT, .ref aE, .int ff])), (aM, .inl (kM, 384, .inl (nM Mm))), (aO, .inl (kO, 16, .inl (nM (selM (decide (a < 16)) (updN Ob a (lo pv)) Ob)))), (aI, .inl (kI, 16, .inl (nM Ib))), (aT, .inr (0, [.int (nI 0), .int (nI 8), .int (nI tx), .int (nI nx)])), (aE, .inr (0, [.int (nI 64), .int (nI 16), .int (nI rx), .int (nI mx)]))] H := Eq.mp (congrArg (fun (z1 : Nat → Int32) => va_P (dC, dI) vwCl [(aR, .inr (1, [.ref aM, .ref aO, .ref aI, .ref aT, .ref aE, .int ff])), (aM, .inl (kM, 384, .inl (nM Mm))), (aO, .inl (kO, 16, .inl z1)), (aI, .inl (kI, 16, .inl (nM Ib))), (aT, .inr (0, [.int (nI 0), .int (nI 8), .int (nI tx), .int (nI nx)])), (aE, .inr (0, [.int (nI 64), .int (nI 16), .int (nI rx), .int (nI mx)]))] H) e_12) hP9
        have hD9 : va_D A [(aR, .inr (1, [.ref aM, .ref aO, .ref aI, .ref aT, .ref aE, .int ff])), (aM, .inl (kM, 384, .inl (nM Mm))), (aO, .inl (kO, 16, .inl (nM (selM (decide (a < 16)) (updN Ob a (lo pv)) Ob)))), (aI, .inl (kI, 16, .inl (nM Ib))), (aT, .inr (0, [.int (nI 0), .int (nI 8), .int (nI tx), .int (nI nx)])), (aE, .inr (0, [.int (nI 64), .int (nI 16), .int (nI rx), .int (nI mx)]))] := Eq.mp (congrArg (fun (z1 : Nat → Int32) => va_D A [(aR, .inr (1, [.ref aM, .ref aO, .ref aI, .ref aT, .ref aE, .int ff])), (aM, .inl (kM, 384, .inl (nM Mm))), (aO, .inl (kO, 16, .inl z1)), (aI, .inl (kI, 16, .inl (nM Ib))), (aT, .inr (0, [.int (nI 0), .int (nI 8), .int (nI tx), .int (nI nx)])), (aE, .inr (0, [.int (nI 64), .int (nI 16), .int (nI rx), .int (nI mx)]))]) e_12) hD9
        have e_13 : (nI 1 : Int32) = b01 (decide (a < 16)) := b01_t (decide_eq_true (by omega))
        exact W.zret (v := nI 1) (ty := .boolean) hx hb hr (by decide +kernel) (fun t ht hW => ⟨⟨_, (), rfl, e_13, by rw [ht]; exact hP9, va_K.moved hW.alike hK9, hD9⟩, hS.F ht⟩) hS.2.2 dX1_load_24
      · have c_9 : ¬ (a < 16) := fun h9 => c_9 ((nI_ltI (a := a) (b := 16) (by omega) (by omega)).mpr h9)
        exact absurd (by omega) c_9
set_option maxHeartbeats 4000000 in
set_option maxRecDepth 100000 in
theorem c_X1_taken (l : Launch) (dC : Nat → ClassId) (dI : Nat → Nat → Nat) (aR : Nat) (aM : Nat) (aO : Nat) (aI : Nat) (aT : Nat) (aE : Nat) (kM : ClassId) (kO : ClassId) (kI : ClassId) (Mm : Nat → Nat) (Ob : Nat → Nat) (Ib : Nat → Nat) (tx : Nat) (nx : Nat) (rx : Nat) (mx : Nat) (ff : Int32) (p0 : Int32) (a : Nat) (sz : Nat) (htx : tx < 8) (hnx : nx ≤ 8) (hrx : rx < 8) (hmx : mx ≤ 8) (hM : ∀ j, Mm j < 256) (ha : IX p0 16 a) : Met l yX1_taken wsX1_taken ({ frames := 0, cells := 0, slots := 0, locals := 0 }) (va_Pc [.ref aR, .int p0] (fun U => U.heap.size = sz ∧ va_P (dC, dI) vwCl [(aR, .inr (1, [.ref aM, .ref aO, .ref aI, .ref aT, .ref aE, .int ff])), (aM, .inl (kM, 384, .inl (nM Mm))), (aO, .inl (kO, 16, .inl (nM Ob))), (aI, .inl (kI, 16, .inl (nM Ib))), (aT, .inr (0, [.int (nI 0), .int (nI 8), .int (nI tx), .int (nI nx)])), (aE, .inr (0, [.int (nI 64), .int (nI 16), .int (nI rx), .int (nI mx)]))] U.heap ∧ va_K (dC, dI) vwCl [(kM, .int), (kO, .int), (kI, .int)] U ∧ va_D (fun _ => True) [(aR, .inr (1, [.ref aM, .ref aO, .ref aI, .ref aT, .ref aE, .int ff])), (aM, .inl (kM, 384, .inl (nM Mm))), (aO, .inl (kO, 16, .inl (nM Ob))), (aI, .inl (kI, 16, .inl (nM Ib))), (aT, .inr (0, [.int (nI 0), .int (nI 8), .int (nI tx), .int (nI nx)])), (aE, .inr (0, [.int (nI 64), .int (nI 16), .int (nI rx), .int (nI mx)]))])) (va_Qi (fun (r9 : Int32) (_ : Unit) => r9 = sel (decide (a < 16)) (nI (Ib a)) (-1)) (fun _ t => va_P (dC, dI) vwCl [(aR, .inr (1, [.ref aM, .ref aO, .ref aI, .ref aT, .ref aE, .int ff])), (aM, .inl (kM, 384, .inl (nM Mm))), (aO, .inl (kO, 16, .inl (nM Ob))), (aI, .inl (kI, 16, .inl (nM Ib))), (aT, .inr (0, [.int (nI 0), .int (nI 8), .int (nI tx), .int (nI nx)])), (aE, .inr (0, [.int (nI 64), .int (nI 16), .int (nI rx), .int (nI mx)]))] t.heap ∧ va_K (dC, dI) vwCl [(kM, .int), (kO, .int), (kI, .int)] t ∧ va_D (va_A [(aR, .inr (1, [.ref aM, .ref aO, .ref aI, .ref aT, .ref aE, .int ff])), (aM, .inl (kM, 384, .inl (nM Mm))), (aO, .inl (kO, 16, .inl (nM Ob))), (aI, .inl (kI, 16, .inl (nM Ib))), (aT, .inr (0, [.int (nI 0), .int (nI 8), .int (nI tx), .int (nI nx)])), (aE, .inr (0, [.int (nI 64), .int (nI 16), .int (nI rx), .int (nI mx)]))] sz) [(aR, .inr (1, [.ref aM, .ref aO, .ref aI, .ref aT, .ref aE, .int ff])), (aM, .inl (kM, 384, .inl (nM Mm))), (aO, .inl (kO, 16, .inl (nM Ob))), (aI, .inl (kI, 16, .inl (nM Ib))), (aT, .inr (0, [.int (nI 0), .int (nI 8), .int (nI tx), .int (nI nx)])), (aE, .inr (0, [.int (nI 64), .int (nI 16), .int (nI rx), .int (nI mx)]))]) (va_A [(aR, .inr (1, [.ref aM, .ref aO, .ref aI, .ref aT, .ref aE, .int ff])), (aM, .inl (kM, 384, .inl (nM Mm))), (aO, .inl (kO, 16, .inl (nM Ob))), (aI, .inl (kI, 16, .inl (nM Ib))), (aT, .inr (0, [.int (nI 0), .int (nI 8), .int (nI tx), .int (nI nx)])), (aE, .inr (0, [.int (nI 64), .int (nI 16), .int (nI rx), .int (nI mx)]))] sz)) 0 0 (va_A [(aR, .inr (1, [.ref aM, .ref aO, .ref aI, .ref aT, .ref aE, .int ff])), (aM, .inl (kM, 384, .inl (nM Mm))), (aO, .inl (kO, 16, .inl (nM Ob))), (aI, .inl (kI, 16, .inl (nM Ib))), (aT, .inr (0, [.int (nI 0), .int (nI 8), .int (nI tx), .int (nI nx)])), (aE, .inr (0, [.int (nI 64), .int (nI 16), .int (nI rx), .int (nI mx)]))] sz) := by
  refine Met.ofW (cc := cX1_taken) (maxL := 2) (ret := (some .int)) (by decide) rfl ?_
  intro p e s m args below meth c s₁ B hml hv
  obtain ⟨rfl, hsz, hP, hK, hD0⟩ := hv
  have hx := B.exec
  have hb := B.bytes
  have hr := B.returns
  have hts := atoms_spec (ws := wsX1_taken) B.pre
  have hown : s.vm.findClass RX1 = some m.cls := findClass_of_methodNamed B.named
  have hlocks := B.notSynchronized
  have hI1 : ∀ w ∈ u_ws RX1 TX1 6, w ∈ wsX1_taken := by decide +kernel
  subst hsz
  have hD := hD0.self (sz := s.heap.size)
  generalize hAe : va_A [(aR, .inr (1, [.ref aM, .ref aO, .ref aI, .ref aT, .ref aE, .int ff])), (aM, .inl (kM, 384, .inl (nM Mm))), (aO, .inl (kO, 16, .inl (nM Ob))), (aI, .inl (kI, 16, .inl (nM Ib))), (aT, .inr (0, [.int (nI 0), .int (nI 8), .int (nI tx), .int (nI nx)])), (aE, .inr (0, [.int (nI 64), .int (nI 16), .int (nI rx), .int (nI mx)]))] s.heap.size = A at hD ⊢
  have hA : ∀ q : Nat, s.heap.size ≤ q → A q := fun q h => by rw [← hAe]; exact Or.inr h
  have hS : va_S A s.heap s.heap [] := va_S.rf
  have hP : va_P (dC, dI) vwCl [(aR, .inr (1, [.ref aM, .ref aO, .ref aI, .ref aT, .ref aE, .int ff])), (aM, .inl (kM, 384, .inl (nM Mm))), (aO, .inl (kO, 16, .inl (nM Ob))), (aI, .inl (kI, 16, .inl (nM Ib))), (aT, .inr (0, [.int (nI 0), .int (nI 8), .int (nI tx), .int (nI nx)])), (aE, .inr (0, [.int (nI 64), .int (nI 16), .int (nI rx), .int (nI mx)]))] s.heap := hP
  have hl := lv_entry ([.ref aR, .int p0]) (n := 2) (Nat.le_of_ble_eq_true rfl)
  rw [lg_entry_eq]
  generalize (lg_sl ([.ref aR, .int p0]) ++ List.replicate (2 - (lg_sl ([.ref aR, .int p0])).length) Slot.unset).toArray = ls at hl ⊢
  have hl : lv_has ls 2 [(0, .ref aR), (1, .int p0)] := hl
  rcases ha with ⟨hneg, rfl⟩ | ⟨hge, rfl⟩ | ⟨hlt, rfl⟩
  · refine lv_iload_n hx hb dX1_taken_0 rfl (lv_at hl 1 rfl) ?_
    refine lv_if_lt (tgt := 10) hx hb dX1_taken_1 (by decide) (fun c_1 => ?_) (fun c_1 => ?_)
    · refine lv_iconst (v := (-1)) hx hb dX1_taken_10 (by decide +kernel) ?_
      have hP9 := hP.sub (ws' := [(aR, .inr (1, [.ref aM, .ref aO, .ref aI, .ref aT, .ref aE, .int ff])), (aM, .inl (kM, 384, .inl (nM Mm))), (aO, .inl (kO, 16, .inl (nM Ob))), (aI, .inl (kI, 16, .inl (nM Ib))), (aT, .inr (0, [.int (nI 0), .int (nI 8), .int (nI tx), .int (nI nx)])), (aE, .inr (0, [.int (nI 64), .int (nI 16), .int (nI rx), .int (nI mx)]))]) [0, 1, 2, 3, 4, 5] rfl
      have hD9 := hD.sub (ws' := [(aR, .inr (1, [.ref aM, .ref aO, .ref aI, .ref aT, .ref aE, .int ff])), (aM, .inl (kM, 384, .inl (nM Mm))), (aO, .inl (kO, 16, .inl (nM Ob))), (aI, .inl (kI, 16, .inl (nM Ib))), (aT, .inr (0, [.int (nI 0), .int (nI 8), .int (nI tx), .int (nI nx)])), (aE, .inr (0, [.int (nI 64), .int (nI 16), .int (nI rx), .int (nI mx)]))]) [0, 1, 2, 3, 4, 5] (by decide) rfl
      have hK9 := hK.sub (tys' := [(kM, .int), (kO, .int), (kI, .int)]) [0, 1, 2] rfl
      have e_2 : ((-1) : Int32) = sel (decide (16 < 16)) (nI (Ib 16)) (-1) := (by first | exact sel_f (decide_eq_false (by omega)) | exact sel_t (decide_eq_true (by omega)))
      exact W.iret (v := (-1)) hx hb hr (fun t ht hW => ⟨⟨_, (), rfl, e_2, by rw [ht]; exact hP9, va_K.moved hW.alike hK9, hD9⟩, hS.F ht⟩) hS.2.2 dX1_taken_11
    · exact absurd hneg c_1
  · refine lv_iload_n hx hb dX1_taken_0 rfl (lv_at hl 1 rfl) ?_
    refine lv_if_lt (tgt := 10) hx hb dX1_taken_1 (by decide) (fun c_3 => ?_) (fun c_3 => ?_)
    · exact absurd c_3 hge.1
    · refine lv_iload_n hx hb dX1_taken_4 rfl (lv_at hl 1 rfl) ?_
      refine lv_bipush (v := nI 16) hx hb dX1_taken_5 (by decide +kernel) ?_
      refine lv_icmp_lt (tgt := 12) hx hb dX1_taken_7 (by decide) (fun c_4 => ?_) (fun c_4 => ?_)
      · exact absurd (Int32.lt_of_le_of_lt hge.2 c_4) (Int32.lt_irrefl)
      · refine lv_iconst (v := (-1)) hx hb dX1_taken_10 (by decide +kernel) ?_
        have hP9 := hP.sub (ws' := [(aR, .inr (1, [.ref aM, .ref aO, .ref aI, .ref aT, .ref aE, .int ff])), (aM, .inl (kM, 384, .inl (nM Mm))), (aO, .inl (kO, 16, .inl (nM Ob))), (aI, .inl (kI, 16, .inl (nM Ib))), (aT, .inr (0, [.int (nI 0), .int (nI 8), .int (nI tx), .int (nI nx)])), (aE, .inr (0, [.int (nI 64), .int (nI 16), .int (nI rx), .int (nI mx)]))]) [0, 1, 2, 3, 4, 5] rfl
        have hD9 := hD.sub (ws' := [(aR, .inr (1, [.ref aM, .ref aO, .ref aI, .ref aT, .ref aE, .int ff])), (aM, .inl (kM, 384, .inl (nM Mm))), (aO, .inl (kO, 16, .inl (nM Ob))), (aI, .inl (kI, 16, .inl (nM Ib))), (aT, .inr (0, [.int (nI 0), .int (nI 8), .int (nI tx), .int (nI nx)])), (aE, .inr (0, [.int (nI 64), .int (nI 16), .int (nI rx), .int (nI mx)]))]) [0, 1, 2, 3, 4, 5] (by decide) rfl
        have hK9 := hK.sub (tys' := [(kM, .int), (kO, .int), (kI, .int)]) [0, 1, 2] rfl
        have e_5 : ((-1) : Int32) = sel (decide (16 < 16)) (nI (Ib 16)) (-1) := (by first | exact sel_f (decide_eq_false (by omega)) | exact sel_t (decide_eq_true (by omega)))
        exact W.iret (v := (-1)) hx hb hr (fun t ht hW => ⟨⟨_, (), rfl, e_5, by rw [ht]; exact hP9, va_K.moved hW.alike hK9, hD9⟩, hS.F ht⟩) hS.2.2 dX1_taken_11
  · refine lv_iload_n hx hb dX1_taken_0 rfl (lv_at hl 1 rfl) ?_
    refine lv_if_lt (tgt := 10) hx hb dX1_taken_1 (by decide) (fun c_6 => ?_) (fun c_6 => ?_)
    · exact absurd c_6 (nI_pos (by omega))
    · refine lv_iload_n hx hb dX1_taken_4 rfl (lv_at hl 1 rfl) ?_
      refine lv_bipush (v := nI 16) hx hb dX1_taken_5 (by decide +kernel) ?_
      refine lv_icmp_lt (tgt := 12) hx hb dX1_taken_7 (by decide) (fun c_7 => ?_) (fun c_7 => ?_)
      · have c_7 : a < 16 := (nI_ltI (a := a) (b := 16) (by omega) (by omega)).mp c_7
        refine lv_aload_n hx hb dX1_taken_12 rfl (lv_at hl 0 rfl) ?_
        refine va_get (D := (dC, dI)) (ci := 1) (v := .ref aI) (C := RX1) (T := TX1) (N := 6) hx hb hts hI1 hown hK hP 0 rfl rfl 2 (by decide) (hts (.fieldLink RX1 16 "RingDriver" "inBox" "[I") (by decide +kernel)) (fun _ h9 => h9) rfl dX1_taken_13 ?_
        refine lv_iload_n hx hb dX1_taken_16 rfl (lv_at hl 1 rfl) ?_
        refine va_iald hx hb hK hP 3 2 rfl rfl (vp_in_nI (n := a) (N := 16) (by omega) (by decide)) dX1_taken_17 ?_
        have h9 : a < 2 ^ 31 := Nat.lt_trans (m := 16) (by omega) (by decide)
        refine lv_topi (fun y_8 ey_8 => ?_)
        obtain rfl : y_8 = nI (Ib a) := ey_8.trans (rdA (nM Ib) h9)
        have hP9 := hP.sub (ws' := [(aR, .inr (1, [.ref aM, .ref aO, .ref aI, .ref aT, .ref aE, .int ff])), (aM, .inl (kM, 384, .inl (nM Mm))), (aO, .inl (kO, 16, .inl (nM Ob))), (aI, .inl (kI, 16, .inl (nM Ib))), (aT, .inr (0, [.int (nI 0), .int (nI 8), .int (nI tx), .int (nI nx)])), (aE, .inr (0, [.int (nI 64), .int (nI 16), .int (nI rx), .int (nI mx)]))]) [0, 1, 2, 3, 4, 5] rfl
        have hD9 := hD.sub (ws' := [(aR, .inr (1, [.ref aM, .ref aO, .ref aI, .ref aT, .ref aE, .int ff])), (aM, .inl (kM, 384, .inl (nM Mm))), (aO, .inl (kO, 16, .inl (nM Ob))), (aI, .inl (kI, 16, .inl (nM Ib))), (aT, .inr (0, [.int (nI 0), .int (nI 8), .int (nI tx), .int (nI nx)])), (aE, .inr (0, [.int (nI 64), .int (nI 16), .int (nI rx), .int (nI mx)]))]) [0, 1, 2, 3, 4, 5] (by decide) rfl
        have hK9 := hK.sub (tys' := [(kM, .int), (kO, .int), (kI, .int)]) [0, 1, 2] rfl
        have e_9 : (nI (Ib a) : Int32) = sel (decide (a < 16)) (nI (Ib a)) (-1) := (by first | exact sel_f (decide_eq_false (by omega)) | exact sel_t (decide_eq_true (by omega)))
        exact W.iret (v := nI (Ib a)) hx hb hr (fun t ht hW => ⟨⟨_, (), rfl, e_9, by rw [ht]; exact hP9, va_K.moved hW.alike hK9, hD9⟩, hS.F ht⟩) hS.2.2 dX1_taken_18
      · have c_7 : ¬ (a < 16) := fun h9 => c_7 ((nI_ltI (a := a) (b := 16) (by omega) (by omega)).mpr h9)
        exact absurd (by omega) c_7
set_option maxHeartbeats 4000000 in
set_option maxRecDepth 100000 in
theorem c_X1_sending (l : Launch) (dC : Nat → ClassId) (dI : Nat → Nat → Nat) (aR : Nat) (aM : Nat) (aO : Nat) (aI : Nat) (aT : Nat) (aE : Nat) (kM : ClassId) (kO : ClassId) (kI : ClassId) (Mm : Nat → Nat) (Ob : Nat → Nat) (Ib : Nat → Nat) (tx : Nat) (nx : Nat) (rx : Nat) (mx : Nat) (ff : Int32) (sz : Nat) (htx : tx < 8) (hnx : nx ≤ 8) (hrx : rx < 8) (hmx : mx ≤ 8) (hM : ∀ j, Mm j < 256) : Met l yX1_sending wsX1_sending ({ frames := 1, cells := 0, slots := 0, locals := 20 }) (va_Pc [.ref aR] (fun U => U.heap.size = sz ∧ va_P (dC, dI) vwCl [(aR, .inr (1, [.ref aM, .ref aO, .ref aI, .ref aT, .ref aE, .int ff])), (aM, .inl (kM, 384, .inl (nM Mm))), (aO, .inl (kO, 16, .inl (nM Ob))), (aI, .inl (kI, 16, .inl (nM Ib))), (aT, .inr (0, [.int (nI 0), .int (nI 8), .int (nI tx), .int (nI nx)])), (aE, .inr (0, [.int (nI 64), .int (nI 16), .int (nI rx), .int (nI mx)]))] U.heap ∧ va_K (dC, dI) vwCl [(kM, .int), (kO, .int), (kI, .int)] U ∧ va_D (fun _ => True) [(aR, .inr (1, [.ref aM, .ref aO, .ref aI, .ref aT, .ref aE, .int ff])), (aM, .inl (kM, 384, .inl (nM Mm))), (aO, .inl (kO, 16, .inl (nM Ob))), (aI, .inl (kI, 16, .inl (nM Ib))), (aT, .inr (0, [.int (nI 0), .int (nI 8), .int (nI tx), .int (nI nx)])), (aE, .inr (0, [.int (nI 64), .int (nI 16), .int (nI rx), .int (nI mx)]))])) (va_Qi (fun (r9 : Int32) (_ : Unit) => r9 = nI nx) (fun _ t => va_P (dC, dI) vwCl [(aR, .inr (1, [.ref aM, .ref aO, .ref aI, .ref aT, .ref aE, .int ff])), (aM, .inl (kM, 384, .inl (nM Mm))), (aO, .inl (kO, 16, .inl (nM Ob))), (aI, .inl (kI, 16, .inl (nM Ib))), (aT, .inr (0, [.int (nI 0), .int (nI 8), .int (nI tx), .int (nI nx)])), (aE, .inr (0, [.int (nI 64), .int (nI 16), .int (nI rx), .int (nI mx)]))] t.heap ∧ va_K (dC, dI) vwCl [(kM, .int), (kO, .int), (kI, .int)] t ∧ va_D (va_A [(aR, .inr (1, [.ref aM, .ref aO, .ref aI, .ref aT, .ref aE, .int ff])), (aM, .inl (kM, 384, .inl (nM Mm))), (aO, .inl (kO, 16, .inl (nM Ob))), (aI, .inl (kI, 16, .inl (nM Ib))), (aT, .inr (0, [.int (nI 0), .int (nI 8), .int (nI tx), .int (nI nx)])), (aE, .inr (0, [.int (nI 64), .int (nI 16), .int (nI rx), .int (nI mx)]))] sz) [(aR, .inr (1, [.ref aM, .ref aO, .ref aI, .ref aT, .ref aE, .int ff])), (aM, .inl (kM, 384, .inl (nM Mm))), (aO, .inl (kO, 16, .inl (nM Ob))), (aI, .inl (kI, 16, .inl (nM Ib))), (aT, .inr (0, [.int (nI 0), .int (nI 8), .int (nI tx), .int (nI nx)])), (aE, .inr (0, [.int (nI 64), .int (nI 16), .int (nI rx), .int (nI mx)]))]) (va_A [(aR, .inr (1, [.ref aM, .ref aO, .ref aI, .ref aT, .ref aE, .int ff])), (aM, .inl (kM, 384, .inl (nM Mm))), (aO, .inl (kO, 16, .inl (nM Ob))), (aI, .inl (kI, 16, .inl (nM Ib))), (aT, .inr (0, [.int (nI 0), .int (nI 8), .int (nI tx), .int (nI nx)])), (aE, .inr (0, [.int (nI 64), .int (nI 16), .int (nI rx), .int (nI mx)]))] sz)) 0 0 (va_A [(aR, .inr (1, [.ref aM, .ref aO, .ref aI, .ref aT, .ref aE, .int ff])), (aM, .inl (kM, 384, .inl (nM Mm))), (aO, .inl (kO, 16, .inl (nM Ob))), (aI, .inl (kI, 16, .inl (nM Ib))), (aT, .inr (0, [.int (nI 0), .int (nI 8), .int (nI tx), .int (nI nx)])), (aE, .inr (0, [.int (nI 64), .int (nI 16), .int (nI rx), .int (nI mx)]))] sz) := by
  refine Met.ofW (cc := cX1_sending) (maxL := 1) (ret := (some .int)) (by decide) rfl ?_
  intro p e s m args below meth c s₁ B hml hv
  obtain ⟨rfl, hsz, hP, hK, hD0⟩ := hv
  have hx := B.exec
  have hb := B.bytes
  have hr := B.returns
  have hts := atoms_spec (ws := wsX1_sending) B.pre
  have hown : s.vm.findClass RX1 = some m.cls := findClass_of_methodNamed B.named
  have hlocks := B.notSynchronized
  have hI1 : ∀ w ∈ u_ws RX1 TX1 6, w ∈ wsX1_sending := by decide +kernel
  subst hsz
  have hD := hD0.self (sz := s.heap.size)
  generalize hAe : va_A [(aR, .inr (1, [.ref aM, .ref aO, .ref aI, .ref aT, .ref aE, .int ff])), (aM, .inl (kM, 384, .inl (nM Mm))), (aO, .inl (kO, 16, .inl (nM Ob))), (aI, .inl (kI, 16, .inl (nM Ib))), (aT, .inr (0, [.int (nI 0), .int (nI 8), .int (nI tx), .int (nI nx)])), (aE, .inr (0, [.int (nI 64), .int (nI 16), .int (nI rx), .int (nI mx)]))] s.heap.size = A at hD ⊢
  have hA : ∀ q : Nat, s.heap.size ≤ q → A q := fun q h => by rw [← hAe]; exact Or.inr h
  have hS : va_S A s.heap s.heap [] := va_S.rf
  have hP : va_P (dC, dI) vwCl [(aR, .inr (1, [.ref aM, .ref aO, .ref aI, .ref aT, .ref aE, .int ff])), (aM, .inl (kM, 384, .inl (nM Mm))), (aO, .inl (kO, 16, .inl (nM Ob))), (aI, .inl (kI, 16, .inl (nM Ib))), (aT, .inr (0, [.int (nI 0), .int (nI 8), .int (nI tx), .int (nI nx)])), (aE, .inr (0, [.int (nI 64), .int (nI 16), .int (nI rx), .int (nI mx)]))] s.heap := hP
  have hl := lv_entry ([.ref aR]) (n := 1) (Nat.le_of_ble_eq_true rfl)
  rw [lg_entry_eq]
  generalize (lg_sl ([.ref aR]) ++ List.replicate (1 - (lg_sl ([.ref aR])).length) Slot.unset).toArray = ls at hl ⊢
  have hl : lv_has ls 1 [(0, .ref aR)] := hl
  refine lv_aload_n hx hb dX1_sending_0 rfl (lv_at hl 0 rfl) ?_
  refine va_get (D := (dC, dI)) (ci := 1) (v := .ref aT) (C := RX1) (T := TX1) (N := 6) hx hb hts hI1 hown hK hP 0 rfl rfl 3 (by decide) (hts (.fieldLink RX1 24 "RingDriver" "transmitQueue" "LRingDriver$SlotQueue;") (by decide +kernel)) (fun _ h9 => h9) rfl dX1_sending_1 ?_
  have hPc := hP.sub (ws' := [(aT, .inr (0, [.int (nI 0), .int (nI 8), .int (nI tx), .int (nI nx)]))]) [4] rfl
  have hDc := hD.sub (ws' := [(aT, .inr (0, [.int (nI 0), .int (nI 8), .int (nI tx), .int (nI nx)]))]) [4] (by decide) rfl
  have hKc := hK.sub (tys' := []) [] rfl
  have hFc := va_free (wc := [(aT, .inr (0, [.int (nI 0), .int (nI 8), .int (nI tx), .int (nI nx)]))]) hD hS hA [4] rfl
  refine va_calli (va_runV (As := []) (rest := []) ⟨hx, hb, hml, hown, hts⟩ (c_X0_size l dC dI aT 0 8 tx nx s.heap.size ) (cwV 0 hts gX1_sending_X0_size rfl rfl rfl (by decide +kernel) ⟨Nat.le_of_ble_eq_true rfl, Nat.le_of_ble_eq_true rfl⟩) ⟨fun a U g mk q => by obtain ⟨q0, q1, qP, qK, qD⟩ := q; exact ⟨q0, q1, qP, va_K.moved (u := U) (U := U.calling g mk a) (Vm.Alike.refl U.vm) qK, qD⟩, va_recv hKc hPc (ci := 0) (q0 := 0) rfl rfl, fun U hU hW => ⟨rfl, by rw [hU], by rw [hU]; exact hPc, va_K.moved hW.alike hKc, hDc.weaken (fun _ _ _ _ => trivial)⟩⟩ rfl rfl hl.1 rfl (lv_room (Nat.le_of_ble_eq_true rfl)) dX1_sending_4 ⟨Nat.le_of_ble_eq_true rfl, Nat.le_of_ble_eq_true rfl⟩) hS (fun q _ h => hFc q h) hFc (fun r_1 u t H1 locs ht hvm hw hB hz1 hk1 hS => ?_)
  obtain ⟨hP1, hK1, hD1⟩ := hB
  rw [ht] at hP1
  have hK1 := va_K.moved hvm.symm hK1
  obtain ⟨hP, hD⟩ := va_join (wr := [(aR, .inr (1, [.ref aM, .ref aO, .ref aI, .ref aT, .ref aE, .int ff])), (aM, .inl (kM, 384, .inl (nM Mm))), (aO, .inl (kO, 16, .inl (nM Ob))), (aI, .inl (kI, 16, .inl (nM Ib))), (aE, .inr (0, [.int (nI 64), .int (nI 16), .int (nI rx), .int (nI mx)]))]) (w1 := [(aT, .inr (0, [.int (nI 0), .int (nI 8), .int (nI tx), .int (nI nx)]))]) hP hD [4] [0, 1, 2, 3, 5] rfl rfl (by decide) (by decide) hk1 hFc hP1 hD1
  have hK := (hK.sub (tys' := [(kM, .int), (kO, .int), (kI, .int)]) [0, 1, 2] rfl).app hK1
  generalize H1 = H at hP hS ⊢
  have hP : va_P (dC, dI) vwCl [(aR, .inr (1, [.ref aM, .ref aO, .ref aI, .ref aT, .ref aE, .int ff])), (aM, .inl (kM, 384, .inl (nM Mm))), (aO, .inl (kO, 16, .inl (nM Ob))), (aI, .inl (kI, 16, .inl (nM Ib))), (aE, .inr (0, [.int (nI 64), .int (nI 16), .int (nI rx), .int (nI mx)])), (aT, .inr (0, [.int (nI 0), .int (nI 8), .int (nI tx), .int (nI nx)]))] H := hP
  have hD : va_D A [(aR, .inr (1, [.ref aM, .ref aO, .ref aI, .ref aT, .ref aE, .int ff])), (aM, .inl (kM, 384, .inl (nM Mm))), (aO, .inl (kO, 16, .inl (nM Ob))), (aI, .inl (kI, 16, .inl (nM Ib))), (aE, .inr (0, [.int (nI 64), .int (nI 16), .int (nI rx), .int (nI mx)])), (aT, .inr (0, [.int (nI 0), .int (nI 8), .int (nI tx), .int (nI nx)]))] := hD
  have hK : va_K (dC, dI) vwCl [(kM, .int), (kO, .int), (kI, .int)] s := hK
  obtain rfl : r_1 = nI nx := hw
  have hP9 := hP.sub (ws' := [(aR, .inr (1, [.ref aM, .ref aO, .ref aI, .ref aT, .ref aE, .int ff])), (aM, .inl (kM, 384, .inl (nM Mm))), (aO, .inl (kO, 16, .inl (nM Ob))), (aI, .inl (kI, 16, .inl (nM Ib))), (aT, .inr (0, [.int (nI 0), .int (nI 8), .int (nI tx), .int (nI nx)])), (aE, .inr (0, [.int (nI 64), .int (nI 16), .int (nI rx), .int (nI mx)]))]) [0, 1, 2, 3, 5, 4] rfl
  have hD9 := hD.sub (ws' := [(aR, .inr (1, [.ref aM, .ref aO, .ref aI, .ref aT, .ref aE, .int ff])), (aM, .inl (kM, 384, .inl (nM Mm))), (aO, .inl (kO, 16, .inl (nM Ob))), (aI, .inl (kI, 16, .inl (nM Ib))), (aT, .inr (0, [.int (nI 0), .int (nI 8), .int (nI tx), .int (nI nx)])), (aE, .inr (0, [.int (nI 64), .int (nI 16), .int (nI rx), .int (nI mx)]))]) [0, 1, 2, 3, 5, 4] (by decide) rfl
  have hK9 := hK.sub (tys' := [(kM, .int), (kO, .int), (kI, .int)]) [0, 1, 2] rfl
  have e_2 : (nI nx : Int32) = nI nx := rfl
  exact W.iret (v := nI nx) hx hb hr (fun t ht hW => ⟨⟨_, (), rfl, e_2, by rw [ht]; exact hP9, va_K.moved hW.alike hK9, hD9⟩, hS.F ht⟩) hS.2.2 dX1_sending_7
set_option maxHeartbeats 4000000 in
set_option maxRecDepth 100000 in
theorem c_X1_receiving (l : Launch) (dC : Nat → ClassId) (dI : Nat → Nat → Nat) (aR : Nat) (aM : Nat) (aO : Nat) (aI : Nat) (aT : Nat) (aE : Nat) (kM : ClassId) (kO : ClassId) (kI : ClassId) (Mm : Nat → Nat) (Ob : Nat → Nat) (Ib : Nat → Nat) (tx : Nat) (nx : Nat) (rx : Nat) (mx : Nat) (ff : Int32) (sz : Nat) (htx : tx < 8) (hnx : nx ≤ 8) (hrx : rx < 8) (hmx : mx ≤ 8) (hM : ∀ j, Mm j < 256) : Met l yX1_receiving wsX1_receiving ({ frames := 1, cells := 0, slots := 0, locals := 20 }) (va_Pc [.ref aR] (fun U => U.heap.size = sz ∧ va_P (dC, dI) vwCl [(aR, .inr (1, [.ref aM, .ref aO, .ref aI, .ref aT, .ref aE, .int ff])), (aM, .inl (kM, 384, .inl (nM Mm))), (aO, .inl (kO, 16, .inl (nM Ob))), (aI, .inl (kI, 16, .inl (nM Ib))), (aT, .inr (0, [.int (nI 0), .int (nI 8), .int (nI tx), .int (nI nx)])), (aE, .inr (0, [.int (nI 64), .int (nI 16), .int (nI rx), .int (nI mx)]))] U.heap ∧ va_K (dC, dI) vwCl [(kM, .int), (kO, .int), (kI, .int)] U ∧ va_D (fun _ => True) [(aR, .inr (1, [.ref aM, .ref aO, .ref aI, .ref aT, .ref aE, .int ff])), (aM, .inl (kM, 384, .inl (nM Mm))), (aO, .inl (kO, 16, .inl (nM Ob))), (aI, .inl (kI, 16, .inl (nM Ib))), (aT, .inr (0, [.int (nI 0), .int (nI 8), .int (nI tx), .int (nI nx)])), (aE, .inr (0, [.int (nI 64), .int (nI 16), .int (nI rx), .int (nI mx)]))])) (va_Qi (fun (r9 : Int32) (_ : Unit) => r9 = nI mx) (fun _ t => va_P (dC, dI) vwCl [(aR, .inr (1, [.ref aM, .ref aO, .ref aI, .ref aT, .ref aE, .int ff])), (aM, .inl (kM, 384, .inl (nM Mm))), (aO, .inl (kO, 16, .inl (nM Ob))), (aI, .inl (kI, 16, .inl (nM Ib))), (aT, .inr (0, [.int (nI 0), .int (nI 8), .int (nI tx), .int (nI nx)])), (aE, .inr (0, [.int (nI 64), .int (nI 16), .int (nI rx), .int (nI mx)]))] t.heap ∧ va_K (dC, dI) vwCl [(kM, .int), (kO, .int), (kI, .int)] t ∧ va_D (va_A [(aR, .inr (1, [.ref aM, .ref aO, .ref aI, .ref aT, .ref aE, .int ff])), (aM, .inl (kM, 384, .inl (nM Mm))), (aO, .inl (kO, 16, .inl (nM Ob))), (aI, .inl (kI, 16, .inl (nM Ib))), (aT, .inr (0, [.int (nI 0), .int (nI 8), .int (nI tx), .int (nI nx)])), (aE, .inr (0, [.int (nI 64), .int (nI 16), .int (nI rx), .int (nI mx)]))] sz) [(aR, .inr (1, [.ref aM, .ref aO, .ref aI, .ref aT, .ref aE, .int ff])), (aM, .inl (kM, 384, .inl (nM Mm))), (aO, .inl (kO, 16, .inl (nM Ob))), (aI, .inl (kI, 16, .inl (nM Ib))), (aT, .inr (0, [.int (nI 0), .int (nI 8), .int (nI tx), .int (nI nx)])), (aE, .inr (0, [.int (nI 64), .int (nI 16), .int (nI rx), .int (nI mx)]))]) (va_A [(aR, .inr (1, [.ref aM, .ref aO, .ref aI, .ref aT, .ref aE, .int ff])), (aM, .inl (kM, 384, .inl (nM Mm))), (aO, .inl (kO, 16, .inl (nM Ob))), (aI, .inl (kI, 16, .inl (nM Ib))), (aT, .inr (0, [.int (nI 0), .int (nI 8), .int (nI tx), .int (nI nx)])), (aE, .inr (0, [.int (nI 64), .int (nI 16), .int (nI rx), .int (nI mx)]))] sz)) 0 0 (va_A [(aR, .inr (1, [.ref aM, .ref aO, .ref aI, .ref aT, .ref aE, .int ff])), (aM, .inl (kM, 384, .inl (nM Mm))), (aO, .inl (kO, 16, .inl (nM Ob))), (aI, .inl (kI, 16, .inl (nM Ib))), (aT, .inr (0, [.int (nI 0), .int (nI 8), .int (nI tx), .int (nI nx)])), (aE, .inr (0, [.int (nI 64), .int (nI 16), .int (nI rx), .int (nI mx)]))] sz) := by
  refine Met.ofW (cc := cX1_receiving) (maxL := 1) (ret := (some .int)) (by decide) rfl ?_
  intro p e s m args below meth c s₁ B hml hv
  obtain ⟨rfl, hsz, hP, hK, hD0⟩ := hv
  have hx := B.exec
  have hb := B.bytes
  have hr := B.returns
  have hts := atoms_spec (ws := wsX1_receiving) B.pre
  have hown : s.vm.findClass RX1 = some m.cls := findClass_of_methodNamed B.named
  have hlocks := B.notSynchronized
  have hI1 : ∀ w ∈ u_ws RX1 TX1 6, w ∈ wsX1_receiving := by decide +kernel
  subst hsz
  have hD := hD0.self (sz := s.heap.size)
  generalize hAe : va_A [(aR, .inr (1, [.ref aM, .ref aO, .ref aI, .ref aT, .ref aE, .int ff])), (aM, .inl (kM, 384, .inl (nM Mm))), (aO, .inl (kO, 16, .inl (nM Ob))), (aI, .inl (kI, 16, .inl (nM Ib))), (aT, .inr (0, [.int (nI 0), .int (nI 8), .int (nI tx), .int (nI nx)])), (aE, .inr (0, [.int (nI 64), .int (nI 16), .int (nI rx), .int (nI mx)]))] s.heap.size = A at hD ⊢
  have hA : ∀ q : Nat, s.heap.size ≤ q → A q := fun q h => by rw [← hAe]; exact Or.inr h
  have hS : va_S A s.heap s.heap [] := va_S.rf
  have hP : va_P (dC, dI) vwCl [(aR, .inr (1, [.ref aM, .ref aO, .ref aI, .ref aT, .ref aE, .int ff])), (aM, .inl (kM, 384, .inl (nM Mm))), (aO, .inl (kO, 16, .inl (nM Ob))), (aI, .inl (kI, 16, .inl (nM Ib))), (aT, .inr (0, [.int (nI 0), .int (nI 8), .int (nI tx), .int (nI nx)])), (aE, .inr (0, [.int (nI 64), .int (nI 16), .int (nI rx), .int (nI mx)]))] s.heap := hP
  have hl := lv_entry ([.ref aR]) (n := 1) (Nat.le_of_ble_eq_true rfl)
  rw [lg_entry_eq]
  generalize (lg_sl ([.ref aR]) ++ List.replicate (1 - (lg_sl ([.ref aR])).length) Slot.unset).toArray = ls at hl ⊢
  have hl : lv_has ls 1 [(0, .ref aR)] := hl
  refine lv_aload_n hx hb dX1_receiving_0 rfl (lv_at hl 0 rfl) ?_
  refine va_get (D := (dC, dI)) (ci := 1) (v := .ref aE) (C := RX1) (T := TX1) (N := 6) hx hb hts hI1 hown hK hP 0 rfl rfl 4 (by decide) (hts (.fieldLink RX1 28 "RingDriver" "receiveQueue" "LRingDriver$SlotQueue;") (by decide +kernel)) (fun _ h9 => h9) rfl dX1_receiving_1 ?_
  have hPc := hP.sub (ws' := [(aE, .inr (0, [.int (nI 64), .int (nI 16), .int (nI rx), .int (nI mx)]))]) [5] rfl
  have hDc := hD.sub (ws' := [(aE, .inr (0, [.int (nI 64), .int (nI 16), .int (nI rx), .int (nI mx)]))]) [5] (by decide) rfl
  have hKc := hK.sub (tys' := []) [] rfl
  have hFc := va_free (wc := [(aE, .inr (0, [.int (nI 64), .int (nI 16), .int (nI rx), .int (nI mx)]))]) hD hS hA [5] rfl
  refine va_calli (va_runV (As := []) (rest := []) ⟨hx, hb, hml, hown, hts⟩ (c_X0_size l dC dI aE 64 16 rx mx s.heap.size ) (cwV 0 hts gX1_receiving_X0_size rfl rfl rfl (by decide +kernel) ⟨Nat.le_of_ble_eq_true rfl, Nat.le_of_ble_eq_true rfl⟩) ⟨fun a U g mk q => by obtain ⟨q0, q1, qP, qK, qD⟩ := q; exact ⟨q0, q1, qP, va_K.moved (u := U) (U := U.calling g mk a) (Vm.Alike.refl U.vm) qK, qD⟩, va_recv hKc hPc (ci := 0) (q0 := 0) rfl rfl, fun U hU hW => ⟨rfl, by rw [hU], by rw [hU]; exact hPc, va_K.moved hW.alike hKc, hDc.weaken (fun _ _ _ _ => trivial)⟩⟩ rfl rfl hl.1 rfl (lv_room (Nat.le_of_ble_eq_true rfl)) dX1_receiving_4 ⟨Nat.le_of_ble_eq_true rfl, Nat.le_of_ble_eq_true rfl⟩) hS (fun q _ h => hFc q h) hFc (fun r_1 u t H1 locs ht hvm hw hB hz1 hk1 hS => ?_)
  obtain ⟨hP1, hK1, hD1⟩ := hB
  rw [ht] at hP1
  have hK1 := va_K.moved hvm.symm hK1
  obtain ⟨hP, hD⟩ := va_join (wr := [(aR, .inr (1, [.ref aM, .ref aO, .ref aI, .ref aT, .ref aE, .int ff])), (aM, .inl (kM, 384, .inl (nM Mm))), (aO, .inl (kO, 16, .inl (nM Ob))), (aI, .inl (kI, 16, .inl (nM Ib))), (aT, .inr (0, [.int (nI 0), .int (nI 8), .int (nI tx), .int (nI nx)]))]) (w1 := [(aE, .inr (0, [.int (nI 64), .int (nI 16), .int (nI rx), .int (nI mx)]))]) hP hD [5] [0, 1, 2, 3, 4] rfl rfl (by decide) (by decide) hk1 hFc hP1 hD1
  have hK := (hK.sub (tys' := [(kM, .int), (kO, .int), (kI, .int)]) [0, 1, 2] rfl).app hK1
  generalize H1 = H at hP hS ⊢
  have hP : va_P (dC, dI) vwCl [(aR, .inr (1, [.ref aM, .ref aO, .ref aI, .ref aT, .ref aE, .int ff])), (aM, .inl (kM, 384, .inl (nM Mm))), (aO, .inl (kO, 16, .inl (nM Ob))), (aI, .inl (kI, 16, .inl (nM Ib))), (aT, .inr (0, [.int (nI 0), .int (nI 8), .int (nI tx), .int (nI nx)])), (aE, .inr (0, [.int (nI 64), .int (nI 16), .int (nI rx), .int (nI mx)]))] H := hP
  have hD : va_D A [(aR, .inr (1, [.ref aM, .ref aO, .ref aI, .ref aT, .ref aE, .int ff])), (aM, .inl (kM, 384, .inl (nM Mm))), (aO, .inl (kO, 16, .inl (nM Ob))), (aI, .inl (kI, 16, .inl (nM Ib))), (aT, .inr (0, [.int (nI 0), .int (nI 8), .int (nI tx), .int (nI nx)])), (aE, .inr (0, [.int (nI 64), .int (nI 16), .int (nI rx), .int (nI mx)]))] := hD
  have hK : va_K (dC, dI) vwCl [(kM, .int), (kO, .int), (kI, .int)] s := hK
  obtain rfl : r_1 = nI mx := hw
  have hP9 := hP.sub (ws' := [(aR, .inr (1, [.ref aM, .ref aO, .ref aI, .ref aT, .ref aE, .int ff])), (aM, .inl (kM, 384, .inl (nM Mm))), (aO, .inl (kO, 16, .inl (nM Ob))), (aI, .inl (kI, 16, .inl (nM Ib))), (aT, .inr (0, [.int (nI 0), .int (nI 8), .int (nI tx), .int (nI nx)])), (aE, .inr (0, [.int (nI 64), .int (nI 16), .int (nI rx), .int (nI mx)]))]) [0, 1, 2, 3, 4, 5] rfl
  have hD9 := hD.sub (ws' := [(aR, .inr (1, [.ref aM, .ref aO, .ref aI, .ref aT, .ref aE, .int ff])), (aM, .inl (kM, 384, .inl (nM Mm))), (aO, .inl (kO, 16, .inl (nM Ob))), (aI, .inl (kI, 16, .inl (nM Ib))), (aT, .inr (0, [.int (nI 0), .int (nI 8), .int (nI tx), .int (nI nx)])), (aE, .inr (0, [.int (nI 64), .int (nI 16), .int (nI rx), .int (nI mx)]))]) [0, 1, 2, 3, 4, 5] (by decide) rfl
  have hK9 := hK.sub (tys' := [(kM, .int), (kO, .int), (kI, .int)]) [0, 1, 2] rfl
  have e_2 : (nI mx : Int32) = nI mx := rfl
  exact W.iret (v := nI mx) hx hb hr (fun t ht hW => ⟨⟨_, (), rfl, e_2, by rw [ht]; exact hP9, va_K.moved hW.alike hK9, hD9⟩, hS.F ht⟩) hS.2.2 dX1_receiving_7
set_option maxHeartbeats 4000000 in
set_option maxRecDepth 100000 in
theorem c_X1_send (l : Launch) (dC : Nat → ClassId) (dI : Nat → Nat → Nat) (aR : Nat) (aM : Nat) (aO : Nat) (aI : Nat) (aT : Nat) (aE : Nat) (kM : ClassId) (kO : ClassId) (kI : ClassId) (Mm : Nat → Nat) (Ob : Nat → Nat) (Ib : Nat → Nat) (tx : Nat) (nx : Nat) (rx : Nat) (mx : Nat) (ff : Int32) (p0 : Int32) (k : Nat) (sz : Nat) (htx : tx < 8) (hnx : nx ≤ 8) (hrx : rx < 8) (hmx : mx ≤ 8) (hM : ∀ j, Mm j < 256) (hk : LX p0 k) : Met l yX1_send wsX1_send ({ frames := 4, cells := 0, slots := 0, locals := 86 }) (va_Pc [.ref aR, .int p0] (fun U => U.heap.size = sz ∧ va_P (dC, dI) vwCl [(aR, .inr (1, [.ref aM, .ref aO, .ref aI, .ref aT, .ref aE, .int ff])), (aM, .inl (kM, 384, .inl (nM Mm))), (aO, .inl (kO, 16, .inl (nM Ob))), (aI, .inl (kI, 16, .inl (nM Ib))), (aT, .inr (0, [.int (nI 0), .int (nI 8), .int (nI tx), .int (nI nx)])), (aE, .inr (0, [.int (nI 64), .int (nI 16), .int (nI rx), .int (nI mx)]))] U.heap ∧ va_K (dC, dI) vwCl [(kM, .int), (kO, .int), (kI, .int)] U ∧ va_D (fun _ => True) [(aR, .inr (1, [.ref aM, .ref aO, .ref aI, .ref aT, .ref aE, .int ff])), (aM, .inl (kM, 384, .inl (nM Mm))), (aO, .inl (kO, 16, .inl (nM Ob))), (aI, .inl (kI, 16, .inl (nM Ib))), (aT, .inr (0, [.int (nI 0), .int (nI 8), .int (nI tx), .int (nI nx)])), (aE, .inr (0, [.int (nI 64), .int (nI 16), .int (nI rx), .int (nI mx)]))])) (va_Qi (fun (r9 : Int32) (_ : Unit) => r9 = sel (decide (0 < k)) (sel (decide (nx < 8)) (nI ((tx + nx) % 8)) (-1)) (-2)) (fun _ t => va_P (dC, dI) vwCl [(aR, .inr (1, [.ref aM, .ref aO, .ref aI, .ref aT, .ref aE, .int ff])), (aM, .inl (kM, 384, .inl (nM (selM (decide (0 < k)) (pnM Mm Ob 0 8 tx nx k) Mm)))), (aO, .inl (kO, 16, .inl (nM Ob))), (aI, .inl (kI, 16, .inl (nM Ib))), (aT, .inr (0, [.int (nI 0), .int (nI 8), .int (nI tx), .int (nI (selN (decide (0 < k)) (selN (decide (nx < 8)) (nx + 1) nx) nx))])), (aE, .inr (0, [.int (nI 64), .int (nI 16), .int (nI rx), .int (nI mx)]))] t.heap ∧ va_K (dC, dI) vwCl [(kM, .int), (kO, .int), (kI, .int)] t ∧ va_D (va_A [(aR, .inr (1, [.ref aM, .ref aO, .ref aI, .ref aT, .ref aE, .int ff])), (aM, .inl (kM, 384, .inl (nM Mm))), (aO, .inl (kO, 16, .inl (nM Ob))), (aI, .inl (kI, 16, .inl (nM Ib))), (aT, .inr (0, [.int (nI 0), .int (nI 8), .int (nI tx), .int (nI nx)])), (aE, .inr (0, [.int (nI 64), .int (nI 16), .int (nI rx), .int (nI mx)]))] sz) [(aR, .inr (1, [.ref aM, .ref aO, .ref aI, .ref aT, .ref aE, .int ff])), (aM, .inl (kM, 384, .inl (nM (selM (decide (0 < k)) (pnM Mm Ob 0 8 tx nx k) Mm)))), (aO, .inl (kO, 16, .inl (nM Ob))), (aI, .inl (kI, 16, .inl (nM Ib))), (aT, .inr (0, [.int (nI 0), .int (nI 8), .int (nI tx), .int (nI (selN (decide (0 < k)) (selN (decide (nx < 8)) (nx + 1) nx) nx))])), (aE, .inr (0, [.int (nI 64), .int (nI 16), .int (nI rx), .int (nI mx)]))]) (va_A [(aR, .inr (1, [.ref aM, .ref aO, .ref aI, .ref aT, .ref aE, .int ff])), (aM, .inl (kM, 384, .inl (nM Mm))), (aO, .inl (kO, 16, .inl (nM Ob))), (aI, .inl (kI, 16, .inl (nM Ib))), (aT, .inr (0, [.int (nI 0), .int (nI 8), .int (nI tx), .int (nI nx)])), (aE, .inr (0, [.int (nI 64), .int (nI 16), .int (nI rx), .int (nI mx)]))] sz)) 0 0 (va_A [(aR, .inr (1, [.ref aM, .ref aO, .ref aI, .ref aT, .ref aE, .int ff])), (aM, .inl (kM, 384, .inl (nM Mm))), (aO, .inl (kO, 16, .inl (nM Ob))), (aI, .inl (kI, 16, .inl (nM Ib))), (aT, .inr (0, [.int (nI 0), .int (nI 8), .int (nI tx), .int (nI nx)])), (aE, .inr (0, [.int (nI 64), .int (nI 16), .int (nI rx), .int (nI mx)]))] sz) := by
  refine Met.ofW (cc := cX1_send) (maxL := 2) (ret := (some .int)) (by decide) rfl ?_
  intro p e s m args below meth c s₁ B hml hv
  obtain ⟨rfl, hsz, hP, hK, hD0⟩ := hv
  have hx := B.exec
  have hb := B.bytes
  have hr := B.returns
  have hts := atoms_spec (ws := wsX1_send) B.pre
  have hown : s.vm.findClass RX1 = some m.cls := findClass_of_methodNamed B.named
  have hlocks := B.notSynchronized
  have hI1 : ∀ w ∈ u_ws RX1 TX1 6, w ∈ wsX1_send := by decide +kernel
  subst hsz
  have hD := hD0.self (sz := s.heap.size)
  generalize hAe : va_A [(aR, .inr (1, [.ref aM, .ref aO, .ref aI, .ref aT, .ref aE, .int ff])), (aM, .inl (kM, 384, .inl (nM Mm))), (aO, .inl (kO, 16, .inl (nM Ob))), (aI, .inl (kI, 16, .inl (nM Ib))), (aT, .inr (0, [.int (nI 0), .int (nI 8), .int (nI tx), .int (nI nx)])), (aE, .inr (0, [.int (nI 64), .int (nI 16), .int (nI rx), .int (nI mx)]))] s.heap.size = A at hD ⊢
  have hA : ∀ q : Nat, s.heap.size ≤ q → A q := fun q h => by rw [← hAe]; exact Or.inr h
  have hS : va_S A s.heap s.heap [] := va_S.rf
  have hP : va_P (dC, dI) vwCl [(aR, .inr (1, [.ref aM, .ref aO, .ref aI, .ref aT, .ref aE, .int ff])), (aM, .inl (kM, 384, .inl (nM Mm))), (aO, .inl (kO, 16, .inl (nM Ob))), (aI, .inl (kI, 16, .inl (nM Ib))), (aT, .inr (0, [.int (nI 0), .int (nI 8), .int (nI tx), .int (nI nx)])), (aE, .inr (0, [.int (nI 64), .int (nI 16), .int (nI rx), .int (nI mx)]))] s.heap := hP
  have hl := lv_entry ([.ref aR, .int p0]) (n := 2) (Nat.le_of_ble_eq_true rfl)
  rw [lg_entry_eq]
  generalize (lg_sl ([.ref aR, .int p0]) ++ List.replicate (2 - (lg_sl ([.ref aR, .int p0])).length) Slot.unset).toArray = ls at hl ⊢
  have hl : lv_has ls 2 [(0, .ref aR), (1, .int p0)] := hl
  have hk0 := hk
  rcases hk with ⟨hlo, rfl⟩ | ⟨hhi, rfl⟩ | ⟨hkk, rfl⟩
  · refine lv_iload_n hx hb dX1_send_0 rfl (lv_at hl 1 rfl) ?_
    have hPc := hP.sub (ws' := []) [] rfl
    have hDc := hD.sub (ws' := []) [] (by decide) rfl
    have hKc := hK.sub (tys' := []) [] rfl
    have hFc := va_free (wc := []) hD hS hA [] rfl
    refine va_calli (va_runS (As := [.int p0]) (rest := []) ⟨hx, hb, hml, hown, hts⟩ (c_X1_isFrameLength l dC dI p0 0 s.heap.size hk0) (va_cwS 1 hts gX1_send_X1_isFrameLength rfl rfl rfl (by decide +kernel) ⟨Nat.le_of_ble_eq_true rfl, Nat.le_of_ble_eq_true rfl⟩) ⟨fun a U g mk q => by obtain ⟨q0, q1, qP, qK, qD⟩ := q; exact ⟨q0, q1, qP, va_K.moved (u := U) (U := U.calling g mk a) (Vm.Alike.refl U.vm) qK, qD⟩, fun U hU hW => ⟨rfl, by rw [hU], by rw [hU]; exact hPc, va_K.moved hW.alike hKc, hDc.weaken (fun _ _ _ _ => trivial)⟩⟩ rfl rfl hl.1 rfl (lv_room (Nat.le_of_ble_eq_true rfl)) dX1_send_1 ⟨Nat.le_of_ble_eq_true rfl, Nat.le_of_ble_eq_true rfl⟩) hS (fun q _ h => hFc q h) hFc (fun r_1 u t H1 locs ht hvm hw hB hz1 hk1 hS => ?_)
    obtain ⟨hP1, hK1, hD1⟩ := hB
    rw [ht] at hP1
    have hK1 := va_K.moved hvm.symm hK1
    obtain ⟨hP, hD⟩ := va_join (wr := [(aR, .inr (1, [.ref aM, .ref aO, .ref aI, .ref aT, .ref aE, .int ff])), (aM, .inl (kM, 384, .inl (nM Mm))), (aO, .inl (kO, 16, .inl (nM Ob))), (aI, .inl (kI, 16, .inl (nM Ib))), (aT, .inr (0, [.int (nI 0), .int (nI 8), .int (nI tx), .int (nI nx)])), (aE, .inr (0, [.int (nI 64), .int (nI 16), .int (nI rx), .int (nI mx)]))]) (w1 := []) hP hD [] [0, 1, 2, 3, 4, 5] rfl rfl (by decide) (by decide) hk1 hFc hP1 hD1
    have hK := (hK.sub (tys' := [(kM, .int), (kO, .int), (kI, .int)]) [0, 1, 2] rfl).app hK1
    generalize H1 = H at hP hS ⊢
    have hP : va_P (dC, dI) vwCl [(aR, .inr (1, [.ref aM, .ref aO, .ref aI, .ref aT, .ref aE, .int ff])), (aM, .inl (kM, 384, .inl (nM Mm))), (aO, .inl (kO, 16, .inl (nM Ob))), (aI, .inl (kI, 16, .inl (nM Ib))), (aT, .inr (0, [.int (nI 0), .int (nI 8), .int (nI tx), .int (nI nx)])), (aE, .inr (0, [.int (nI 64), .int (nI 16), .int (nI rx), .int (nI mx)]))] H := hP
    have hD : va_D A [(aR, .inr (1, [.ref aM, .ref aO, .ref aI, .ref aT, .ref aE, .int ff])), (aM, .inl (kM, 384, .inl (nM Mm))), (aO, .inl (kO, 16, .inl (nM Ob))), (aI, .inl (kI, 16, .inl (nM Ib))), (aT, .inr (0, [.int (nI 0), .int (nI 8), .int (nI tx), .int (nI nx)])), (aE, .inr (0, [.int (nI 64), .int (nI 16), .int (nI rx), .int (nI mx)]))] := hD
    have hK : va_K (dC, dI) vwCl [(kM, .int), (kO, .int), (kI, .int)] s := hK
    obtain rfl : r_1 = b01 (decide (0 < 0)) := hw
    refine lv_if_ne (tgt := 10) hx hb dX1_send_4 (by decide) (fun c_2 => ?_) (fun c_2 => ?_)
    · have c_2 := b01_n c_2
      exact absurd c_2 (by decide)
    · have c_2 := b01_e c_2
      refine lv_bipush (v := (-2)) hx hb dX1_send_7 (by decide +kernel) ?_
      have hP9 := hP.sub (ws' := [(aR, .inr (1, [.ref aM, .ref aO, .ref aI, .ref aT, .ref aE, .int ff])), (aM, .inl (kM, 384, .inl (nM Mm))), (aO, .inl (kO, 16, .inl (nM Ob))), (aI, .inl (kI, 16, .inl (nM Ib))), (aT, .inr (0, [.int (nI 0), .int (nI 8), .int (nI tx), .int (nI nx)])), (aE, .inr (0, [.int (nI 64), .int (nI 16), .int (nI rx), .int (nI mx)]))]) [0, 1, 2, 3, 4, 5] rfl
      have hD9 := hD.sub (ws' := [(aR, .inr (1, [.ref aM, .ref aO, .ref aI, .ref aT, .ref aE, .int ff])), (aM, .inl (kM, 384, .inl (nM Mm))), (aO, .inl (kO, 16, .inl (nM Ob))), (aI, .inl (kI, 16, .inl (nM Ib))), (aT, .inr (0, [.int (nI 0), .int (nI 8), .int (nI tx), .int (nI nx)])), (aE, .inr (0, [.int (nI 64), .int (nI 16), .int (nI rx), .int (nI mx)]))]) [0, 1, 2, 3, 4, 5] (by decide) rfl
      have hK9 := hK.sub (tys' := [(kM, .int), (kO, .int), (kI, .int)]) [0, 1, 2] rfl
      have e_3 : (nM Mm) = nM (selM (decide (0 < 0)) (pnM Mm Ob 0 8 tx nx 0) Mm) := congrArg nM (selM_f (by decide))
      have e_4 : (nI nx : Int32) = nI (selN (decide (0 < 0)) (selN (decide (nx < 8)) (nx + 1) nx) nx) := congrArg nI (selN_f (by decide))
      have hP9 : va_P (dC, dI) vwCl [(aR, .inr (1, [.ref aM, .ref aO, .ref aI, .ref aT, .ref aE, .int ff])), (aM, .inl (kM, 384, .inl (nM (selM (decide (0 < 0)) (pnM Mm Ob 0 8 tx nx 0) Mm)))), (aO, .inl (kO, 16, .inl (nM Ob))), (aI, .inl (kI, 16, .inl (nM Ib))), (aT, .inr (0, [.int (nI 0), .int (nI 8), .int (nI tx), .int (nI nx)])), (aE, .inr (0, [.int (nI 64), .int (nI 16), .int (nI rx), .int (nI mx)]))] H := Eq.mp (congrArg (fun (z1 : Nat → Int32) => va_P (dC, dI) vwCl [(aR, .inr (1, [.ref aM, .ref aO, .ref aI, .ref aT, .ref aE, .int ff])), (aM, .inl (kM, 384, .inl z1)), (aO, .inl (kO, 16, .inl (nM Ob))), (aI, .inl (kI, 16, .inl (nM Ib))), (aT, .inr (0, [.int (nI 0), .int (nI 8), .int (nI tx), .int (nI nx)])), (aE, .inr (0, [.int (nI 64), .int (nI 16), .int (nI rx), .int (nI mx)]))] H) e_3) hP9
      have hD9 : va_D A [(aR, .inr (1, [.ref aM, .ref aO, .ref aI, .ref aT, .ref aE, .int ff])), (aM, .inl (kM, 384, .inl (nM (selM (decide (0 < 0)) (pnM Mm Ob 0 8 tx nx 0) Mm)))), (aO, .inl (kO, 16, .inl (nM Ob))), (aI, .inl (kI, 16, .inl (nM Ib))), (aT, .inr (0, [.int (nI 0), .int (nI 8), .int (nI tx), .int (nI nx)])), (aE, .inr (0, [.int (nI 64), .int (nI 16), .int (nI rx), .int (nI mx)]))] := Eq.mp (congrArg (fun (z1 : Nat → Int32) => va_D A [(aR, .inr (1, [.ref aM, .ref aO, .ref aI, .ref aT, .ref aE, .int ff])), (aM, .inl (kM, 384, .inl z1)), (aO, .inl (kO, 16, .inl (nM Ob))), (aI, .inl (kI, 16, .inl (nM Ib))), (aT, .inr (0, [.int (nI 0), .int (nI 8), .int (nI tx), .int (nI nx)])), (aE, .inr (0, [.int (nI 64), .int (nI 16), .int (nI rx), .int (nI mx)]))]) e_3) hD9
      have hP9 : va_P (dC, dI) vwCl [(aR, .inr (1, [.ref aM, .ref aO, .ref aI, .ref aT, .ref aE, .int ff])), (aM, .inl (kM, 384, .inl (nM (selM (decide (0 < 0)) (pnM Mm Ob 0 8 tx nx 0) Mm)))), (aO, .inl (kO, 16, .inl (nM Ob))), (aI, .inl (kI, 16, .inl (nM Ib))), (aT, .inr (0, [.int (nI 0), .int (nI 8), .int (nI tx), .int (nI (selN (decide (0 < 0)) (selN (decide (nx < 8)) (nx + 1) nx) nx))])), (aE, .inr (0, [.int (nI 64), .int (nI 16), .int (nI rx), .int (nI mx)]))] H := Eq.mp (congrArg (fun (z1 : Int32) => va_P (dC, dI) vwCl [(aR, .inr (1, [.ref aM, .ref aO, .ref aI, .ref aT, .ref aE, .int ff])), (aM, .inl (kM, 384, .inl (nM (selM (decide (0 < 0)) (pnM Mm Ob 0 8 tx nx 0) Mm)))), (aO, .inl (kO, 16, .inl (nM Ob))), (aI, .inl (kI, 16, .inl (nM Ib))), (aT, .inr (0, [.int (nI 0), .int (nI 8), .int (nI tx), .int z1])), (aE, .inr (0, [.int (nI 64), .int (nI 16), .int (nI rx), .int (nI mx)]))] H) e_4) hP9
      have hD9 : va_D A [(aR, .inr (1, [.ref aM, .ref aO, .ref aI, .ref aT, .ref aE, .int ff])), (aM, .inl (kM, 384, .inl (nM (selM (decide (0 < 0)) (pnM Mm Ob 0 8 tx nx 0) Mm)))), (aO, .inl (kO, 16, .inl (nM Ob))), (aI, .inl (kI, 16, .inl (nM Ib))), (aT, .inr (0, [.int (nI 0), .int (nI 8), .int (nI tx), .int (nI (selN (decide (0 < 0)) (selN (decide (nx < 8)) (nx + 1) nx) nx))])), (aE, .inr (0, [.int (nI 64), .int (nI 16), .int (nI rx), .int (nI mx)]))] := Eq.mp (congrArg (fun (z1 : Int32) => va_D A [(aR, .inr (1, [.ref aM, .ref aO, .ref aI, .ref aT, .ref aE, .int ff])), (aM, .inl (kM, 384, .inl (nM (selM (decide (0 < 0)) (pnM Mm Ob 0 8 tx nx 0) Mm)))), (aO, .inl (kO, 16, .inl (nM Ob))), (aI, .inl (kI, 16, .inl (nM Ib))), (aT, .inr (0, [.int (nI 0), .int (nI 8), .int (nI tx), .int z1])), (aE, .inr (0, [.int (nI 64), .int (nI 16), .int (nI rx), .int (nI mx)]))]) e_4) hD9
      have e_5 : ((-2) : Int32) = sel (decide (0 < 0)) (sel (decide (nx < 8)) (nI ((tx + nx) % 8)) (-1)) (-2) := sel_f (by decide)
      exact W.iret (v := (-2)) hx hb hr (fun t ht hW => ⟨⟨_, (), rfl, e_5, by rw [ht]; exact hP9, va_K.moved hW.alike hK9, hD9⟩, hS.F ht⟩) hS.2.2 dX1_send_9
  · refine lv_iload_n hx hb dX1_send_0 rfl (lv_at hl 1 rfl) ?_
    have hPc := hP.sub (ws' := []) [] rfl
    have hDc := hD.sub (ws' := []) [] (by decide) rfl
    have hKc := hK.sub (tys' := []) [] rfl
    have hFc := va_free (wc := []) hD hS hA [] rfl
    refine va_calli (va_runS (As := [.int p0]) (rest := []) ⟨hx, hb, hml, hown, hts⟩ (c_X1_isFrameLength l dC dI p0 0 s.heap.size hk0) (va_cwS 1 hts gX1_send_X1_isFrameLength rfl rfl rfl (by decide +kernel) ⟨Nat.le_of_ble_eq_true rfl, Nat.le_of_ble_eq_true rfl⟩) ⟨fun a U g mk q => by obtain ⟨q0, q1, qP, qK, qD⟩ := q; exact ⟨q0, q1, qP, va_K.moved (u := U) (U := U.calling g mk a) (Vm.Alike.refl U.vm) qK, qD⟩, fun U hU hW => ⟨rfl, by rw [hU], by rw [hU]; exact hPc, va_K.moved hW.alike hKc, hDc.weaken (fun _ _ _ _ => trivial)⟩⟩ rfl rfl hl.1 rfl (lv_room (Nat.le_of_ble_eq_true rfl)) dX1_send_1 ⟨Nat.le_of_ble_eq_true rfl, Nat.le_of_ble_eq_true rfl⟩) hS (fun q _ h => hFc q h) hFc (fun r_6 u t H1 locs ht hvm hw hB hz1 hk1 hS => ?_)
    obtain ⟨hP1, hK1, hD1⟩ := hB
    rw [ht] at hP1
    have hK1 := va_K.moved hvm.symm hK1
    obtain ⟨hP, hD⟩ := va_join (wr := [(aR, .inr (1, [.ref aM, .ref aO, .ref aI, .ref aT, .ref aE, .int ff])), (aM, .inl (kM, 384, .inl (nM Mm))), (aO, .inl (kO, 16, .inl (nM Ob))), (aI, .inl (kI, 16, .inl (nM Ib))), (aT, .inr (0, [.int (nI 0), .int (nI 8), .int (nI tx), .int (nI nx)])), (aE, .inr (0, [.int (nI 64), .int (nI 16), .int (nI rx), .int (nI mx)]))]) (w1 := []) hP hD [] [0, 1, 2, 3, 4, 5] rfl rfl (by decide) (by decide) hk1 hFc hP1 hD1
    have hK := (hK.sub (tys' := [(kM, .int), (kO, .int), (kI, .int)]) [0, 1, 2] rfl).app hK1
    generalize H1 = H at hP hS ⊢
    have hP : va_P (dC, dI) vwCl [(aR, .inr (1, [.ref aM, .ref aO, .ref aI, .ref aT, .ref aE, .int ff])), (aM, .inl (kM, 384, .inl (nM Mm))), (aO, .inl (kO, 16, .inl (nM Ob))), (aI, .inl (kI, 16, .inl (nM Ib))), (aT, .inr (0, [.int (nI 0), .int (nI 8), .int (nI tx), .int (nI nx)])), (aE, .inr (0, [.int (nI 64), .int (nI 16), .int (nI rx), .int (nI mx)]))] H := hP
    have hD : va_D A [(aR, .inr (1, [.ref aM, .ref aO, .ref aI, .ref aT, .ref aE, .int ff])), (aM, .inl (kM, 384, .inl (nM Mm))), (aO, .inl (kO, 16, .inl (nM Ob))), (aI, .inl (kI, 16, .inl (nM Ib))), (aT, .inr (0, [.int (nI 0), .int (nI 8), .int (nI tx), .int (nI nx)])), (aE, .inr (0, [.int (nI 64), .int (nI 16), .int (nI rx), .int (nI mx)]))] := hD
    have hK : va_K (dC, dI) vwCl [(kM, .int), (kO, .int), (kI, .int)] s := hK
    obtain rfl : r_6 = b01 (decide (0 < 0)) := hw
    refine lv_if_ne (tgt := 10) hx hb dX1_send_4 (by decide) (fun c_7 => ?_) (fun c_7 => ?_)
    · have c_7 := b01_n c_7
      exact absurd c_7 (by decide)
    · have c_7 := b01_e c_7
      refine lv_bipush (v := (-2)) hx hb dX1_send_7 (by decide +kernel) ?_
      have hP9 := hP.sub (ws' := [(aR, .inr (1, [.ref aM, .ref aO, .ref aI, .ref aT, .ref aE, .int ff])), (aM, .inl (kM, 384, .inl (nM Mm))), (aO, .inl (kO, 16, .inl (nM Ob))), (aI, .inl (kI, 16, .inl (nM Ib))), (aT, .inr (0, [.int (nI 0), .int (nI 8), .int (nI tx), .int (nI nx)])), (aE, .inr (0, [.int (nI 64), .int (nI 16), .int (nI rx), .int (nI mx)]))]) [0, 1, 2, 3, 4, 5] rfl
      have hD9 := hD.sub (ws' := [(aR, .inr (1, [.ref aM, .ref aO, .ref aI, .ref aT, .ref aE, .int ff])), (aM, .inl (kM, 384, .inl (nM Mm))), (aO, .inl (kO, 16, .inl (nM Ob))), (aI, .inl (kI, 16, .inl (nM Ib))), (aT, .inr (0, [.int (nI 0), .int (nI 8), .int (nI tx), .int (nI nx)])), (aE, .inr (0, [.int (nI 64), .int (nI 16), .int (nI rx), .int (nI mx)]))]) [0, 1, 2, 3, 4, 5] (by decide) rfl
      have hK9 := hK.sub (tys' := [(kM, .int), (kO, .int), (kI, .int)]) [0, 1, 2] rfl
      have e_8 : (nM Mm) = nM (selM (decide (0 < 0)) (pnM Mm Ob 0 8 tx nx 0) Mm) := congrArg nM (selM_f (by decide))
      have e_9 : (nI nx : Int32) = nI (selN (decide (0 < 0)) (selN (decide (nx < 8)) (nx + 1) nx) nx) := congrArg nI (selN_f (by decide))
      have hP9 : va_P (dC, dI) vwCl [(aR, .inr (1, [.ref aM, .ref aO, .ref aI, .ref aT, .ref aE, .int ff])), (aM, .inl (kM, 384, .inl (nM (selM (decide (0 < 0)) (pnM Mm Ob 0 8 tx nx 0) Mm)))), (aO, .inl (kO, 16, .inl (nM Ob))), (aI, .inl (kI, 16, .inl (nM Ib))), (aT, .inr (0, [.int (nI 0), .int (nI 8), .int (nI tx), .int (nI nx)])), (aE, .inr (0, [.int (nI 64), .int (nI 16), .int (nI rx), .int (nI mx)]))] H := Eq.mp (congrArg (fun (z1 : Nat → Int32) => va_P (dC, dI) vwCl [(aR, .inr (1, [.ref aM, .ref aO, .ref aI, .ref aT, .ref aE, .int ff])), (aM, .inl (kM, 384, .inl z1)), (aO, .inl (kO, 16, .inl (nM Ob))), (aI, .inl (kI, 16, .inl (nM Ib))), (aT, .inr (0, [.int (nI 0), .int (nI 8), .int (nI tx), .int (nI nx)])), (aE, .inr (0, [.int (nI 64), .int (nI 16), .int (nI rx), .int (nI mx)]))] H) e_8) hP9
      have hD9 : va_D A [(aR, .inr (1, [.ref aM, .ref aO, .ref aI, .ref aT, .ref aE, .int ff])), (aM, .inl (kM, 384, .inl (nM (selM (decide (0 < 0)) (pnM Mm Ob 0 8 tx nx 0) Mm)))), (aO, .inl (kO, 16, .inl (nM Ob))), (aI, .inl (kI, 16, .inl (nM Ib))), (aT, .inr (0, [.int (nI 0), .int (nI 8), .int (nI tx), .int (nI nx)])), (aE, .inr (0, [.int (nI 64), .int (nI 16), .int (nI rx), .int (nI mx)]))] := Eq.mp (congrArg (fun (z1 : Nat → Int32) => va_D A [(aR, .inr (1, [.ref aM, .ref aO, .ref aI, .ref aT, .ref aE, .int ff])), (aM, .inl (kM, 384, .inl z1)), (aO, .inl (kO, 16, .inl (nM Ob))), (aI, .inl (kI, 16, .inl (nM Ib))), (aT, .inr (0, [.int (nI 0), .int (nI 8), .int (nI tx), .int (nI nx)])), (aE, .inr (0, [.int (nI 64), .int (nI 16), .int (nI rx), .int (nI mx)]))]) e_8) hD9
      have hP9 : va_P (dC, dI) vwCl [(aR, .inr (1, [.ref aM, .ref aO, .ref aI, .ref aT, .ref aE, .int ff])), (aM, .inl (kM, 384, .inl (nM (selM (decide (0 < 0)) (pnM Mm Ob 0 8 tx nx 0) Mm)))), (aO, .inl (kO, 16, .inl (nM Ob))), (aI, .inl (kI, 16, .inl (nM Ib))), (aT, .inr (0, [.int (nI 0), .int (nI 8), .int (nI tx), .int (nI (selN (decide (0 < 0)) (selN (decide (nx < 8)) (nx + 1) nx) nx))])), (aE, .inr (0, [.int (nI 64), .int (nI 16), .int (nI rx), .int (nI mx)]))] H := Eq.mp (congrArg (fun (z1 : Int32) => va_P (dC, dI) vwCl [(aR, .inr (1, [.ref aM, .ref aO, .ref aI, .ref aT, .ref aE, .int ff])), (aM, .inl (kM, 384, .inl (nM (selM (decide (0 < 0)) (pnM Mm Ob 0 8 tx nx 0) Mm)))), (aO, .inl (kO, 16, .inl (nM Ob))), (aI, .inl (kI, 16, .inl (nM Ib))), (aT, .inr (0, [.int (nI 0), .int (nI 8), .int (nI tx), .int z1])), (aE, .inr (0, [.int (nI 64), .int (nI 16), .int (nI rx), .int (nI mx)]))] H) e_9) hP9
      have hD9 : va_D A [(aR, .inr (1, [.ref aM, .ref aO, .ref aI, .ref aT, .ref aE, .int ff])), (aM, .inl (kM, 384, .inl (nM (selM (decide (0 < 0)) (pnM Mm Ob 0 8 tx nx 0) Mm)))), (aO, .inl (kO, 16, .inl (nM Ob))), (aI, .inl (kI, 16, .inl (nM Ib))), (aT, .inr (0, [.int (nI 0), .int (nI 8), .int (nI tx), .int (nI (selN (decide (0 < 0)) (selN (decide (nx < 8)) (nx + 1) nx) nx))])), (aE, .inr (0, [.int (nI 64), .int (nI 16), .int (nI rx), .int (nI mx)]))] := Eq.mp (congrArg (fun (z1 : Int32) => va_D A [(aR, .inr (1, [.ref aM, .ref aO, .ref aI, .ref aT, .ref aE, .int ff])), (aM, .inl (kM, 384, .inl (nM (selM (decide (0 < 0)) (pnM Mm Ob 0 8 tx nx 0) Mm)))), (aO, .inl (kO, 16, .inl (nM Ob))), (aI, .inl (kI, 16, .inl (nM Ib))), (aT, .inr (0, [.int (nI 0), .int (nI 8), .int (nI tx), .int z1])), (aE, .inr (0, [.int (nI 64), .int (nI 16), .int (nI rx), .int (nI mx)]))]) e_9) hD9
      have e_10 : ((-2) : Int32) = sel (decide (0 < 0)) (sel (decide (nx < 8)) (nI ((tx + nx) % 8)) (-1)) (-2) := sel_f (by decide)
      exact W.iret (v := (-2)) hx hb hr (fun t ht hW => ⟨⟨_, (), rfl, e_10, by rw [ht]; exact hP9, va_K.moved hW.alike hK9, hD9⟩, hS.F ht⟩) hS.2.2 dX1_send_9
  · refine lv_iload_n hx hb dX1_send_0 rfl (lv_at hl 1 rfl) ?_
    have hPc := hP.sub (ws' := []) [] rfl
    have hDc := hD.sub (ws' := []) [] (by decide) rfl
    have hKc := hK.sub (tys' := []) [] rfl
    have hFc := va_free (wc := []) hD hS hA [] rfl
    refine va_calli (va_runS (As := [.int (nI k)]) (rest := []) ⟨hx, hb, hml, hown, hts⟩ (c_X1_isFrameLength l dC dI (nI k) k s.heap.size hk0) (va_cwS 1 hts gX1_send_X1_isFrameLength rfl rfl rfl (by decide +kernel) ⟨Nat.le_of_ble_eq_true rfl, Nat.le_of_ble_eq_true rfl⟩) ⟨fun a U g mk q => by obtain ⟨q0, q1, qP, qK, qD⟩ := q; exact ⟨q0, q1, qP, va_K.moved (u := U) (U := U.calling g mk a) (Vm.Alike.refl U.vm) qK, qD⟩, fun U hU hW => ⟨rfl, by rw [hU], by rw [hU]; exact hPc, va_K.moved hW.alike hKc, hDc.weaken (fun _ _ _ _ => trivial)⟩⟩ rfl rfl hl.1 rfl (lv_room (Nat.le_of_ble_eq_true rfl)) dX1_send_1 ⟨Nat.le_of_ble_eq_true rfl, Nat.le_of_ble_eq_true rfl⟩) hS (fun q _ h => hFc q h) hFc (fun r_11 u t H1 locs ht hvm hw hB hz1 hk1 hS => ?_)
    obtain ⟨hP1, hK1, hD1⟩ := hB
    rw [ht] at hP1
    have hK1 := va_K.moved hvm.symm hK1
    obtain ⟨hP, hD⟩ := va_join (wr := [(aR, .inr (1, [.ref aM, .ref aO, .ref aI, .ref aT, .ref aE, .int ff])), (aM, .inl (kM, 384, .inl (nM Mm))), (aO, .inl (kO, 16, .inl (nM Ob))), (aI, .inl (kI, 16, .inl (nM Ib))), (aT, .inr (0, [.int (nI 0), .int (nI 8), .int (nI tx), .int (nI nx)])), (aE, .inr (0, [.int (nI 64), .int (nI 16), .int (nI rx), .int (nI mx)]))]) (w1 := []) hP hD [] [0, 1, 2, 3, 4, 5] rfl rfl (by decide) (by decide) hk1 hFc hP1 hD1
    have hK := (hK.sub (tys' := [(kM, .int), (kO, .int), (kI, .int)]) [0, 1, 2] rfl).app hK1
    generalize H1 = H at hP hS ⊢
    have hP : va_P (dC, dI) vwCl [(aR, .inr (1, [.ref aM, .ref aO, .ref aI, .ref aT, .ref aE, .int ff])), (aM, .inl (kM, 384, .inl (nM Mm))), (aO, .inl (kO, 16, .inl (nM Ob))), (aI, .inl (kI, 16, .inl (nM Ib))), (aT, .inr (0, [.int (nI 0), .int (nI 8), .int (nI tx), .int (nI nx)])), (aE, .inr (0, [.int (nI 64), .int (nI 16), .int (nI rx), .int (nI mx)]))] H := hP
    have hD : va_D A [(aR, .inr (1, [.ref aM, .ref aO, .ref aI, .ref aT, .ref aE, .int ff])), (aM, .inl (kM, 384, .inl (nM Mm))), (aO, .inl (kO, 16, .inl (nM Ob))), (aI, .inl (kI, 16, .inl (nM Ib))), (aT, .inr (0, [.int (nI 0), .int (nI 8), .int (nI tx), .int (nI nx)])), (aE, .inr (0, [.int (nI 64), .int (nI 16), .int (nI rx), .int (nI mx)]))] := hD
    have hK : va_K (dC, dI) vwCl [(kM, .int), (kO, .int), (kI, .int)] s := hK
    obtain rfl : r_11 = b01 (decide (0 < k)) := hw
    refine lv_if_ne (tgt := 10) hx hb dX1_send_4 (by decide) (fun c_12 => ?_) (fun c_12 => ?_)
    · have c_12 := b01_n c_12
      refine lv_aload_n hx hb dX1_send_10 rfl (lv_at hl 0 rfl) ?_
      refine lv_aload_n hx hb dX1_send_11 rfl (lv_at hl 0 rfl) ?_
      refine va_get (D := (dC, dI)) (ci := 1) (v := .ref aT) (C := RX1) (T := TX1) (N := 6) hx hb hts hI1 hown hK hP 0 rfl rfl 3 (by decide) (hts (.fieldLink RX1 24 "RingDriver" "transmitQueue" "LRingDriver$SlotQueue;") (by decide +kernel)) (fun _ h9 => h9) rfl dX1_send_12 ?_
      refine lv_iload_n hx hb dX1_send_15 rfl (lv_at hl 1 rfl) ?_
      have hPc := hP.sub (ws' := [(aR, .inr (1, [.ref aM, .ref aO, .ref aI, .ref aT, .ref aE, .int ff])), (aM, .inl (kM, 384, .inl (nM Mm))), (aO, .inl (kO, 16, .inl (nM Ob))), (aT, .inr (0, [.int (nI 0), .int (nI 8), .int (nI tx), .int (nI nx)]))]) [0, 1, 2, 4] rfl
      have hDc := hD.sub (ws' := [(aR, .inr (1, [.ref aM, .ref aO, .ref aI, .ref aT, .ref aE, .int ff])), (aM, .inl (kM, 384, .inl (nM Mm))), (aO, .inl (kO, 16, .inl (nM Ob))), (aT, .inr (0, [.int (nI 0), .int (nI 8), .int (nI tx), .int (nI nx)]))]) [0, 1, 2, 4] (by decide) rfl
      have hKc := hK.sub (tys' := [(kM, .int), (kO, .int)]) [0, 1] rfl
      have hFc := va_free (wc := [(aR, .inr (1, [.ref aM, .ref aO, .ref aI, .ref aT, .ref aE, .int ff])), (aM, .inl (kM, 384, .inl (nM Mm))), (aO, .inl (kO, 16, .inl (nM Ob))), (aT, .inr (0, [.int (nI 0), .int (nI 8), .int (nI tx), .int (nI nx)]))]) hD hS hA [0, 1, 2, 4] rfl
      refine va_calli (va_runV (As := [.ref aT, .int (nI k)]) (rest := []) ⟨hx, hb, hml, hown, hts⟩ (c_X1_postNext l dC dI aR aM aO aI aT aE ff kM Mm kO Ob aT 0 8 tx nx k H.size (by omega) (by omega) (by omega) (by omega) (by omega)) (cwV 2 hts gX1_send_X1_postNext rfl rfl rfl (by decide +kernel) ⟨Nat.le_of_ble_eq_true rfl, Nat.le_of_ble_eq_true rfl⟩) ⟨fun a U g mk q => by obtain ⟨q0, q1, qP, qK, qD⟩ := q; exact ⟨q0, q1, qP, va_K.moved (u := U) (U := U.calling g mk a) (Vm.Alike.refl U.vm) qK, qD⟩, va_recv hKc hPc (ci := 1) (q0 := 0) rfl rfl, fun U hU hW => ⟨rfl, by rw [hU], by rw [hU]; exact hPc, va_K.moved hW.alike hKc, hDc.weaken (fun _ _ _ _ => trivial)⟩⟩ rfl rfl hl.1 rfl (lv_room (Nat.le_of_ble_eq_true rfl)) dX1_send_16 ⟨Nat.le_of_ble_eq_true rfl, Nat.le_of_ble_eq_true rfl⟩) hS (fun q _ h => hFc q h) hFc (fun r_13 u t H1 locs ht hvm hw hB hz1 hk1 hS => ?_)
      obtain ⟨hP1, hK1, hD1⟩ := hB
      rw [ht] at hP1
      have hK1 := va_K.moved hvm.symm hK1
      obtain ⟨hP, hD⟩ := va_join (wr := [(aI, .inl (kI, 16, .inl (nM Ib))), (aE, .inr (0, [.int (nI 64), .int (nI 16), .int (nI rx), .int (nI mx)]))]) (w1 := [(aR, .inr (1, [.ref aM, .ref aO, .ref aI, .ref aT, .ref aE, .int ff])), (aM, .inl (kM, 384, .inl (nM (pnM Mm Ob 0 8 tx nx k)))), (aO, .inl (kO, 16, .inl (nM Ob))), (aT, .inr (0, [.int (nI 0), .int (nI 8), .int (nI tx), .int (nI (selN (decide (nx < 8)) (nx + 1) nx))]))]) hP hD [0, 1, 2, 4] [3, 5] rfl rfl (by decide) (by decide) hk1 hFc hP1 hD1
      have hK := (hK.sub (tys' := [(kI, .int)]) [2] rfl).app hK1
      generalize H1 = H at hP hS ⊢
      have hP : va_P (dC, dI) vwCl [(aI, .inl (kI, 16, .inl (nM Ib))), (aE, .inr (0, [.int (nI 64), .int (nI 16), .int (nI rx), .int (nI mx)])), (aR, .inr (1, [.ref aM, .ref aO, .ref aI, .ref aT, .ref aE, .int ff])), (aM, .inl (kM, 384, .inl (nM (pnM Mm Ob 0 8 tx nx k)))), (aO, .inl (kO, 16, .inl (nM Ob))), (aT, .inr (0, [.int (nI 0), .int (nI 8), .int (nI tx), .int (nI (selN (decide (nx < 8)) (nx + 1) nx))]))] H := hP
      have hD : va_D A [(aI, .inl (kI, 16, .inl (nM Ib))), (aE, .inr (0, [.int (nI 64), .int (nI 16), .int (nI rx), .int (nI mx)])), (aR, .inr (1, [.ref aM, .ref aO, .ref aI, .ref aT, .ref aE, .int ff])), (aM, .inl (kM, 384, .inl (nM (pnM Mm Ob 0 8 tx nx k)))), (aO, .inl (kO, 16, .inl (nM Ob))), (aT, .inr (0, [.int (nI 0), .int (nI 8), .int (nI tx), .int (nI (selN (decide (nx < 8)) (nx + 1) nx))]))] := hD
      have hK : va_K (dC, dI) vwCl [(kI, .int), (kM, .int), (kO, .int)] s := hK
      obtain rfl : r_13 = sel (decide (nx < 8)) (nI ((tx + nx) % 8)) (-1) := hw
      have hP9 := hP.sub (ws' := [(aR, .inr (1, [.ref aM, .ref aO, .ref aI, .ref aT, .ref aE, .int ff])), (aM, .inl (kM, 384, .inl (nM (pnM Mm Ob 0 8 tx nx k)))), (aO, .inl (kO, 16, .inl (nM Ob))), (aI, .inl (kI, 16, .inl (nM Ib))), (aT, .inr (0, [.int (nI 0), .int (nI 8), .int (nI tx), .int (nI (selN (decide (nx < 8)) (nx + 1) nx))])), (aE, .inr (0, [.int (nI 64), .int (nI 16), .int (nI rx), .int (nI mx)]))]) [2, 3, 4, 0, 5, 1] rfl
      have hD9 := hD.sub (ws' := [(aR, .inr (1, [.ref aM, .ref aO, .ref aI, .ref aT, .ref aE, .int ff])), (aM, .inl (kM, 384, .inl (nM (pnM Mm Ob 0 8 tx nx k)))), (aO, .inl (kO, 16, .inl (nM Ob))), (aI, .inl (kI, 16, .inl (nM Ib))), (aT, .inr (0, [.int (nI 0), .int (nI 8), .int (nI tx), .int (nI (selN (decide (nx < 8)) (nx + 1) nx))])), (aE, .inr (0, [.int (nI 64), .int (nI 16), .int (nI rx), .int (nI mx)]))]) [2, 3, 4, 0, 5, 1] (by decide) rfl
      have hK9 := hK.sub (tys' := [(kM, .int), (kO, .int), (kI, .int)]) [1, 2, 0] rfl
      have e_14 : (nM (pnM Mm Ob 0 8 tx nx k)) = nM (selM (decide (0 < k)) (pnM Mm Ob 0 8 tx nx k) Mm) := congrArg nM (selM_t (decide_eq_true (by omega)))
      have e_15 : (nI (selN (decide (nx < 8)) (nx + 1) nx) : Int32) = nI (selN (decide (0 < k)) (selN (decide (nx < 8)) (nx + 1) nx) nx) := congrArg nI (selN_t (decide_eq_true (by omega)))
      have hP9 : va_P (dC, dI) vwCl [(aR, .inr (1, [.ref aM, .ref aO, .ref aI, .ref aT, .ref aE, .int ff])), (aM, .inl (kM, 384, .inl (nM (selM (decide (0 < k)) (pnM Mm Ob 0 8 tx nx k) Mm)))), (aO, .inl (kO, 16, .inl (nM Ob))), (aI, .inl (kI, 16, .inl (nM Ib))), (aT, .inr (0, [.int (nI 0), .int (nI 8), .int (nI tx), .int (nI (selN (decide (nx < 8)) (nx + 1) nx))])), (aE, .inr (0, [.int (nI 64), .int (nI 16), .int (nI rx), .int (nI mx)]))] H := Eq.mp (congrArg (fun (z1 : Nat → Int32) => va_P (dC, dI) vwCl [(aR, .inr (1, [.ref aM, .ref aO, .ref aI, .ref aT, .ref aE, .int ff])), (aM, .inl (kM, 384, .inl z1)), (aO, .inl (kO, 16, .inl (nM Ob))), (aI, .inl (kI, 16, .inl (nM Ib))), (aT, .inr (0, [.int (nI 0), .int (nI 8), .int (nI tx), .int (nI (selN (decide (nx < 8)) (nx + 1) nx))])), (aE, .inr (0, [.int (nI 64), .int (nI 16), .int (nI rx), .int (nI mx)]))] H) e_14) hP9
      have hD9 : va_D A [(aR, .inr (1, [.ref aM, .ref aO, .ref aI, .ref aT, .ref aE, .int ff])), (aM, .inl (kM, 384, .inl (nM (selM (decide (0 < k)) (pnM Mm Ob 0 8 tx nx k) Mm)))), (aO, .inl (kO, 16, .inl (nM Ob))), (aI, .inl (kI, 16, .inl (nM Ib))), (aT, .inr (0, [.int (nI 0), .int (nI 8), .int (nI tx), .int (nI (selN (decide (nx < 8)) (nx + 1) nx))])), (aE, .inr (0, [.int (nI 64), .int (nI 16), .int (nI rx), .int (nI mx)]))] := Eq.mp (congrArg (fun (z1 : Nat → Int32) => va_D A [(aR, .inr (1, [.ref aM, .ref aO, .ref aI, .ref aT, .ref aE, .int ff])), (aM, .inl (kM, 384, .inl z1)), (aO, .inl (kO, 16, .inl (nM Ob))), (aI, .inl (kI, 16, .inl (nM Ib))), (aT, .inr (0, [.int (nI 0), .int (nI 8), .int (nI tx), .int (nI (selN (decide (nx < 8)) (nx + 1) nx))])), (aE, .inr (0, [.int (nI 64), .int (nI 16), .int (nI rx), .int (nI mx)]))]) e_14) hD9
      have hP9 : va_P (dC, dI) vwCl [(aR, .inr (1, [.ref aM, .ref aO, .ref aI, .ref aT, .ref aE, .int ff])), (aM, .inl (kM, 384, .inl (nM (selM (decide (0 < k)) (pnM Mm Ob 0 8 tx nx k) Mm)))), (aO, .inl (kO, 16, .inl (nM Ob))), (aI, .inl (kI, 16, .inl (nM Ib))), (aT, .inr (0, [.int (nI 0), .int (nI 8), .int (nI tx), .int (nI (selN (decide (0 < k)) (selN (decide (nx < 8)) (nx + 1) nx) nx))])), (aE, .inr (0, [.int (nI 64), .int (nI 16), .int (nI rx), .int (nI mx)]))] H := Eq.mp (congrArg (fun (z1 : Int32) => va_P (dC, dI) vwCl [(aR, .inr (1, [.ref aM, .ref aO, .ref aI, .ref aT, .ref aE, .int ff])), (aM, .inl (kM, 384, .inl (nM (selM (decide (0 < k)) (pnM Mm Ob 0 8 tx nx k) Mm)))), (aO, .inl (kO, 16, .inl (nM Ob))), (aI, .inl (kI, 16, .inl (nM Ib))), (aT, .inr (0, [.int (nI 0), .int (nI 8), .int (nI tx), .int z1])), (aE, .inr (0, [.int (nI 64), .int (nI 16), .int (nI rx), .int (nI mx)]))] H) e_15) hP9
      have hD9 : va_D A [(aR, .inr (1, [.ref aM, .ref aO, .ref aI, .ref aT, .ref aE, .int ff])), (aM, .inl (kM, 384, .inl (nM (selM (decide (0 < k)) (pnM Mm Ob 0 8 tx nx k) Mm)))), (aO, .inl (kO, 16, .inl (nM Ob))), (aI, .inl (kI, 16, .inl (nM Ib))), (aT, .inr (0, [.int (nI 0), .int (nI 8), .int (nI tx), .int (nI (selN (decide (0 < k)) (selN (decide (nx < 8)) (nx + 1) nx) nx))])), (aE, .inr (0, [.int (nI 64), .int (nI 16), .int (nI rx), .int (nI mx)]))] := Eq.mp (congrArg (fun (z1 : Int32) => va_D A [(aR, .inr (1, [.ref aM, .ref aO, .ref aI, .ref aT, .ref aE, .int ff])), (aM, .inl (kM, 384, .inl (nM (selM (decide (0 < k)) (pnM Mm Ob 0 8 tx nx k) Mm)))), (aO, .inl (kO, 16, .inl (nM Ob))), (aI, .inl (kI, 16, .inl (nM Ib))), (aT, .inr (0, [.int (nI 0), .int (nI 8), .int (nI tx), .int z1])), (aE, .inr (0, [.int (nI 64), .int (nI 16), .int (nI rx), .int (nI mx)]))]) e_15) hD9
      have e_16 : (sel (decide (nx < 8)) (nI ((tx + nx) % 8)) (-1) : Int32) = sel (decide (0 < k)) (sel (decide (nx < 8)) (nI ((tx + nx) % 8)) (-1)) (-2) := sel_t (decide_eq_true (by omega))
      exact W.iret (v := sel (decide (nx < 8)) (nI ((tx + nx) % 8)) (-1)) hx hb hr (fun t ht hW => ⟨⟨_, (), rfl, e_16, by rw [ht]; exact hP9, va_K.moved hW.alike hK9, hD9⟩, hS.F ht⟩) hS.2.2 dX1_send_19
    · have c_12 := b01_e c_12
      exact absurd (show 0 < k from by omega) (of_decide_eq_false c_12)
set_option maxHeartbeats 4000000 in
set_option maxRecDepth 100000 in
theorem c_X1_post (l : Launch) (dC : Nat → ClassId) (dI : Nat → Nat → Nat) (aR : Nat) (aM : Nat) (aO : Nat) (aI : Nat) (aT : Nat) (aE : Nat) (kM : ClassId) (kO : ClassId) (kI : ClassId) (Mm : Nat → Nat) (Ob : Nat → Nat) (Ib : Nat → Nat) (tx : Nat) (nx : Nat) (rx : Nat) (mx : Nat) (ff : Int32) (sz : Nat) (htx : tx < 8) (hnx : nx ≤ 8) (hrx : rx < 8) (hmx : mx ≤ 8) (hM : ∀ j, Mm j < 256) : Met l yX1_post wsX1_post ({ frames := 4, cells := 0, slots := 0, locals := 86 }) (va_Pc [.ref aR] (fun U => U.heap.size = sz ∧ va_P (dC, dI) vwCl [(aR, .inr (1, [.ref aM, .ref aO, .ref aI, .ref aT, .ref aE, .int ff])), (aM, .inl (kM, 384, .inl (nM Mm))), (aO, .inl (kO, 16, .inl (nM Ob))), (aI, .inl (kI, 16, .inl (nM Ib))), (aT, .inr (0, [.int (nI 0), .int (nI 8), .int (nI tx), .int (nI nx)])), (aE, .inr (0, [.int (nI 64), .int (nI 16), .int (nI rx), .int (nI mx)]))] U.heap ∧ va_K (dC, dI) vwCl [(kM, .int), (kO, .int), (kI, .int)] U ∧ va_D (fun _ => True) [(aR, .inr (1, [.ref aM, .ref aO, .ref aI, .ref aT, .ref aE, .int ff])), (aM, .inl (kM, 384, .inl (nM Mm))), (aO, .inl (kO, 16, .inl (nM Ob))), (aI, .inl (kI, 16, .inl (nM Ib))), (aT, .inr (0, [.int (nI 0), .int (nI 8), .int (nI tx), .int (nI nx)])), (aE, .inr (0, [.int (nI 64), .int (nI 16), .int (nI rx), .int (nI mx)]))])) (va_Qi (fun (r9 : Int32) (_ : Unit) => r9 = sel (decide (mx < 8)) (nI ((rx + mx) % 8)) (-1)) (fun _ t => va_P (dC, dI) vwCl [(aR, .inr (1, [.ref aM, .ref aO, .ref aI, .ref aT, .ref aE, .int ff])), (aM, .inl (kM, 384, .inl (nM (pnM Mm Ob 64 16 rx mx 0)))), (aO, .inl (kO, 16, .inl (nM Ob))), (aI, .inl (kI, 16, .inl (nM Ib))), (aT, .inr (0, [.int (nI 0), .int (nI 8), .int (nI tx), .int (nI nx)])), (aE, .inr (0, [.int (nI 64), .int (nI 16), .int (nI rx), .int (nI (selN (decide (mx < 8)) (mx + 1) mx))]))] t.heap ∧ va_K (dC, dI) vwCl [(kM, .int), (kO, .int), (kI, .int)] t ∧ va_D (va_A [(aR, .inr (1, [.ref aM, .ref aO, .ref aI, .ref aT, .ref aE, .int ff])), (aM, .inl (kM, 384, .inl (nM Mm))), (aO, .inl (kO, 16, .inl (nM Ob))), (aI, .inl (kI, 16, .inl (nM Ib))), (aT, .inr (0, [.int (nI 0), .int (nI 8), .int (nI tx), .int (nI nx)])), (aE, .inr (0, [.int (nI 64), .int (nI 16), .int (nI rx), .int (nI mx)]))] sz) [(aR, .inr (1, [.ref aM, .ref aO, .ref aI, .ref aT, .ref aE, .int ff])), (aM, .inl (kM, 384, .inl (nM (pnM Mm Ob 64 16 rx mx 0)))), (aO, .inl (kO, 16, .inl (nM Ob))), (aI, .inl (kI, 16, .inl (nM Ib))), (aT, .inr (0, [.int (nI 0), .int (nI 8), .int (nI tx), .int (nI nx)])), (aE, .inr (0, [.int (nI 64), .int (nI 16), .int (nI rx), .int (nI (selN (decide (mx < 8)) (mx + 1) mx))]))]) (va_A [(aR, .inr (1, [.ref aM, .ref aO, .ref aI, .ref aT, .ref aE, .int ff])), (aM, .inl (kM, 384, .inl (nM Mm))), (aO, .inl (kO, 16, .inl (nM Ob))), (aI, .inl (kI, 16, .inl (nM Ib))), (aT, .inr (0, [.int (nI 0), .int (nI 8), .int (nI tx), .int (nI nx)])), (aE, .inr (0, [.int (nI 64), .int (nI 16), .int (nI rx), .int (nI mx)]))] sz)) 0 0 (va_A [(aR, .inr (1, [.ref aM, .ref aO, .ref aI, .ref aT, .ref aE, .int ff])), (aM, .inl (kM, 384, .inl (nM Mm))), (aO, .inl (kO, 16, .inl (nM Ob))), (aI, .inl (kI, 16, .inl (nM Ib))), (aT, .inr (0, [.int (nI 0), .int (nI 8), .int (nI tx), .int (nI nx)])), (aE, .inr (0, [.int (nI 64), .int (nI 16), .int (nI rx), .int (nI mx)]))] sz) := by
  refine Met.ofW (cc := cX1_post) (maxL := 1) (ret := (some .int)) (by decide) rfl ?_
  intro p e s m args below meth c s₁ B hml hv
  obtain ⟨rfl, hsz, hP, hK, hD0⟩ := hv
  have hx := B.exec
  have hb := B.bytes
  have hr := B.returns
  have hts := atoms_spec (ws := wsX1_post) B.pre
  have hown : s.vm.findClass RX1 = some m.cls := findClass_of_methodNamed B.named
  have hlocks := B.notSynchronized
  have hI1 : ∀ w ∈ u_ws RX1 TX1 6, w ∈ wsX1_post := by decide +kernel
  subst hsz
  have hD := hD0.self (sz := s.heap.size)
  generalize hAe : va_A [(aR, .inr (1, [.ref aM, .ref aO, .ref aI, .ref aT, .ref aE, .int ff])), (aM, .inl (kM, 384, .inl (nM Mm))), (aO, .inl (kO, 16, .inl (nM Ob))), (aI, .inl (kI, 16, .inl (nM Ib))), (aT, .inr (0, [.int (nI 0), .int (nI 8), .int (nI tx), .int (nI nx)])), (aE, .inr (0, [.int (nI 64), .int (nI 16), .int (nI rx), .int (nI mx)]))] s.heap.size = A at hD ⊢
  have hA : ∀ q : Nat, s.heap.size ≤ q → A q := fun q h => by rw [← hAe]; exact Or.inr h
  have hS : va_S A s.heap s.heap [] := va_S.rf
  have hP : va_P (dC, dI) vwCl [(aR, .inr (1, [.ref aM, .ref aO, .ref aI, .ref aT, .ref aE, .int ff])), (aM, .inl (kM, 384, .inl (nM Mm))), (aO, .inl (kO, 16, .inl (nM Ob))), (aI, .inl (kI, 16, .inl (nM Ib))), (aT, .inr (0, [.int (nI 0), .int (nI 8), .int (nI tx), .int (nI nx)])), (aE, .inr (0, [.int (nI 64), .int (nI 16), .int (nI rx), .int (nI mx)]))] s.heap := hP
  have hl := lv_entry ([.ref aR]) (n := 1) (Nat.le_of_ble_eq_true rfl)
  rw [lg_entry_eq]
  generalize (lg_sl ([.ref aR]) ++ List.replicate (1 - (lg_sl ([.ref aR])).length) Slot.unset).toArray = ls at hl ⊢
  have hl : lv_has ls 1 [(0, .ref aR)] := hl
  refine lv_aload_n hx hb dX1_post_0 rfl (lv_at hl 0 rfl) ?_
  refine lv_aload_n hx hb dX1_post_1 rfl (lv_at hl 0 rfl) ?_
  refine va_get (D := (dC, dI)) (ci := 1) (v := .ref aE) (C := RX1) (T := TX1) (N := 6) hx hb hts hI1 hown hK hP 0 rfl rfl 4 (by decide) (hts (.fieldLink RX1 28 "RingDriver" "receiveQueue" "LRingDriver$SlotQueue;") (by decide +kernel)) (fun _ h9 => h9) rfl dX1_post_2 ?_
  refine lv_iconst (v := nI 0) hx hb dX1_post_5 (by decide +kernel) ?_
  have hPc := hP.sub (ws' := [(aR, .inr (1, [.ref aM, .ref aO, .ref aI, .ref aT, .ref aE, .int ff])), (aM, .inl (kM, 384, .inl (nM Mm))), (aO, .inl (kO, 16, .inl (nM Ob))), (aE, .inr (0, [.int (nI 64), .int (nI 16), .int (nI rx), .int (nI mx)]))]) [0, 1, 2, 5] rfl
  have hDc := hD.sub (ws' := [(aR, .inr (1, [.ref aM, .ref aO, .ref aI, .ref aT, .ref aE, .int ff])), (aM, .inl (kM, 384, .inl (nM Mm))), (aO, .inl (kO, 16, .inl (nM Ob))), (aE, .inr (0, [.int (nI 64), .int (nI 16), .int (nI rx), .int (nI mx)]))]) [0, 1, 2, 5] (by decide) rfl
  have hKc := hK.sub (tys' := [(kM, .int), (kO, .int)]) [0, 1] rfl
  have hFc := va_free (wc := [(aR, .inr (1, [.ref aM, .ref aO, .ref aI, .ref aT, .ref aE, .int ff])), (aM, .inl (kM, 384, .inl (nM Mm))), (aO, .inl (kO, 16, .inl (nM Ob))), (aE, .inr (0, [.int (nI 64), .int (nI 16), .int (nI rx), .int (nI mx)]))]) hD hS hA [0, 1, 2, 5] rfl
  refine va_calli (va_runV (As := [.ref aE, .int (nI 0)]) (rest := []) ⟨hx, hb, hml, hown, hts⟩ (c_X1_postNext l dC dI aR aM aO aI aT aE ff kM Mm kO Ob aE 64 16 rx mx 0 s.heap.size (by omega) (by omega) (by omega) (by omega) (by omega)) (cwV 2 hts gX1_post_X1_postNext rfl rfl rfl (by decide +kernel) ⟨Nat.le_of_ble_eq_true rfl, Nat.le_of_ble_eq_true rfl⟩) ⟨fun a U g mk q => by obtain ⟨q0, q1, qP, qK, qD⟩ := q; exact ⟨q0, q1, qP, va_K.moved (u := U) (U := U.calling g mk a) (Vm.Alike.refl U.vm) qK, qD⟩, va_recv hKc hPc (ci := 1) (q0 := 0) rfl rfl, fun U hU hW => ⟨rfl, by rw [hU], by rw [hU]; exact hPc, va_K.moved hW.alike hKc, hDc.weaken (fun _ _ _ _ => trivial)⟩⟩ rfl rfl hl.1 rfl (lv_room (Nat.le_of_ble_eq_true rfl)) dX1_post_6 ⟨Nat.le_of_ble_eq_true rfl, Nat.le_of_ble_eq_true rfl⟩) hS (fun q _ h => hFc q h) hFc (fun r_1 u t H1 locs ht hvm hw hB hz1 hk1 hS => ?_)
  obtain ⟨hP1, hK1, hD1⟩ := hB
  rw [ht] at hP1
  have hK1 := va_K.moved hvm.symm hK1
  obtain ⟨hP, hD⟩ := va_join (wr := [(aI, .inl (kI, 16, .inl (nM Ib))), (aT, .inr (0, [.int (nI 0), .int (nI 8), .int (nI tx), .int (nI nx)]))]) (w1 := [(aR, .inr (1, [.ref aM, .ref aO, .ref aI, .ref aT, .ref aE, .int ff])), (aM, .inl (kM, 384, .inl (nM (pnM Mm Ob 64 16 rx mx 0)))), (aO, .inl (kO, 16, .inl (nM Ob))), (aE, .inr (0, [.int (nI 64), .int (nI 16), .int (nI rx), .int (nI (selN (decide (mx < 8)) (mx + 1) mx))]))]) hP hD [0, 1, 2, 5] [3, 4] rfl rfl (by decide) (by decide) hk1 hFc hP1 hD1
  have hK := (hK.sub (tys' := [(kI, .int)]) [2] rfl).app hK1
  generalize H1 = H at hP hS ⊢
  have hP : va_P (dC, dI) vwCl [(aI, .inl (kI, 16, .inl (nM Ib))), (aT, .inr (0, [.int (nI 0), .int (nI 8), .int (nI tx), .int (nI nx)])), (aR, .inr (1, [.ref aM, .ref aO, .ref aI, .ref aT, .ref aE, .int ff])), (aM, .inl (kM, 384, .inl (nM (pnM Mm Ob 64 16 rx mx 0)))), (aO, .inl (kO, 16, .inl (nM Ob))), (aE, .inr (0, [.int (nI 64), .int (nI 16), .int (nI rx), .int (nI (selN (decide (mx < 8)) (mx + 1) mx))]))] H := hP
  have hD : va_D A [(aI, .inl (kI, 16, .inl (nM Ib))), (aT, .inr (0, [.int (nI 0), .int (nI 8), .int (nI tx), .int (nI nx)])), (aR, .inr (1, [.ref aM, .ref aO, .ref aI, .ref aT, .ref aE, .int ff])), (aM, .inl (kM, 384, .inl (nM (pnM Mm Ob 64 16 rx mx 0)))), (aO, .inl (kO, 16, .inl (nM Ob))), (aE, .inr (0, [.int (nI 64), .int (nI 16), .int (nI rx), .int (nI (selN (decide (mx < 8)) (mx + 1) mx))]))] := hD
  have hK : va_K (dC, dI) vwCl [(kI, .int), (kM, .int), (kO, .int)] s := hK
  obtain rfl : r_1 = sel (decide (mx < 8)) (nI ((rx + mx) % 8)) (-1) := hw
  have hP9 := hP.sub (ws' := [(aR, .inr (1, [.ref aM, .ref aO, .ref aI, .ref aT, .ref aE, .int ff])), (aM, .inl (kM, 384, .inl (nM (pnM Mm Ob 64 16 rx mx 0)))), (aO, .inl (kO, 16, .inl (nM Ob))), (aI, .inl (kI, 16, .inl (nM Ib))), (aT, .inr (0, [.int (nI 0), .int (nI 8), .int (nI tx), .int (nI nx)])), (aE, .inr (0, [.int (nI 64), .int (nI 16), .int (nI rx), .int (nI (selN (decide (mx < 8)) (mx + 1) mx))]))]) [2, 3, 4, 0, 1, 5] rfl
  have hD9 := hD.sub (ws' := [(aR, .inr (1, [.ref aM, .ref aO, .ref aI, .ref aT, .ref aE, .int ff])), (aM, .inl (kM, 384, .inl (nM (pnM Mm Ob 64 16 rx mx 0)))), (aO, .inl (kO, 16, .inl (nM Ob))), (aI, .inl (kI, 16, .inl (nM Ib))), (aT, .inr (0, [.int (nI 0), .int (nI 8), .int (nI tx), .int (nI nx)])), (aE, .inr (0, [.int (nI 64), .int (nI 16), .int (nI rx), .int (nI (selN (decide (mx < 8)) (mx + 1) mx))]))]) [2, 3, 4, 0, 1, 5] (by decide) rfl
  have hK9 := hK.sub (tys' := [(kM, .int), (kO, .int), (kI, .int)]) [1, 2, 0] rfl
  have e_2 : (sel (decide (mx < 8)) (nI ((rx + mx) % 8)) (-1) : Int32) = sel (decide (mx < 8)) (nI ((rx + mx) % 8)) (-1) := rfl
  exact W.iret (v := sel (decide (mx < 8)) (nI ((rx + mx) % 8)) (-1)) hx hb hr (fun t ht hW => ⟨⟨_, (), rfl, e_2, by rw [ht]; exact hP9, va_K.moved hW.alike hK9, hD9⟩, hS.F ht⟩) hS.2.2 dX1_post_9
end
section
set_option maxHeartbeats 4000000 in
set_option maxRecDepth 100000 in
theorem c_X1_reclaim (l : Launch) (dC : Nat → ClassId) (dI : Nat → Nat → Nat) (aR : Nat) (aM : Nat) (aO : Nat) (aI : Nat) (aT : Nat) (aE : Nat) (kM : ClassId) (kO : ClassId) (kI : ClassId) (Mm : Nat → Nat) (Ob : Nat → Nat) (Ib : Nat → Nat) (tx : Nat) (nx : Nat) (rx : Nat) (mx : Nat) (ff : Int32) (sz : Nat) (htx : tx < 8) (hnx : nx ≤ 8) (hrx : rx < 8) (hmx : mx ≤ 8) (hM : ∀ j, Mm j < 256) : Met l yX1_reclaim wsX1_reclaim ({ frames := 3, cells := 0, slots := 0, locals := 64 }) (va_Pc [.ref aR] (fun U => U.heap.size = sz ∧ va_P (dC, dI) vwCl [(aR, .inr (1, [.ref aM, .ref aO, .ref aI, .ref aT, .ref aE, .int ff])), (aM, .inl (kM, 384, .inl (nM Mm))), (aO, .inl (kO, 16, .inl (nM Ob))), (aI, .inl (kI, 16, .inl (nM Ib))), (aT, .inr (0, [.int (nI 0), .int (nI 8), .int (nI tx), .int (nI nx)])), (aE, .inr (0, [.int (nI 64), .int (nI 16), .int (nI rx), .int (nI mx)]))] U.heap ∧ va_K (dC, dI) vwCl [(kM, .int), (kO, .int), (kI, .int)] U ∧ va_D (fun _ => True) [(aR, .inr (1, [.ref aM, .ref aO, .ref aI, .ref aT, .ref aE, .int ff])), (aM, .inl (kM, 384, .inl (nM Mm))), (aO, .inl (kO, 16, .inl (nM Ob))), (aI, .inl (kI, 16, .inl (nM Ib))), (aT, .inr (0, [.int (nI 0), .int (nI 8), .int (nI tx), .int (nI nx)])), (aE, .inr (0, [.int (nI 64), .int (nI 16), .int (nI rx), .int (nI mx)]))])) (va_Qi (fun (r9 : Int32) (_ : Unit) => r9 = nI (lead (gbP Mm 0 tx) nx)) (fun _ t => va_P (dC, dI) vwCl [(aR, .inr (1, [.ref aM, .ref aO, .ref aI, .ref aT, .ref aE, .int ff])), (aM, .inl (kM, 384, .inl (nM Mm))), (aO, .inl (kO, 16, .inl (nM Ob))), (aI, .inl (kI, 16, .inl (nM Ib))), (aT, .inr (0, [.int (nI 0), .int (nI 8), .int (nI ((tx + lead (gbP Mm 0 tx) nx) % 8)), .int (nI (nx - lead (gbP Mm 0 tx) nx))])), (aE, .inr (0, [.int (nI 64), .int (nI 16), .int (nI rx), .int (nI mx)]))] t.heap ∧ va_K (dC, dI) vwCl [(kM, .int), (kO, .int), (kI, .int)] t ∧ va_D (va_A [(aR, .inr (1, [.ref aM, .ref aO, .ref aI, .ref aT, .ref aE, .int ff])), (aM, .inl (kM, 384, .inl (nM Mm))), (aO, .inl (kO, 16, .inl (nM Ob))), (aI, .inl (kI, 16, .inl (nM Ib))), (aT, .inr (0, [.int (nI 0), .int (nI 8), .int (nI tx), .int (nI nx)])), (aE, .inr (0, [.int (nI 64), .int (nI 16), .int (nI rx), .int (nI mx)]))] sz) [(aR, .inr (1, [.ref aM, .ref aO, .ref aI, .ref aT, .ref aE, .int ff])), (aM, .inl (kM, 384, .inl (nM Mm))), (aO, .inl (kO, 16, .inl (nM Ob))), (aI, .inl (kI, 16, .inl (nM Ib))), (aT, .inr (0, [.int (nI 0), .int (nI 8), .int (nI ((tx + lead (gbP Mm 0 tx) nx) % 8)), .int (nI (nx - lead (gbP Mm 0 tx) nx))])), (aE, .inr (0, [.int (nI 64), .int (nI 16), .int (nI rx), .int (nI mx)]))]) (va_A [(aR, .inr (1, [.ref aM, .ref aO, .ref aI, .ref aT, .ref aE, .int ff])), (aM, .inl (kM, 384, .inl (nM Mm))), (aO, .inl (kO, 16, .inl (nM Ob))), (aI, .inl (kI, 16, .inl (nM Ib))), (aT, .inr (0, [.int (nI 0), .int (nI 8), .int (nI tx), .int (nI nx)])), (aE, .inr (0, [.int (nI 64), .int (nI 16), .int (nI rx), .int (nI mx)]))] sz)) 0 0 (va_A [(aR, .inr (1, [.ref aM, .ref aO, .ref aI, .ref aT, .ref aE, .int ff])), (aM, .inl (kM, 384, .inl (nM Mm))), (aO, .inl (kO, 16, .inl (nM Ob))), (aI, .inl (kI, 16, .inl (nM Ib))), (aT, .inr (0, [.int (nI 0), .int (nI 8), .int (nI tx), .int (nI nx)])), (aE, .inr (0, [.int (nI 64), .int (nI 16), .int (nI rx), .int (nI mx)]))] sz) := by
  refine Met.ofW (cc := cX1_reclaim) (maxL := 2) (ret := (some .int)) (by decide) rfl ?_
  intro p e s m args below meth c s₁ B hml hv
  obtain ⟨rfl, hsz, hP, hK, hD0⟩ := hv
  have hx := B.exec
  have hb := B.bytes
  have hr := B.returns
  have hts := atoms_spec (ws := wsX1_reclaim) B.pre
  have hown : s.vm.findClass RX1 = some m.cls := findClass_of_methodNamed B.named
  have hlocks := B.notSynchronized
  have hI1 : ∀ w ∈ u_ws RX1 TX1 6, w ∈ wsX1_reclaim := by decide +kernel
  subst hsz
  have hD := hD0.self (sz := s.heap.size)
  generalize hAe : va_A [(aR, .inr (1, [.ref aM, .ref aO, .ref aI, .ref aT, .ref aE, .int ff])), (aM, .inl (kM, 384, .inl (nM Mm))), (aO, .inl (kO, 16, .inl (nM Ob))), (aI, .inl (kI, 16, .inl (nM Ib))), (aT, .inr (0, [.int (nI 0), .int (nI 8), .int (nI tx), .int (nI nx)])), (aE, .inr (0, [.int (nI 64), .int (nI 16), .int (nI rx), .int (nI mx)]))] s.heap.size = A at hD ⊢
  have hA : ∀ q : Nat, s.heap.size ≤ q → A q := fun q h => by rw [← hAe]; exact Or.inr h
  have hS : va_S A s.heap s.heap [] := va_S.rf
  have hP : va_P (dC, dI) vwCl [(aR, .inr (1, [.ref aM, .ref aO, .ref aI, .ref aT, .ref aE, .int ff])), (aM, .inl (kM, 384, .inl (nM Mm))), (aO, .inl (kO, 16, .inl (nM Ob))), (aI, .inl (kI, 16, .inl (nM Ib))), (aT, .inr (0, [.int (nI 0), .int (nI 8), .int (nI tx), .int (nI nx)])), (aE, .inr (0, [.int (nI 64), .int (nI 16), .int (nI rx), .int (nI mx)]))] s.heap := hP
  have hl := lv_entry ([.ref aR]) (n := 2) (Nat.le_of_ble_eq_true rfl)
  rw [lg_entry_eq]
  generalize (lg_sl ([.ref aR]) ++ List.replicate (2 - (lg_sl ([.ref aR])).length) Slot.unset).toArray = ls at hl ⊢
  have hl : lv_has ls 2 [(0, .ref aR)] := hl
  refine W_gen (fun Q eQ => ?_)
  refine lv_iconst (v := nI 0) hx hb dX1_reclaim_0 (by decide +kernel) ?_
  refine lv_istore_n (lv' := [(1, .int (nI 0)), (0, .ref aR)]) hx hb dX1_reclaim_1 rfl hl (by decide) rfl (fun ls hl => ?_)
  have loop_1 : ∀ (fuel : Nat) (i : Nat), (i ≤ nx) → (∀ j, j < i → gbP Mm 0 tx j = true) → 8 - i < fuel → ∀ (H : Heap) (locs : List Loc) (ls : Array Slot), va_P (dC, dI) vwCl [(aR, .inr (1, [.ref aM, .ref aO, .ref aI, .ref aT, .ref aE, .int ff])), (aM, .inl (kM, 384, .inl (nM Mm))), (aO, .inl (kO, 16, .inl (nM Ob))), (aI, .inl (kI, 16, .inl (nM Ib))), (aT, .inr (0, [.int (nI 0), .int (nI 8), .int (nI ((tx + i) % 8)), .int (nI (nx - i))])), (aE, .inr (0, [.int (nI 64), .int (nI 16), .int (nI rx), .int (nI mx)]))] H → va_D A [(aR, .inr (1, [.ref aM, .ref aO, .ref aI, .ref aT, .ref aE, .int ff])), (aM, .inl (kM, 384, .inl (nM Mm))), (aO, .inl (kO, 16, .inl (nM Ob))), (aI, .inl (kI, 16, .inl (nM Ib))), (aT, .inr (0, [.int (nI 0), .int (nI 8), .int (nI ((tx + i) % 8)), .int (nI (nx - i))])), (aE, .inr (0, [.int (nI 64), .int (nI 16), .int (nI rx), .int (nI mx)]))] → va_S A s.heap H locs → lv_has ls 2 [(0, .ref aR), (1, .int (nI i))] → W p l e (headSpec wsX1_reclaim ({ frames := 3, cells := 0, slots := 0, locals := 64 })).room s m ([.ref aR] : List Value).toArray below meth c H locs 0 0 Q (F0 m 2 ls []) := by
    intro fuel
    induction fuel with
    | zero =>
      intro i hi hall hfu
      exact absurd hfu (Nat.not_lt_zero _)
    | succ fuel ih =>
      intro i hi hall hfu H locs ls hP hD hS hl
      refine lv_iload_n hx hb dX1_reclaim_2 rfl (lv_at hl 1 rfl) ?_
      refine lv_bipush (v := nI 8) hx hb dX1_reclaim_3 (by decide +kernel) ?_
      refine lv_icmp_ge (tgt := 33) hx hb dX1_reclaim_5 (by decide) (fun c_2 => ?_) (fun c_2 => ?_)
      · have c_2 : 8 ≤ i := (nI_leI (a := 8) (b := i) (by omega) (by omega)).mp c_2
        have hst : i = nx ∨ gbP Mm 0 tx i = false := Or.inl (by omega)
        refine lv_iload_n hx hb dX1_reclaim_33 rfl (lv_at hl 1 rfl) ?_
        have hlead : lead (gbP Mm 0 tx) nx = i := lead_eq hi hall hst
        have hP9 := hP.sub (ws' := [(aR, .inr (1, [.ref aM, .ref aO, .ref aI, .ref aT, .ref aE, .int ff])), (aM, .inl (kM, 384, .inl (nM Mm))), (aO, .inl (kO, 16, .inl (nM Ob))), (aI, .inl (kI, 16, .inl (nM Ib))), (aT, .inr (0, [.int (nI 0), .int (nI 8), .int (nI ((tx + i) % 8)), .int (nI (nx - i))])), (aE, .inr (0, [.int (nI 64), .int (nI 16), .int (nI rx), .int (nI mx)]))]) [0, 1, 2, 3, 4, 5] rfl
        have hD9 := hD.sub (ws' := [(aR, .inr (1, [.ref aM, .ref aO, .ref aI, .ref aT, .ref aE, .int ff])), (aM, .inl (kM, 384, .inl (nM Mm))), (aO, .inl (kO, 16, .inl (nM Ob))), (aI, .inl (kI, 16, .inl (nM Ib))), (aT, .inr (0, [.int (nI 0), .int (nI 8), .int (nI ((tx + i) % 8)), .int (nI (nx - i))])), (aE, .inr (0, [.int (nI 64), .int (nI 16), .int (nI rx), .int (nI mx)]))]) [0, 1, 2, 3, 4, 5] (by decide) rfl
        have hK9 := hK.sub (tys' := [(kM, .int), (kO, .int), (kI, .int)]) [0, 1, 2] rfl
        have e_3 : (nI ((tx + i) % 8) : Int32) = nI ((tx + lead (gbP Mm 0 tx) nx) % 8) := by rw [hlead]
        have e_4 : (nI (nx - i) : Int32) = nI (nx - lead (gbP Mm 0 tx) nx) := by rw [hlead]
        have hP9 : va_P (dC, dI) vwCl [(aR, .inr (1, [.ref aM, .ref aO, .ref aI, .ref aT, .ref aE, .int ff])), (aM, .inl (kM, 384, .inl (nM Mm))), (aO, .inl (kO, 16, .inl (nM Ob))), (aI, .inl (kI, 16, .inl (nM Ib))), (aT, .inr (0, [.int (nI 0), .int (nI 8), .int (nI ((tx + lead (gbP Mm 0 tx) nx) % 8)), .int (nI (nx - i))])), (aE, .inr (0, [.int (nI 64), .int (nI 16), .int (nI rx), .int (nI mx)]))] H := Eq.mp (congrArg (fun (z1 : Int32) => va_P (dC, dI) vwCl [(aR, .inr (1, [.ref aM, .ref aO, .ref aI, .ref aT, .ref aE, .int ff])), (aM, .inl (kM, 384, .inl (nM Mm))), (aO, .inl (kO, 16, .inl (nM Ob))), (aI, .inl (kI, 16, .inl (nM Ib))), (aT, .inr (0, [.int (nI 0), .int (nI 8), .int z1, .int (nI (nx - i))])), (aE, .inr (0, [.int (nI 64), .int (nI 16), .int (nI rx), .int (nI mx)]))] H) e_3) hP9
        have hD9 : va_D A [(aR, .inr (1, [.ref aM, .ref aO, .ref aI, .ref aT, .ref aE, .int ff])), (aM, .inl (kM, 384, .inl (nM Mm))), (aO, .inl (kO, 16, .inl (nM Ob))), (aI, .inl (kI, 16, .inl (nM Ib))), (aT, .inr (0, [.int (nI 0), .int (nI 8), .int (nI ((tx + lead (gbP Mm 0 tx) nx) % 8)), .int (nI (nx - i))])), (aE, .inr (0, [.int (nI 64), .int (nI 16), .int (nI rx), .int (nI mx)]))] := Eq.mp (congrArg (fun (z1 : Int32) => va_D A [(aR, .inr (1, [.ref aM, .ref aO, .ref aI, .ref aT, .ref aE, .int ff])), (aM, .inl (kM, 384, .inl (nM Mm))), (aO, .inl (kO, 16, .inl (nM Ob))), (aI, .inl (kI, 16, .inl (nM Ib))), (aT, .inr (0, [.int (nI 0), .int (nI 8), .int z1, .int (nI (nx - i))])), (aE, .inr (0, [.int (nI 64), .int (nI 16), .int (nI rx), .int (nI mx)]))]) e_3) hD9
        have hP9 : va_P (dC, dI) vwCl [(aR, .inr (1, [.ref aM, .ref aO, .ref aI, .ref aT, .ref aE, .int ff])), (aM, .inl (kM, 384, .inl (nM Mm))), (aO, .inl (kO, 16, .inl (nM Ob))), (aI, .inl (kI, 16, .inl (nM Ib))), (aT, .inr (0, [.int (nI 0), .int (nI 8), .int (nI ((tx + lead (gbP Mm 0 tx) nx) % 8)), .int (nI (nx - lead (gbP Mm 0 tx) nx))])), (aE, .inr (0, [.int (nI 64), .int (nI 16), .int (nI rx), .int (nI mx)]))] H := Eq.mp (congrArg (fun (z1 : Int32) => va_P (dC, dI) vwCl [(aR, .inr (1, [.ref aM, .ref aO, .ref aI, .ref aT, .ref aE, .int ff])), (aM, .inl (kM, 384, .inl (nM Mm))), (aO, .inl (kO, 16, .inl (nM Ob))), (aI, .inl (kI, 16, .inl (nM Ib))), (aT, .inr (0, [.int (nI 0), .int (nI 8), .int (nI ((tx + lead (gbP Mm 0 tx) nx) % 8)), .int z1])), (aE, .inr (0, [.int (nI 64), .int (nI 16), .int (nI rx), .int (nI mx)]))] H) e_4) hP9
        have hD9 : va_D A [(aR, .inr (1, [.ref aM, .ref aO, .ref aI, .ref aT, .ref aE, .int ff])), (aM, .inl (kM, 384, .inl (nM Mm))), (aO, .inl (kO, 16, .inl (nM Ob))), (aI, .inl (kI, 16, .inl (nM Ib))), (aT, .inr (0, [.int (nI 0), .int (nI 8), .int (nI ((tx + lead (gbP Mm 0 tx) nx) % 8)), .int (nI (nx - lead (gbP Mm 0 tx) nx))])), (aE, .inr (0, [.int (nI 64), .int (nI 16), .int (nI rx), .int (nI mx)]))] := Eq.mp (congrArg (fun (z1 : Int32) => va_D A [(aR, .inr (1, [.ref aM, .ref aO, .ref aI, .ref aT, .ref aE, .int ff])), (aM, .inl (kM, 384, .inl (nM Mm))), (aO, .inl (kO, 16, .inl (nM Ob))), (aI, .inl (kI, 16, .inl (nM Ib))), (aT, .inr (0, [.int (nI 0), .int (nI 8), .int (nI ((tx + lead (gbP Mm 0 tx) nx) % 8)), .int z1])), (aE, .inr (0, [.int (nI 64), .int (nI 16), .int (nI rx), .int (nI mx)]))]) e_4) hD9
        subst eQ
        have e_5 : (nI i : Int32) = nI (lead (gbP Mm 0 tx) nx) := by rw [hlead]
        exact W.iret (v := nI i) hx hb hr (fun t ht hW => ⟨⟨_, (), rfl, e_5, by rw [ht]; exact hP9, va_K.moved hW.alike hK9, hD9⟩, hS.F ht⟩) hS.2.2 dX1_reclaim_34
      · have c_2 : ¬ (8 ≤ i) := fun h9 => c_2 ((nI_leI (a := 8) (b := i) (by omega) (by omega)).mpr h9)
        refine lv_aload_n hx hb dX1_reclaim_8 rfl (lv_at hl 0 rfl) ?_
        refine lv_aload_n hx hb dX1_reclaim_9 rfl (lv_at hl 0 rfl) ?_
        refine va_get (D := (dC, dI)) (ci := 1) (v := .ref aT) (C := RX1) (T := TX1) (N := 6) hx hb hts hI1 hown hK hP 0 rfl rfl 3 (by decide) (hts (.fieldLink RX1 24 "RingDriver" "transmitQueue" "LRingDriver$SlotQueue;") (by decide +kernel)) (fun _ h9 => h9) rfl dX1_reclaim_10 ?_
        refine lv_iconst (v := nI 0) hx hb dX1_reclaim_13 (by decide +kernel) ?_
        have hPc := hP.sub (ws' := [(aR, .inr (1, [.ref aM, .ref aO, .ref aI, .ref aT, .ref aE, .int ff])), (aM, .inl (kM, 384, .inl (nM Mm))), (aT, .inr (0, [.int (nI 0), .int (nI 8), .int (nI ((tx + i) % 8)), .int (nI (nx - i))]))]) [0, 1, 4] rfl
        have hDc := hD.sub (ws' := [(aR, .inr (1, [.ref aM, .ref aO, .ref aI, .ref aT, .ref aE, .int ff])), (aM, .inl (kM, 384, .inl (nM Mm))), (aT, .inr (0, [.int (nI 0), .int (nI 8), .int (nI ((tx + i) % 8)), .int (nI (nx - i))]))]) [0, 1, 4] (by decide) rfl
        have hKc := hK.sub (tys' := [(kM, .int)]) [0] rfl
        have hFc := va_free (wc := [(aR, .inr (1, [.ref aM, .ref aO, .ref aI, .ref aT, .ref aE, .int ff])), (aM, .inl (kM, 384, .inl (nM Mm))), (aT, .inr (0, [.int (nI 0), .int (nI 8), .int (nI ((tx + i) % 8)), .int (nI (nx - i))]))]) hD hS hA [0, 1, 4] rfl
        refine va_calli (va_runV (As := [.ref aT, .int (nI 0)]) (rest := []) ⟨hx, hb, hml, hown, hts⟩ (c_X1_isGivenBack l dC dI aR aM aO aI aT aE ff kM Mm aT 0 8 ((tx + i) % 8) (nx - i) 0 H.size (by omega) (by omega) (by omega) (by omega) hM) (cwV 2 hts gX1_reclaim_X1_isGivenBack rfl rfl rfl (by decide +kernel) ⟨Nat.le_of_ble_eq_true rfl, Nat.le_of_ble_eq_true rfl⟩) ⟨fun a U g mk q => by obtain ⟨q0, q1, qP, qK, qD⟩ := q; exact ⟨q0, q1, qP, va_K.moved (u := U) (U := U.calling g mk a) (Vm.Alike.refl U.vm) qK, qD⟩, va_recv hKc hPc (ci := 1) (q0 := 0) rfl rfl, fun U hU hW => ⟨rfl, by rw [hU], by rw [hU]; exact hPc, va_K.moved hW.alike hKc, hDc.weaken (fun _ _ _ _ => trivial)⟩⟩ rfl rfl hl.1 rfl (lv_room (Nat.le_of_ble_eq_true rfl)) dX1_reclaim_14 ⟨Nat.le_of_ble_eq_true rfl, Nat.le_of_ble_eq_true rfl⟩) hS (fun q _ h => hFc q h) hFc (fun r_6 u t H1 locs ht hvm hw hB hz1 hk1 hS => ?_)
        obtain ⟨hP1, hK1, hD1⟩ := hB
        rw [ht] at hP1
        have hK1 := va_K.moved hvm.symm hK1
        obtain ⟨hP, hD⟩ := va_join (wr := [(aO, .inl (kO, 16, .inl (nM Ob))), (aI, .inl (kI, 16, .inl (nM Ib))), (aE, .inr (0, [.int (nI 64), .int (nI 16), .int (nI rx), .int (nI mx)]))]) (w1 := [(aR, .inr (1, [.ref aM, .ref aO, .ref aI, .ref aT, .ref aE, .int ff])), (aM, .inl (kM, 384, .inl (nM Mm))), (aT, .inr (0, [.int (nI 0), .int (nI 8), .int (nI ((tx + i) % 8)), .int (nI (nx - i))]))]) hP hD [0, 1, 4] [2, 3, 5] rfl rfl (by decide) (by decide) hk1 hFc hP1 hD1
        have hK := (hK.sub (tys' := [(kO, .int), (kI, .int)]) [1, 2] rfl).app hK1
        generalize H1 = H at hP hS ⊢
        have hP : va_P (dC, dI) vwCl [(aO, .inl (kO, 16, .inl (nM Ob))), (aI, .inl (kI, 16, .inl (nM Ib))), (aE, .inr (0, [.int (nI 64), .int (nI 16), .int (nI rx), .int (nI mx)])), (aR, .inr (1, [.ref aM, .ref aO, .ref aI, .ref aT, .ref aE, .int ff])), (aM, .inl (kM, 384, .inl (nM Mm))), (aT, .inr (0, [.int (nI 0), .int (nI 8), .int (nI ((tx + i) % 8)), .int (nI (nx - i))]))] H := hP
        have hD : va_D A [(aO, .inl (kO, 16, .inl (nM Ob))), (aI, .inl (kI, 16, .inl (nM Ib))), (aE, .inr (0, [.int (nI 64), .int (nI 16), .int (nI rx), .int (nI mx)])), (aR, .inr (1, [.ref aM, .ref aO, .ref aI, .ref aT, .ref aE, .int ff])), (aM, .inl (kM, 384, .inl (nM Mm))), (aT, .inr (0, [.int (nI 0), .int (nI 8), .int (nI ((tx + i) % 8)), .int (nI (nx - i))]))] := hD
        have hK : va_K (dC, dI) vwCl [(kO, .int), (kI, .int), (kM, .int)] s := hK
        obtain rfl : r_6 = b01 (gvB Mm 0 ((tx + i) % 8) (nx - i) 0) := hw
        refine lv_if_eq (tgt := 33) hx hb dX1_reclaim_17 (by decide) (fun c_7 => ?_) (fun c_7 => ?_)
        · have c_7 := b01_e c_7
          have hst := gvB_e0 hi c_7
          refine lv_iload_n hx hb dX1_reclaim_33 rfl (lv_at hl 1 rfl) ?_
          have hlead : lead (gbP Mm 0 tx) nx = i := lead_eq hi hall hst
          have hP9 := hP.sub (ws' := [(aR, .inr (1, [.ref aM, .ref aO, .ref aI, .ref aT, .ref aE, .int ff])), (aM, .inl (kM, 384, .inl (nM Mm))), (aO, .inl (kO, 16, .inl (nM Ob))), (aI, .inl (kI, 16, .inl (nM Ib))), (aT, .inr (0, [.int (nI 0), .int (nI 8), .int (nI ((tx + i) % 8)), .int (nI (nx - i))])), (aE, .inr (0, [.int (nI 64), .int (nI 16), .int (nI rx), .int (nI mx)]))]) [3, 4, 0, 1, 5, 2] rfl
          have hD9 := hD.sub (ws' := [(aR, .inr (1, [.ref aM, .ref aO, .ref aI, .ref aT, .ref aE, .int ff])), (aM, .inl (kM, 384, .inl (nM Mm))), (aO, .inl (kO, 16, .inl (nM Ob))), (aI, .inl (kI, 16, .inl (nM Ib))), (aT, .inr (0, [.int (nI 0), .int (nI 8), .int (nI ((tx + i) % 8)), .int (nI (nx - i))])), (aE, .inr (0, [.int (nI 64), .int (nI 16), .int (nI rx), .int (nI mx)]))]) [3, 4, 0, 1, 5, 2] (by decide) rfl
          have hK9 := hK.sub (tys' := [(kM, .int), (kO, .int), (kI, .int)]) [2, 0, 1] rfl
          have e_8 : (nI ((tx + i) % 8) : Int32) = nI ((tx + lead (gbP Mm 0 tx) nx) % 8) := by rw [hlead]
          have e_9 : (nI (nx - i) : Int32) = nI (nx - lead (gbP Mm 0 tx) nx) := by rw [hlead]
          have hP9 : va_P (dC, dI) vwCl [(aR, .inr (1, [.ref aM, .ref aO, .ref aI, .ref aT, .ref aE, .int ff])), (aM, .inl (kM, 384, .inl (nM Mm))), (aO, .inl (kO, 16, .inl (nM Ob))), (aI, .inl (kI, 16, .inl (nM Ib))), (aT, .inr (0, [.int (nI 0), .int (nI 8), .int (nI ((tx + lead (gbP Mm 0 tx) nx) % 8)), .int (nI (nx - i))])), (aE, .inr (0, [.int (nI 64), .int (nI 16), .int (nI rx), .int (nI mx)]))] H := Eq.mp (congrArg (fun (z1 : Int32) => va_P (dC, dI) vwCl [(aR, .inr (1, [.ref aM, .ref aO, .ref aI, .ref aT, .ref aE, .int ff])), (aM, .inl (kM, 384, .inl (nM Mm))), (aO, .inl (kO, 16, .inl (nM Ob))), (aI, .inl (kI, 16, .inl (nM Ib))), (aT, .inr (0, [.int (nI 0), .int (nI 8), .int z1, .int (nI (nx - i))])), (aE, .inr (0, [.int (nI 64), .int (nI 16), .int (nI rx), .int (nI mx)]))] H) e_8) hP9
          have hD9 : va_D A [(aR, .inr (1, [.ref aM, .ref aO, .ref aI, .ref aT, .ref aE, .int ff])), (aM, .inl (kM, 384, .inl (nM Mm))), (aO, .inl (kO, 16, .inl (nM Ob))), (aI, .inl (kI, 16, .inl (nM Ib))), (aT, .inr (0, [.int (nI 0), .int (nI 8), .int (nI ((tx + lead (gbP Mm 0 tx) nx) % 8)), .int (nI (nx - i))])), (aE, .inr (0, [.int (nI 64), .int (nI 16), .int (nI rx), .int (nI mx)]))] := Eq.mp (congrArg (fun (z1 : Int32) => va_D A [(aR, .inr (1, [.ref aM, .ref aO, .ref aI, .ref aT, .ref aE, .int ff])), (aM, .inl (kM, 384, .inl (nM Mm))), (aO, .inl (kO, 16, .inl (nM Ob))), (aI, .inl (kI, 16, .inl (nM Ib))), (aT, .inr (0, [.int (nI 0), .int (nI 8), .int z1, .int (nI (nx - i))])), (aE, .inr (0, [.int (nI 64), .int (nI 16), .int (nI rx), .int (nI mx)]))]) e_8) hD9
          have hP9 : va_P (dC, dI) vwCl [(aR, .inr (1, [.ref aM, .ref aO, .ref aI, .ref aT, .ref aE, .int ff])), (aM, .inl (kM, 384, .inl (nM Mm))), (aO, .inl (kO, 16, .inl (nM Ob))), (aI, .inl (kI, 16, .inl (nM Ib))), (aT, .inr (0, [.int (nI 0), .int (nI 8), .int (nI ((tx + lead (gbP Mm 0 tx) nx) % 8)), .int (nI (nx - lead (gbP Mm 0 tx) nx))])), (aE, .inr (0, [.int (nI 64), .int (nI 16), .int (nI rx), .int (nI mx)]))] H := Eq.mp (congrArg (fun (z1 : Int32) => va_P (dC, dI) vwCl [(aR, .inr (1, [.ref aM, .ref aO, .ref aI, .ref aT, .ref aE, .int ff])), (aM, .inl (kM, 384, .inl (nM Mm))), (aO, .inl (kO, 16, .inl (nM Ob))), (aI, .inl (kI, 16, .inl (nM Ib))), (aT, .inr (0, [.int (nI 0), .int (nI 8), .int (nI ((tx + lead (gbP Mm 0 tx) nx) % 8)), .int z1])), (aE, .inr (0, [.int (nI 64), .int (nI 16), .int (nI rx), .int (nI mx)]))] H) e_9) hP9
          have hD9 : va_D A [(aR, .inr (1, [.ref aM, .ref aO, .ref aI, .ref aT, .ref aE, .int ff])), (aM, .inl (kM, 384, .inl (nM Mm))), (aO, .inl (kO, 16, .inl (nM Ob))), (aI, .inl (kI, 16, .inl (nM Ib))), (aT, .inr (0, [.int (nI 0), .int (nI 8), .int (nI ((tx + lead (gbP Mm 0 tx) nx) % 8)), .int (nI (nx - lead (gbP Mm 0 tx) nx))])), (aE, .inr (0, [.int (nI 64), .int (nI 16), .int (nI rx), .int (nI mx)]))] := Eq.mp (congrArg (fun (z1 : Int32) => va_D A [(aR, .inr (1, [.ref aM, .ref aO, .ref aI, .ref aT, .ref aE, .int ff])), (aM, .inl (kM, 384, .inl (nM Mm))), (aO, .inl (kO, 16, .inl (nM Ob))), (aI, .inl (kI, 16, .inl (nM Ib))), (aT, .inr (0, [.int (nI 0), .int (nI 8), .int (nI ((tx + lead (gbP Mm 0 tx) nx) % 8)), .int z1])), (aE, .inr (0, [.int (nI 64), .int (nI 16), .int (nI rx), .int (nI mx)]))]) e_9) hD9
          subst eQ
          have e_10 : (nI i : Int32) = nI (lead (gbP Mm 0 tx) nx) := by rw [hlead]
          exact W.iret (v := nI i) hx hb hr (fun t ht hW => ⟨⟨_, (), rfl, e_10, by rw [ht]; exact hP9, va_K.moved hW.alike hK9, hD9⟩, hS.F ht⟩) hS.2.2 dX1_reclaim_34
        · have c_7 := b01_n c_7
          have hg := gvB_i0 c_7
          have hg1 := hg.1
          refine lv_aload_n hx hb dX1_reclaim_20 rfl (lv_at hl 0 rfl) ?_
          refine va_get (D := (dC, dI)) (ci := 1) (v := .ref aT) (C := RX1) (T := TX1) (N := 6) hx hb hts hI1 hown hK hP 3 rfl rfl 3 (by decide) (hts (.fieldLink RX1 24 "RingDriver" "transmitQueue" "LRingDriver$SlotQueue;") (by decide +kernel)) (fun _ h9 => h9) rfl dX1_reclaim_21 ?_
          have hPc := hP.sub (ws' := [(aT, .inr (0, [.int (nI 0), .int (nI 8), .int (nI ((tx + i) % 8)), .int (nI (nx - i))]))]) [5] rfl
          have hDc := hD.sub (ws' := [(aT, .inr (0, [.int (nI 0), .int (nI 8), .int (nI ((tx + i) % 8)), .int (nI (nx - i))]))]) [5] (by decide) rfl
          have hKc := hK.sub (tys' := []) [] rfl
          have hFc := va_free (wc := [(aT, .inr (0, [.int (nI 0), .int (nI 8), .int (nI ((tx + i) % 8)), .int (nI (nx - i))]))]) hD hS hA [5] rfl
          refine va_callv (va_runV (As := []) (rest := []) ⟨hx, hb, hml, hown, hts⟩ (c_X0_removeOldest l dC dI aT 0 8 ((tx + i) % 8) (nx - i) H.size (by omega) (by omega) (by omega)) (cwV 0 hts gX1_reclaim_X0_removeOldest rfl rfl rfl (by decide +kernel) ⟨Nat.le_of_ble_eq_true rfl, Nat.le_of_ble_eq_true rfl⟩) ⟨fun a U g mk q => by obtain ⟨q0, q1, qP, qK, qD⟩ := q; exact ⟨q0, q1, qP, va_K.moved (u := U) (U := U.calling g mk a) (Vm.Alike.refl U.vm) qK, qD⟩, va_recv hKc hPc (ci := 0) (q0 := 0) rfl rfl, fun U hU hW => ⟨rfl, by rw [hU], by rw [hU]; exact hPc, va_K.moved hW.alike hKc, hDc.weaken (fun _ _ _ _ => trivial)⟩⟩ rfl rfl hl.1 rfl (lv_room (Nat.le_of_ble_eq_true rfl)) dX1_reclaim_24 ⟨Nat.le_of_ble_eq_true rfl, Nat.le_of_ble_eq_true rfl⟩) hS (fun q _ h => hFc q h) hFc (fun u t H1 locs ht hvm hw hB hz1 hk1 hS => ?_)
          obtain ⟨hP1, hK1, hD1⟩ := hB
          rw [ht] at hP1
          have hK1 := va_K.moved hvm.symm hK1
          obtain ⟨hP, hD⟩ := va_join (wr := [(aO, .inl (kO, 16, .inl (nM Ob))), (aI, .inl (kI, 16, .inl (nM Ib))), (aE, .inr (0, [.int (nI 64), .int (nI 16), .int (nI rx), .int (nI mx)])), (aR, .inr (1, [.ref aM, .ref aO, .ref aI, .ref aT, .ref aE, .int ff])), (aM, .inl (kM, 384, .inl (nM Mm)))]) (w1 := [(aT, .inr (0, [.int (nI 0), .int (nI 8), .int (nI ((((tx + i) % 8) + 1) % 8)), .int (nI ((nx - i) - 1))]))]) hP hD [5] [0, 1, 2, 3, 4] rfl rfl (by decide) (by decide) hk1 hFc hP1 hD1
          have hK := (hK.sub (tys' := [(kO, .int), (kI, .int), (kM, .int)]) [0, 1, 2] rfl).app hK1
          generalize H1 = H at hP hS ⊢
          have hP : va_P (dC, dI) vwCl [(aO, .inl (kO, 16, .inl (nM Ob))), (aI, .inl (kI, 16, .inl (nM Ib))), (aE, .inr (0, [.int (nI 64), .int (nI 16), .int (nI rx), .int (nI mx)])), (aR, .inr (1, [.ref aM, .ref aO, .ref aI, .ref aT, .ref aE, .int ff])), (aM, .inl (kM, 384, .inl (nM Mm))), (aT, .inr (0, [.int (nI 0), .int (nI 8), .int (nI ((((tx + i) % 8) + 1) % 8)), .int (nI ((nx - i) - 1))]))] H := hP
          have hD : va_D A [(aO, .inl (kO, 16, .inl (nM Ob))), (aI, .inl (kI, 16, .inl (nM Ib))), (aE, .inr (0, [.int (nI 64), .int (nI 16), .int (nI rx), .int (nI mx)])), (aR, .inr (1, [.ref aM, .ref aO, .ref aI, .ref aT, .ref aE, .int ff])), (aM, .inl (kM, 384, .inl (nM Mm))), (aT, .inr (0, [.int (nI 0), .int (nI 8), .int (nI ((((tx + i) % 8) + 1) % 8)), .int (nI ((nx - i) - 1))]))] := hD
          have hK : va_K (dC, dI) vwCl [(kO, .int), (kI, .int), (kM, .int)] s := hK
          refine lv_iinc (v := nI (i + 1)) (lv' := [(1, .int (nI (i + 1))), (0, .ref aR)]) hx hb dX1_reclaim_27 hl (k := 1) rfl (show nI i + Int32.ofInt 1 = nI (i + 1) from nI_1 i) (by decide) rfl (fun ls hl => ?_)
          refine lv_goto (tgt := 2) hx hb dX1_reclaim_30 (by decide) ?_
          have hP9 := hP.sub (ws' := [(aR, .inr (1, [.ref aM, .ref aO, .ref aI, .ref aT, .ref aE, .int ff])), (aM, .inl (kM, 384, .inl (nM Mm))), (aO, .inl (kO, 16, .inl (nM Ob))), (aI, .inl (kI, 16, .inl (nM Ib))), (aT, .inr (0, [.int (nI 0), .int (nI 8), .int (nI ((((tx + i) % 8) + 1) % 8)), .int (nI ((nx - i) - 1))])), (aE, .inr (0, [.int (nI 64), .int (nI 16), .int (nI rx), .int (nI mx)]))]) [3, 4, 0, 1, 5, 2] rfl
          have hD9 := hD.sub (ws' := [(aR, .inr (1, [.ref aM, .ref aO, .ref aI, .ref aT, .ref aE, .int ff])), (aM, .inl (kM, 384, .inl (nM Mm))), (aO, .inl (kO, 16, .inl (nM Ob))), (aI, .inl (kI, 16, .inl (nM Ib))), (aT, .inr (0, [.int (nI 0), .int (nI 8), .int (nI ((((tx + i) % 8) + 1) % 8)), .int (nI ((nx - i) - 1))])), (aE, .inr (0, [.int (nI 64), .int (nI 16), .int (nI rx), .int (nI mx)]))]) [3, 4, 0, 1, 5, 2] (by decide) rfl
          have e_12 : (nI ((((tx + i) % 8) + 1) % 8) : Int32) = nI ((tx + (i + 1)) % 8) := congrArg nI (by omega)
          have e_13 : (nI ((nx - i) - 1) : Int32) = nI (nx - (i + 1)) := congrArg nI (by omega)
          have hP9 : va_P (dC, dI) vwCl [(aR, .inr (1, [.ref aM, .ref aO, .ref aI, .ref aT, .ref aE, .int ff])), (aM, .inl (kM, 384, .inl (nM Mm))), (aO, .inl (kO, 16, .inl (nM Ob))), (aI, .inl (kI, 16, .inl (nM Ib))), (aT, .inr (0, [.int (nI 0), .int (nI 8), .int (nI ((tx + (i + 1)) % 8)), .int (nI ((nx - i) - 1))])), (aE, .inr (0, [.int (nI 64), .int (nI 16), .int (nI rx), .int (nI mx)]))] H := Eq.mp (congrArg (fun (z1 : Int32) => va_P (dC, dI) vwCl [(aR, .inr (1, [.ref aM, .ref aO, .ref aI, .ref aT, .ref aE, .int ff])), (aM, .inl (kM, 384, .inl (nM Mm))), (aO, .inl (kO, 16, .inl (nM Ob))), (aI, .inl (kI, 16, .inl (nM Ib))), (aT, .inr (0, [.int (nI 0), .int (nI 8), .int z1, .int (nI ((nx - i) - 1))])), (aE, .inr (0, [.int (nI 64), .int (nI 16), .int (nI rx), .int (nI mx)]))] H) e_12) hP9
          have hD9 : va_D A [(aR, .inr (1, [.ref aM, .ref aO, .ref aI, .ref aT, .ref aE, .int ff])), (aM, .inl (kM, 384, .inl (nM Mm))), (aO, .inl (kO, 16, .inl (nM Ob))), (aI, .inl (kI, 16, .inl (nM Ib))), (aT, .inr (0, [.int (nI 0), .int (nI 8), .int (nI ((tx + (i + 1)) % 8)), .int (nI ((nx - i) - 1))])), (aE, .inr (0, [.int (nI 64), .int (nI 16), .int (nI rx), .int (nI mx)]))] := Eq.mp (congrArg (fun (z1 : Int32) => va_D A [(aR, .inr (1, [.ref aM, .ref aO, .ref aI, .ref aT, .ref aE, .int ff])), (aM, .inl (kM, 384, .inl (nM Mm))), (aO, .inl (kO, 16, .inl (nM Ob))), (aI, .inl (kI, 16, .inl (nM Ib))), (aT, .inr (0, [.int (nI 0), .int (nI 8), .int z1, .int (nI ((nx - i) - 1))])), (aE, .inr (0, [.int (nI 64), .int (nI 16), .int (nI rx), .int (nI mx)]))]) e_12) hD9
          have hP9 : va_P (dC, dI) vwCl [(aR, .inr (1, [.ref aM, .ref aO, .ref aI, .ref aT, .ref aE, .int ff])), (aM, .inl (kM, 384, .inl (nM Mm))), (aO, .inl (kO, 16, .inl (nM Ob))), (aI, .inl (kI, 16, .inl (nM Ib))), (aT, .inr (0, [.int (nI 0), .int (nI 8), .int (nI ((tx + (i + 1)) % 8)), .int (nI (nx - (i + 1)))])), (aE, .inr (0, [.int (nI 64), .int (nI 16), .int (nI rx), .int (nI mx)]))] H := Eq.mp (congrArg (fun (z1 : Int32) => va_P (dC, dI) vwCl [(aR, .inr (1, [.ref aM, .ref aO, .ref aI, .ref aT, .ref aE, .int ff])), (aM, .inl (kM, 384, .inl (nM Mm))), (aO, .inl (kO, 16, .inl (nM Ob))), (aI, .inl (kI, 16, .inl (nM Ib))), (aT, .inr (0, [.int (nI 0), .int (nI 8), .int (nI ((tx + (i + 1)) % 8)), .int z1])), (aE, .inr (0, [.int (nI 64), .int (nI 16), .int (nI rx), .int (nI mx)]))] H) e_13) hP9
          have hD9 : va_D A [(aR, .inr (1, [.ref aM, .ref aO, .ref aI, .ref aT, .ref aE, .int ff])), (aM, .inl (kM, 384, .inl (nM Mm))), (aO, .inl (kO, 16, .inl (nM Ob))), (aI, .inl (kI, 16, .inl (nM Ib))), (aT, .inr (0, [.int (nI 0), .int (nI 8), .int (nI ((tx + (i + 1)) % 8)), .int (nI (nx - (i + 1)))])), (aE, .inr (0, [.int (nI 64), .int (nI 16), .int (nI rx), .int (nI mx)]))] := Eq.mp (congrArg (fun (z1 : Int32) => va_D A [(aR, .inr (1, [.ref aM, .ref aO, .ref aI, .ref aT, .ref aE, .int ff])), (aM, .inl (kM, 384, .inl (nM Mm))), (aO, .inl (kO, 16, .inl (nM Ob))), (aI, .inl (kI, 16, .inl (nM Ib))), (aT, .inr (0, [.int (nI 0), .int (nI 8), .int (nI ((tx + (i + 1)) % 8)), .int z1])), (aE, .inr (0, [.int (nI 64), .int (nI 16), .int (nI rx), .int (nI mx)]))]) e_13) hD9
          have hl9 : lv_has ls 2 [(0, .ref aR), (1, .int (nI (i + 1)))] := lv_sub hl [1, 0] rfl
          exact ih (i + 1) (by omega) (lt_s hall hg.2) (by omega) _ _ _ hP9 hD9 hS hl9
  have hP9 := hP.sub (ws' := [(aR, .inr (1, [.ref aM, .ref aO, .ref aI, .ref aT, .ref aE, .int ff])), (aM, .inl (kM, 384, .inl (nM Mm))), (aO, .inl (kO, 16, .inl (nM Ob))), (aI, .inl (kI, 16, .inl (nM Ib))), (aT, .inr (0, [.int (nI 0), .int (nI 8), .int (nI tx), .int (nI nx)])), (aE, .inr (0, [.int (nI 64), .int (nI 16), .int (nI rx), .int (nI mx)]))]) [0, 1, 2, 3, 4, 5] rfl
  have hD9 := hD.sub (ws' := [(aR, .inr (1, [.ref aM, .ref aO, .ref aI, .ref aT, .ref aE, .int ff])), (aM, .inl (kM, 384, .inl (nM Mm))), (aO, .inl (kO, 16, .inl (nM Ob))), (aI, .inl (kI, 16, .inl (nM Ib))), (aT, .inr (0, [.int (nI 0), .int (nI 8), .int (nI tx), .int (nI nx)])), (aE, .inr (0, [.int (nI 64), .int (nI 16), .int (nI rx), .int (nI mx)]))]) [0, 1, 2, 3, 4, 5] (by decide) rfl
  have e_14 : (nI tx : Int32) = nI ((tx + 0) % 8) := congrArg nI (by omega)
  have e_15 : (nI nx : Int32) = nI (nx - 0) := congrArg nI (by omega)
  have hP9 : va_P (dC, dI) vwCl [(aR, .inr (1, [.ref aM, .ref aO, .ref aI, .ref aT, .ref aE, .int ff])), (aM, .inl (kM, 384, .inl (nM Mm))), (aO, .inl (kO, 16, .inl (nM Ob))), (aI, .inl (kI, 16, .inl (nM Ib))), (aT, .inr (0, [.int (nI 0), .int (nI 8), .int (nI ((tx + 0) % 8)), .int (nI nx)])), (aE, .inr (0, [.int (nI 64), .int (nI 16), .int (nI rx), .int (nI mx)]))] s.heap := Eq.mp (congrArg (fun (z1 : Int32) => va_P (dC, dI) vwCl [(aR, .inr (1, [.ref aM, .ref aO, .ref aI, .ref aT, .ref aE, .int ff])), (aM, .inl (kM, 384, .inl (nM Mm))), (aO, .inl (kO, 16, .inl (nM Ob))), (aI, .inl (kI, 16, .inl (nM Ib))), (aT, .inr (0, [.int (nI 0), .int (nI 8), .int z1, .int (nI nx)])), (aE, .inr (0, [.int (nI 64), .int (nI 16), .int (nI rx), .int (nI mx)]))] s.heap) e_14) hP9
  have hD9 : va_D A [(aR, .inr (1, [.ref aM, .ref aO, .ref aI, .ref aT, .ref aE, .int ff])), (aM, .inl (kM, 384, .inl (nM Mm))), (aO, .inl (kO, 16, .inl (nM Ob))), (aI, .inl (kI, 16, .inl (nM Ib))), (aT, .inr (0, [.int (nI 0), .int (nI 8), .int (nI ((tx + 0) % 8)), .int (nI nx)])), (aE, .inr (0, [.int (nI 64), .int (nI 16), .int (nI rx), .int (nI mx)]))] := Eq.mp (congrArg (fun (z1 : Int32) => va_D A [(aR, .inr (1, [.ref aM, .ref aO, .ref aI, .ref aT, .ref aE, .int ff])), (aM, .inl (kM, 384, .inl (nM Mm))), (aO, .inl (kO, 16, .inl (nM Ob))), (aI, .inl (kI, 16, .inl (nM Ib))), (aT, .inr (0, [.int (nI 0), .int (nI 8), .int z1, .int (nI nx)])), (aE, .inr (0, [.int (nI 64), .int (nI 16), .int (nI rx), .int (nI mx)]))]) e_14) hD9
  have hP9 : va_P (dC, dI) vwCl [(aR, .inr (1, [.ref aM, .ref aO, .ref aI, .ref aT, .ref aE, .int ff])), (aM, .inl (kM, 384, .inl (nM Mm))), (aO, .inl (kO, 16, .inl (nM Ob))), (aI, .inl (kI, 16, .inl (nM Ib))), (aT, .inr (0, [.int (nI 0), .int (nI 8), .int (nI ((tx + 0) % 8)), .int (nI (nx - 0))])), (aE, .inr (0, [.int (nI 64), .int (nI 16), .int (nI rx), .int (nI mx)]))] s.heap := Eq.mp (congrArg (fun (z1 : Int32) => va_P (dC, dI) vwCl [(aR, .inr (1, [.ref aM, .ref aO, .ref aI, .ref aT, .ref aE, .int ff])), (aM, .inl (kM, 384, .inl (nM Mm))), (aO, .inl (kO, 16, .inl (nM Ob))), (aI, .inl (kI, 16, .inl (nM Ib))), (aT, .inr (0, [.int (nI 0), .int (nI 8), .int (nI ((tx + 0) % 8)), .int z1])), (aE, .inr (0, [.int (nI 64), .int (nI 16), .int (nI rx), .int (nI mx)]))] s.heap) e_15) hP9
  have hD9 : va_D A [(aR, .inr (1, [.ref aM, .ref aO, .ref aI, .ref aT, .ref aE, .int ff])), (aM, .inl (kM, 384, .inl (nM Mm))), (aO, .inl (kO, 16, .inl (nM Ob))), (aI, .inl (kI, 16, .inl (nM Ib))), (aT, .inr (0, [.int (nI 0), .int (nI 8), .int (nI ((tx + 0) % 8)), .int (nI (nx - 0))])), (aE, .inr (0, [.int (nI 64), .int (nI 16), .int (nI rx), .int (nI mx)]))] := Eq.mp (congrArg (fun (z1 : Int32) => va_D A [(aR, .inr (1, [.ref aM, .ref aO, .ref aI, .ref aT, .ref aE, .int ff])), (aM, .inl (kM, 384, .inl (nM Mm))), (aO, .inl (kO, 16, .inl (nM Ob))), (aI, .inl (kI, 16, .inl (nM Ib))), (aT, .inr (0, [.int (nI 0), .int (nI 8), .int (nI ((tx + 0) % 8)), .int z1])), (aE, .inr (0, [.int (nI 64), .int (nI 16), .int (nI rx), .int (nI mx)]))]) e_15) hD9
  have hl9 : lv_has ls 2 [(0, .ref aR), (1, .int (nI 0))] := lv_sub hl [1, 0] rfl
  exact loop_1 (8 + 1) 0 (by omega) lt_0 (by omega) _ _ _ hP9 hD9 hS hl9
set_option maxHeartbeats 4000000 in
set_option maxRecDepth 100000 in
theorem c_X1_revoke (l : Launch) (dC : Nat → ClassId) (dI : Nat → Nat → Nat) (aR : Nat) (aM : Nat) (aO : Nat) (aI : Nat) (aT : Nat) (aE : Nat) (kM : ClassId) (kO : ClassId) (kI : ClassId) (Mm : Nat → Nat) (Ob : Nat → Nat) (Ib : Nat → Nat) (tx : Nat) (nx : Nat) (rx : Nat) (mx : Nat) (ff : Int32) (sz : Nat) (htx : tx < 8) (hnx : nx ≤ 8) (hrx : rx < 8) (hmx : mx ≤ 8) (hM : ∀ j, Mm j < 256) : Met l yX1_revoke wsX1_revoke ({ frames := 4, cells := 0, slots := 0, locals := 85 }) (va_Pc [.ref aR] (fun U => U.heap.size = sz ∧ va_P (dC, dI) vwCl [(aR, .inr (1, [.ref aM, .ref aO, .ref aI, .ref aT, .ref aE, .int ff])), (aM, .inl (kM, 384, .inl (nM Mm))), (aO, .inl (kO, 16, .inl (nM Ob))), (aI, .inl (kI, 16, .inl (nM Ib))), (aT, .inr (0, [.int (nI 0), .int (nI 8), .int (nI tx), .int (nI nx)])), (aE, .inr (0, [.int (nI 64), .int (nI 16), .int (nI rx), .int (nI mx)]))] U.heap ∧ va_K (dC, dI) vwCl [(kM, .int), (kO, .int), (kI, .int)] U ∧ va_D (fun _ => True) [(aR, .inr (1, [.ref aM, .ref aO, .ref aI, .ref aT, .ref aE, .int ff])), (aM, .inl (kM, 384, .inl (nM Mm))), (aO, .inl (kO, 16, .inl (nM Ob))), (aI, .inl (kI, 16, .inl (nM Ib))), (aT, .inr (0, [.int (nI 0), .int (nI 8), .int (nI tx), .int (nI nx)])), (aE, .inr (0, [.int (nI 64), .int (nI 16), .int (nI rx), .int (nI mx)]))])) (va_Qi (fun (r9 : Int32) (_ : Unit) => r9 = nI (nx - lead (gbP Mm 0 tx) nx)) (fun _ t => va_P (dC, dI) vwCl [(aR, .inr (1, [.ref aM, .ref aO, .ref aI, .ref aT, .ref aE, .int ff])), (aM, .inl (kM, 384, .inl (nM (clM Mm 0 ((tx + lead (gbP Mm 0 tx) nx) % 8) 0 (nx - lead (gbP Mm 0 tx) nx))))), (aO, .inl (kO, 16, .inl (nM Ob))), (aI, .inl (kI, 16, .inl (nM Ib))), (aT, .inr (0, [.int (nI 0), .int (nI 8), .int (nI ((tx + lead (gbP Mm 0 tx) nx) % 8)), .int (nI 0)])), (aE, .inr (0, [.int (nI 64), .int (nI 16), .int (nI rx), .int (nI mx)]))] t.heap ∧ va_K (dC, dI) vwCl [(kM, .int), (kO, .int), (kI, .int)] t ∧ va_D (va_A [(aR, .inr (1, [.ref aM, .ref aO, .ref aI, .ref aT, .ref aE, .int ff])), (aM, .inl (kM, 384, .inl (nM Mm))), (aO, .inl (kO, 16, .inl (nM Ob))), (aI, .inl (kI, 16, .inl (nM Ib))), (aT, .inr (0, [.int (nI 0), .int (nI 8), .int (nI tx), .int (nI nx)])), (aE, .inr (0, [.int (nI 64), .int (nI 16), .int (nI rx), .int (nI mx)]))] sz) [(aR, .inr (1, [.ref aM, .ref aO, .ref aI, .ref aT, .ref aE, .int ff])), (aM, .inl (kM, 384, .inl (nM (clM Mm 0 ((tx + lead (gbP Mm 0 tx) nx) % 8) 0 (nx - lead (gbP Mm 0 tx) nx))))), (aO, .inl (kO, 16, .inl (nM Ob))), (aI, .inl (kI, 16, .inl (nM Ib))), (aT, .inr (0, [.int (nI 0), .int (nI 8), .int (nI ((tx + lead (gbP Mm 0 tx) nx) % 8)), .int (nI 0)])), (aE, .inr (0, [.int (nI 64), .int (nI 16), .int (nI rx), .int (nI mx)]))]) (va_A [(aR, .inr (1, [.ref aM, .ref aO, .ref aI, .ref aT, .ref aE, .int ff])), (aM, .inl (kM, 384, .inl (nM Mm))), (aO, .inl (kO, 16, .inl (nM Ob))), (aI, .inl (kI, 16, .inl (nM Ib))), (aT, .inr (0, [.int (nI 0), .int (nI 8), .int (nI tx), .int (nI nx)])), (aE, .inr (0, [.int (nI 64), .int (nI 16), .int (nI rx), .int (nI mx)]))] sz)) 0 0 (va_A [(aR, .inr (1, [.ref aM, .ref aO, .ref aI, .ref aT, .ref aE, .int ff])), (aM, .inl (kM, 384, .inl (nM Mm))), (aO, .inl (kO, 16, .inl (nM Ob))), (aI, .inl (kI, 16, .inl (nM Ib))), (aT, .inr (0, [.int (nI 0), .int (nI 8), .int (nI tx), .int (nI nx)])), (aE, .inr (0, [.int (nI 64), .int (nI 16), .int (nI rx), .int (nI mx)]))] sz) := by
  refine Met.ofW (cc := cX1_revoke) (maxL := 1) (ret := (some .int)) (by decide) rfl ?_
  intro p e s m args below meth c s₁ B hml hv
  obtain ⟨rfl, hsz, hP, hK, hD0⟩ := hv
  have hx := B.exec
  have hb := B.bytes
  have hr := B.returns
  have hts := atoms_spec (ws := wsX1_revoke) B.pre
  have hown : s.vm.findClass RX1 = some m.cls := findClass_of_methodNamed B.named
  have hlocks := B.notSynchronized
  have hI1 : ∀ w ∈ u_ws RX1 TX1 6, w ∈ wsX1_revoke := by decide +kernel
  subst hsz
  have hD := hD0.self (sz := s.heap.size)
  generalize hAe : va_A [(aR, .inr (1, [.ref aM, .ref aO, .ref aI, .ref aT, .ref aE, .int ff])), (aM, .inl (kM, 384, .inl (nM Mm))), (aO, .inl (kO, 16, .inl (nM Ob))), (aI, .inl (kI, 16, .inl (nM Ib))), (aT, .inr (0, [.int (nI 0), .int (nI 8), .int (nI tx), .int (nI nx)])), (aE, .inr (0, [.int (nI 64), .int (nI 16), .int (nI rx), .int (nI mx)]))] s.heap.size = A at hD ⊢
  have hA : ∀ q : Nat, s.heap.size ≤ q → A q := fun q h => by rw [← hAe]; exact Or.inr h
  have hS : va_S A s.heap s.heap [] := va_S.rf
  have hP : va_P (dC, dI) vwCl [(aR, .inr (1, [.ref aM, .ref aO, .ref aI, .ref aT, .ref aE, .int ff])), (aM, .inl (kM, 384, .inl (nM Mm))), (aO, .inl (kO, 16, .inl (nM Ob))), (aI, .inl (kI, 16, .inl (nM Ib))), (aT, .inr (0, [.int (nI 0), .int (nI 8), .int (nI tx), .int (nI nx)])), (aE, .inr (0, [.int (nI 64), .int (nI 16), .int (nI rx), .int (nI mx)]))] s.heap := hP
  have hl := lv_entry ([.ref aR]) (n := 1) (Nat.le_of_ble_eq_true rfl)
  rw [lg_entry_eq]
  generalize (lg_sl ([.ref aR]) ++ List.replicate (1 - (lg_sl ([.ref aR])).length) Slot.unset).toArray = ls at hl ⊢
  have hl : lv_has ls 1 [(0, .ref aR)] := hl
  refine lv_aload_n hx hb dX1_revoke_0 rfl (lv_at hl 0 rfl) ?_
  have hPc := hP.sub (ws' := [(aR, .inr (1, [.ref aM, .ref aO, .ref aI, .ref aT, .ref aE, .int ff])), (aM, .inl (kM, 384, .inl (nM Mm))), (aO, .inl (kO, 16, .inl (nM Ob))), (aI, .inl (kI, 16, .inl (nM Ib))), (aT, .inr (0, [.int (nI 0), .int (nI 8), .int (nI tx), .int (nI nx)])), (aE, .inr (0, [.int (nI 64), .int (nI 16), .int (nI rx), .int (nI mx)]))]) [0, 1, 2, 3, 4, 5] rfl
  have hDc := hD.sub (ws' := [(aR, .inr (1, [.ref aM, .ref aO, .ref aI, .ref aT, .ref aE, .int ff])), (aM, .inl (kM, 384, .inl (nM Mm))), (aO, .inl (kO, 16, .inl (nM Ob))), (aI, .inl (kI, 16, .inl (nM Ib))), (aT, .inr (0, [.int (nI 0), .int (nI 8), .int (nI tx), .int (nI nx)])), (aE, .inr (0, [.int (nI 64), .int (nI 16), .int (nI rx), .int (nI mx)]))]) [0, 1, 2, 3, 4, 5] (by decide) rfl
  have hKc := hK.sub (tys' := [(kM, .int), (kO, .int), (kI, .int)]) [0, 1, 2] rfl
  have hFc := va_free (wc := [(aR, .inr (1, [.ref aM, .ref aO, .ref aI, .ref aT, .ref aE, .int ff])), (aM, .inl (kM, 384, .inl (nM Mm))), (aO, .inl (kO, 16, .inl (nM Ob))), (aI, .inl (kI, 16, .inl (nM Ib))), (aT, .inr (0, [.int (nI 0), .int (nI 8), .int (nI tx), .int (nI nx)])), (aE, .inr (0, [.int (nI 64), .int (nI 16), .int (nI rx), .int (nI mx)]))]) hD hS hA [0, 1, 2, 3, 4, 5] rfl
  refine va_calli (va_runV (As := []) (rest := []) ⟨hx, hb, hml, hown, hts⟩ (c_X1_reclaim l dC dI aR aM aO aI aT aE kM kO kI Mm Ob Ib tx nx rx mx ff s.heap.size htx hnx hrx hmx hM) (cwV 0 hts gX1_revoke_X1_reclaim rfl rfl rfl (by decide +kernel) ⟨Nat.le_of_ble_eq_true rfl, Nat.le_of_ble_eq_true rfl⟩) ⟨fun a U g mk q => by obtain ⟨q0, q1, qP, qK, qD⟩ := q; exact ⟨q0, q1, qP, va_K.moved (u := U) (U := U.calling g mk a) (Vm.Alike.refl U.vm) qK, qD⟩, va_recv hKc hPc (ci := 1) (q0 := 0) rfl rfl, fun U hU hW => ⟨rfl, by rw [hU], by rw [hU]; exact hPc, va_K.moved hW.alike hKc, hDc.weaken (fun _ _ _ _ => trivial)⟩⟩ rfl rfl hl.1 rfl (lv_room (Nat.le_of_ble_eq_true rfl)) dX1_revoke_1 ⟨Nat.le_of_ble_eq_true rfl, Nat.le_of_ble_eq_true rfl⟩) hS (fun q _ h => hFc q h) hFc (fun r_1 u t H1 locs ht hvm hw hB hz1 hk1 hS => ?_)
  obtain ⟨hP1, hK1, hD1⟩ := hB
  rw [ht] at hP1
  have hK1 := va_K.moved hvm.symm hK1
  obtain ⟨hP, hD⟩ := va_join (wr := []) (w1 := [(aR, .inr (1, [.ref aM, .ref aO, .ref aI, .ref aT, .ref aE, .int ff])), (aM, .inl (kM, 384, .inl (nM Mm))), (aO, .inl (kO, 16, .inl (nM Ob))), (aI, .inl (kI, 16, .inl (nM Ib))), (aT, .inr (0, [.int (nI 0), .int (nI 8), .int (nI ((tx + lead (gbP Mm 0 tx) nx) % 8)), .int (nI (nx - lead (gbP Mm 0 tx) nx))])), (aE, .inr (0, [.int (nI 64), .int (nI 16), .int (nI rx), .int (nI mx)]))]) hP hD [0, 1, 2, 3, 4, 5] [] rfl rfl (by decide) (by decide) hk1 hFc hP1 hD1
  have hK := (hK.sub (tys' := []) [] rfl).app hK1
  generalize H1 = H at hP hS ⊢
  have hP : va_P (dC, dI) vwCl [(aR, .inr (1, [.ref aM, .ref aO, .ref aI, .ref aT, .ref aE, .int ff])), (aM, .inl (kM, 384, .inl (nM Mm))), (aO, .inl (kO, 16, .inl (nM Ob))), (aI, .inl (kI, 16, .inl (nM Ib))), (aT, .inr (0, [.int (nI 0), .int (nI 8), .int (nI ((tx + lead (gbP Mm 0 tx) nx) % 8)), .int (nI (nx - lead (gbP Mm 0 tx) nx))])), (aE, .inr (0, [.int (nI 64), .int (nI 16), .int (nI rx), .int (nI mx)]))] H := hP
  have hD : va_D A [(aR, .inr (1, [.ref aM, .ref aO, .ref aI, .ref aT, .ref aE, .int ff])), (aM, .inl (kM, 384, .inl (nM Mm))), (aO, .inl (kO, 16, .inl (nM Ob))), (aI, .inl (kI, 16, .inl (nM Ib))), (aT, .inr (0, [.int (nI 0), .int (nI 8), .int (nI ((tx + lead (gbP Mm 0 tx) nx) % 8)), .int (nI (nx - lead (gbP Mm 0 tx) nx))])), (aE, .inr (0, [.int (nI 64), .int (nI 16), .int (nI rx), .int (nI mx)]))] := hD
  have hK : va_K (dC, dI) vwCl [(kM, .int), (kO, .int), (kI, .int)] s := hK
  obtain rfl : r_1 = nI (lead (gbP Mm 0 tx) nx) := hw
  refine lv_pop hx hb dX1_revoke_4 rfl ?_
  refine lv_aload_n hx hb dX1_revoke_5 rfl (lv_at hl 0 rfl) ?_
  refine lv_aload_n hx hb dX1_revoke_6 rfl (lv_at hl 0 rfl) ?_
  refine va_get (D := (dC, dI)) (ci := 1) (v := .ref aT) (C := RX1) (T := TX1) (N := 6) hx hb hts hI1 hown hK hP 0 rfl rfl 3 (by decide) (hts (.fieldLink RX1 24 "RingDriver" "transmitQueue" "LRingDriver$SlotQueue;") (by decide +kernel)) (fun _ h9 => h9) rfl dX1_revoke_7 ?_
  refine lv_iconst (v := nI 0) hx hb dX1_revoke_10 (by decide +kernel) ?_
  have hPc := hP.sub (ws' := [(aR, .inr (1, [.ref aM, .ref aO, .ref aI, .ref aT, .ref aE, .int ff])), (aM, .inl (kM, 384, .inl (nM Mm))), (aT, .inr (0, [.int (nI 0), .int (nI 8), .int (nI ((tx + lead (gbP Mm 0 tx) nx) % 8)), .int (nI (nx - lead (gbP Mm 0 tx) nx))]))]) [0, 1, 4] rfl
  have hDc := hD.sub (ws' := [(aR, .inr (1, [.ref aM, .ref aO, .ref aI, .ref aT, .ref aE, .int ff])), (aM, .inl (kM, 384, .inl (nM Mm))), (aT, .inr (0, [.int (nI 0), .int (nI 8), .int (nI ((tx + lead (gbP Mm 0 tx) nx) % 8)), .int (nI (nx - lead (gbP Mm 0 tx) nx))]))]) [0, 1, 4] (by decide) rfl
  have hKc := hK.sub (tys' := [(kM, .int)]) [0] rfl
  have hFc := va_free (wc := [(aR, .inr (1, [.ref aM, .ref aO, .ref aI, .ref aT, .ref aE, .int ff])), (aM, .inl (kM, 384, .inl (nM Mm))), (aT, .inr (0, [.int (nI 0), .int (nI 8), .int (nI ((tx + lead (gbP Mm 0 tx) nx) % 8)), .int (nI (nx - lead (gbP Mm 0 tx) nx))]))]) hD hS hA [0, 1, 4] rfl
  refine va_calli (va_runV (As := [.ref aT, .int (nI 0)]) (rest := []) ⟨hx, hb, hml, hown, hts⟩ (c_X1_closeAllBehind l dC dI aR aM aO aI aT aE ff kM Mm aT 0 8 ((tx + lead (gbP Mm 0 tx) nx) % 8) (nx - lead (gbP Mm 0 tx) nx) 0 H.size (by omega) (by omega) (by omega) (by omega)) (cwV 2 hts gX1_revoke_X1_closeAllBehind rfl rfl rfl (by decide +kernel) ⟨Nat.le_of_ble_eq_true rfl, Nat.le_of_ble_eq_true rfl⟩) ⟨fun a U g mk q => by obtain ⟨q0, q1, qP, qK, qD⟩ := q; exact ⟨q0, q1, qP, va_K.moved (u := U) (U := U.calling g mk a) (Vm.Alike.refl U.vm) qK, qD⟩, va_recv hKc hPc (ci := 1) (q0 := 0) rfl rfl, fun U hU hW => ⟨rfl, by rw [hU], by rw [hU]; exact hPc, va_K.moved hW.alike hKc, hDc.weaken (fun _ _ _ _ => trivial)⟩⟩ rfl rfl hl.1 rfl (lv_room (Nat.le_of_ble_eq_true rfl)) dX1_revoke_11 ⟨Nat.le_of_ble_eq_true rfl, Nat.le_of_ble_eq_true rfl⟩) hS (fun q _ h => hFc q h) hFc (fun r_2 u t H1 locs ht hvm hw hB hz1 hk1 hS => ?_)
  obtain ⟨hP1, hK1, hD1⟩ := hB
  rw [ht] at hP1
  have hK1 := va_K.moved hvm.symm hK1
  obtain ⟨hP, hD⟩ := va_join (wr := [(aO, .inl (kO, 16, .inl (nM Ob))), (aI, .inl (kI, 16, .inl (nM Ib))), (aE, .inr (0, [.int (nI 64), .int (nI 16), .int (nI rx), .int (nI mx)]))]) (w1 := [(aR, .inr (1, [.ref aM, .ref aO, .ref aI, .ref aT, .ref aE, .int ff])), (aM, .inl (kM, 384, .inl (nM (clM Mm 0 ((tx + lead (gbP Mm 0 tx) nx) % 8) 0 (nx - lead (gbP Mm 0 tx) nx))))), (aT, .inr (0, [.int (nI 0), .int (nI 8), .int (nI ((tx + lead (gbP Mm 0 tx) nx) % 8)), .int (nI 0)]))]) hP hD [0, 1, 4] [2, 3, 5] rfl rfl (by decide) (by decide) hk1 hFc hP1 hD1
  have hK := (hK.sub (tys' := [(kO, .int), (kI, .int)]) [1, 2] rfl).app hK1
  generalize H1 = H at hP hS ⊢
  have hP : va_P (dC, dI) vwCl [(aO, .inl (kO, 16, .inl (nM Ob))), (aI, .inl (kI, 16, .inl (nM Ib))), (aE, .inr (0, [.int (nI 64), .int (nI 16), .int (nI rx), .int (nI mx)])), (aR, .inr (1, [.ref aM, .ref aO, .ref aI, .ref aT, .ref aE, .int ff])), (aM, .inl (kM, 384, .inl (nM (clM Mm 0 ((tx + lead (gbP Mm 0 tx) nx) % 8) 0 (nx - lead (gbP Mm 0 tx) nx))))), (aT, .inr (0, [.int (nI 0), .int (nI 8), .int (nI ((tx + lead (gbP Mm 0 tx) nx) % 8)), .int (nI 0)]))] H := hP
  have hD : va_D A [(aO, .inl (kO, 16, .inl (nM Ob))), (aI, .inl (kI, 16, .inl (nM Ib))), (aE, .inr (0, [.int (nI 64), .int (nI 16), .int (nI rx), .int (nI mx)])), (aR, .inr (1, [.ref aM, .ref aO, .ref aI, .ref aT, .ref aE, .int ff])), (aM, .inl (kM, 384, .inl (nM (clM Mm 0 ((tx + lead (gbP Mm 0 tx) nx) % 8) 0 (nx - lead (gbP Mm 0 tx) nx))))), (aT, .inr (0, [.int (nI 0), .int (nI 8), .int (nI ((tx + lead (gbP Mm 0 tx) nx) % 8)), .int (nI 0)]))] := hD
  have hK : va_K (dC, dI) vwCl [(kO, .int), (kI, .int), (kM, .int)] s := hK
  obtain rfl : r_2 = nI ((nx - lead (gbP Mm 0 tx) nx) - 0) := hw
  have hP9 := hP.sub (ws' := [(aR, .inr (1, [.ref aM, .ref aO, .ref aI, .ref aT, .ref aE, .int ff])), (aM, .inl (kM, 384, .inl (nM (clM Mm 0 ((tx + lead (gbP Mm 0 tx) nx) % 8) 0 (nx - lead (gbP Mm 0 tx) nx))))), (aO, .inl (kO, 16, .inl (nM Ob))), (aI, .inl (kI, 16, .inl (nM Ib))), (aT, .inr (0, [.int (nI 0), .int (nI 8), .int (nI ((tx + lead (gbP Mm 0 tx) nx) % 8)), .int (nI 0)])), (aE, .inr (0, [.int (nI 64), .int (nI 16), .int (nI rx), .int (nI mx)]))]) [3, 4, 0, 1, 5, 2] rfl
  have hD9 := hD.sub (ws' := [(aR, .inr (1, [.ref aM, .ref aO, .ref aI, .ref aT, .ref aE, .int ff])), (aM, .inl (kM, 384, .inl (nM (clM Mm 0 ((tx + lead (gbP Mm 0 tx) nx) % 8) 0 (nx - lead (gbP Mm 0 tx) nx))))), (aO, .inl (kO, 16, .inl (nM Ob))), (aI, .inl (kI, 16, .inl (nM Ib))), (aT, .inr (0, [.int (nI 0), .int (nI 8), .int (nI ((tx + lead (gbP Mm 0 tx) nx) % 8)), .int (nI 0)])), (aE, .inr (0, [.int (nI 64), .int (nI 16), .int (nI rx), .int (nI mx)]))]) [3, 4, 0, 1, 5, 2] (by decide) rfl
  have hK9 := hK.sub (tys' := [(kM, .int), (kO, .int), (kI, .int)]) [2, 0, 1] rfl
  have e_3 : (nI ((nx - lead (gbP Mm 0 tx) nx) - 0) : Int32) = nI (nx - lead (gbP Mm 0 tx) nx) := congrArg nI (by omega)
  exact W.iret (v := nI ((nx - lead (gbP Mm 0 tx) nx) - 0)) hx hb hr (fun t ht hW => ⟨⟨_, (), rfl, e_3, by rw [ht]; exact hP9, va_K.moved hW.alike hK9, hD9⟩, hS.F ht⟩) hS.2.2 dX1_revoke_14
set_option maxHeartbeats 4000000 in
set_option maxRecDepth 100000 in
theorem c_X1_withdraw (l : Launch) (dC : Nat → ClassId) (dI : Nat → Nat → Nat) (aR : Nat) (aM : Nat) (aO : Nat) (aI : Nat) (aT : Nat) (aE : Nat) (kM : ClassId) (kO : ClassId) (kI : ClassId) (Mm : Nat → Nat) (Ob : Nat → Nat) (Ib : Nat → Nat) (tx : Nat) (nx : Nat) (rx : Nat) (mx : Nat) (ff : Int32) (sz : Nat) (htx : tx < 8) (hnx : nx ≤ 8) (hrx : rx < 8) (hmx : mx ≤ 8) (hM : ∀ j, Mm j < 256) : Met l yX1_withdraw wsX1_withdraw ({ frames := 3, cells := 0, slots := 0, locals := 66 }) (va_Pc [.ref aR] (fun U => U.heap.size = sz ∧ va_P (dC, dI) vwCl [(aR, .inr (1, [.ref aM, .ref aO, .ref aI, .ref aT, .ref aE, .int ff])), (aM, .inl (kM, 384, .inl (nM Mm))), (aO, .inl (kO, 16, .inl (nM Ob))), (aI, .inl (kI, 16, .inl (nM Ib))), (aT, .inr (0, [.int (nI 0), .int (nI 8), .int (nI tx), .int (nI nx)])), (aE, .inr (0, [.int (nI 64), .int (nI 16), .int (nI rx), .int (nI mx)]))] U.heap ∧ va_K (dC, dI) vwCl [(kM, .int), (kO, .int), (kI, .int)] U ∧ va_D (fun _ => True) [(aR, .inr (1, [.ref aM, .ref aO, .ref aI, .ref aT, .ref aE, .int ff])), (aM, .inl (kM, 384, .inl (nM Mm))), (aO, .inl (kO, 16, .inl (nM Ob))), (aI, .inl (kI, 16, .inl (nM Ib))), (aT, .inr (0, [.int (nI 0), .int (nI 8), .int (nI tx), .int (nI nx)])), (aE, .inr (0, [.int (nI 64), .int (nI 16), .int (nI rx), .int (nI mx)]))])) (va_Qi (fun (r9 : Int32) (_ : Unit) => r9 = nI (mx - lead (gbP Mm 64 rx) mx)) (fun _ t => va_P (dC, dI) vwCl [(aR, .inr (1, [.ref aM, .ref aO, .ref aI, .ref aT, .ref aE, .int ff])), (aM, .inl (kM, 384, .inl (nM (clM Mm 64 rx (lead (gbP Mm 64 rx) mx) mx)))), (aO, .inl (kO, 16, .inl (nM Ob))), (aI, .inl (kI, 16, .inl (nM Ib))), (aT, .inr (0, [.int (nI 0), .int (nI 8), .int (nI tx), .int (nI nx)])), (aE, .inr (0, [.int (nI 64), .int (nI 16), .int (nI rx), .int (nI (lead (gbP Mm 64 rx) mx))]))] t.heap ∧ va_K (dC, dI) vwCl [(kM, .int), (kO, .int), (kI, .int)] t ∧ va_D (va_A [(aR, .inr (1, [.ref aM, .ref aO, .ref aI, .ref aT, .ref aE, .int ff])), (aM, .inl (kM, 384, .inl (nM Mm))), (aO, .inl (kO, 16, .inl (nM Ob))), (aI, .inl (kI, 16, .inl (nM Ib))), (aT, .inr (0, [.int (nI 0), .int (nI 8), .int (nI tx), .int (nI nx)])), (aE, .inr (0, [.int (nI 64), .int (nI 16), .int (nI rx), .int (nI mx)]))] sz) [(aR, .inr (1, [.ref aM, .ref aO, .ref aI, .ref aT, .ref aE, .int ff])), (aM, .inl (kM, 384, .inl (nM (clM Mm 64 rx (lead (gbP Mm 64 rx) mx) mx)))), (aO, .inl (kO, 16, .inl (nM Ob))), (aI, .inl (kI, 16, .inl (nM Ib))), (aT, .inr (0, [.int (nI 0), .int (nI 8), .int (nI tx), .int (nI nx)])), (aE, .inr (0, [.int (nI 64), .int (nI 16), .int (nI rx), .int (nI (lead (gbP Mm 64 rx) mx))]))]) (va_A [(aR, .inr (1, [.ref aM, .ref aO, .ref aI, .ref aT, .ref aE, .int ff])), (aM, .inl (kM, 384, .inl (nM Mm))), (aO, .inl (kO, 16, .inl (nM Ob))), (aI, .inl (kI, 16, .inl (nM Ib))), (aT, .inr (0, [.int (nI 0), .int (nI 8), .int (nI tx), .int (nI nx)])), (aE, .inr (0, [.int (nI 64), .int (nI 16), .int (nI rx), .int (nI mx)]))] sz)) 0 0 (va_A [(aR, .inr (1, [.ref aM, .ref aO, .ref aI, .ref aT, .ref aE, .int ff])), (aM, .inl (kM, 384, .inl (nM Mm))), (aO, .inl (kO, 16, .inl (nM Ob))), (aI, .inl (kI, 16, .inl (nM Ib))), (aT, .inr (0, [.int (nI 0), .int (nI 8), .int (nI tx), .int (nI nx)])), (aE, .inr (0, [.int (nI 64), .int (nI 16), .int (nI rx), .int (nI mx)]))] sz) := by
  refine Met.ofW (cc := cX1_withdraw) (maxL := 2) (ret := (some .int)) (by decide) rfl ?_
  intro p e s m args below meth c s₁ B hml hv
  obtain ⟨rfl, hsz, hP, hK, hD0⟩ := hv
  have hx := B.exec
  have hb := B.bytes
  have hr := B.returns
  have hts := atoms_spec (ws := wsX1_withdraw) B.pre
  have hown : s.vm.findClass RX1 = some m.cls := findClass_of_methodNamed B.named
  have hlocks := B.notSynchronized
  have hI1 : ∀ w ∈ u_ws RX1 TX1 6, w ∈ wsX1_withdraw := by decide +kernel
  subst hsz
  have hD := hD0.self (sz := s.heap.size)
  generalize hAe : va_A [(aR, .inr (1, [.ref aM, .ref aO, .ref aI, .ref aT, .ref aE, .int ff])), (aM, .inl (kM, 384, .inl (nM Mm))), (aO, .inl (kO, 16, .inl (nM Ob))), (aI, .inl (kI, 16, .inl (nM Ib))), (aT, .inr (0, [.int (nI 0), .int (nI 8), .int (nI tx), .int (nI nx)])), (aE, .inr (0, [.int (nI 64), .int (nI 16), .int (nI rx), .int (nI mx)]))] s.heap.size = A at hD ⊢
  have hA : ∀ q : Nat, s.heap.size ≤ q → A q := fun q h => by rw [← hAe]; exact Or.inr h
  have hS : va_S A s.heap s.heap [] := va_S.rf
  have hP : va_P (dC, dI) vwCl [(aR, .inr (1, [.ref aM, .ref aO, .ref aI, .ref aT, .ref aE, .int ff])), (aM, .inl (kM, 384, .inl (nM Mm))), (aO, .inl (kO, 16, .inl (nM Ob))), (aI, .inl (kI, 16, .inl (nM Ib))), (aT, .inr (0, [.int (nI 0), .int (nI 8), .int (nI tx), .int (nI nx)])), (aE, .inr (0, [.int (nI 64), .int (nI 16), .int (nI rx), .int (nI mx)]))] s.heap := hP
  have hl := lv_entry ([.ref aR]) (n := 2) (Nat.le_of_ble_eq_true rfl)
  rw [lg_entry_eq]
  generalize (lg_sl ([.ref aR]) ++ List.replicate (2 - (lg_sl ([.ref aR])).length) Slot.unset).toArray = ls at hl ⊢
  have hl : lv_has ls 2 [(0, .ref aR)] := hl
  refine W_gen (fun Q eQ => ?_)
  refine lv_iconst (v := nI 0) hx hb dX1_withdraw_0 (by decide +kernel) ?_
  refine lv_istore_n (lv' := [(1, .int (nI 0)), (0, .ref aR)]) hx hb dX1_withdraw_1 rfl hl (by decide) rfl (fun ls hl => ?_)
  have loop_1 : ∀ (fuel : Nat) (i : Nat), (i ≤ mx) → (∀ j, j < i → gbP Mm 64 rx j = true) → 8 - i < fuel → ∀ (H : Heap) (locs : List Loc) (ls : Array Slot), va_P (dC, dI) vwCl [(aR, .inr (1, [.ref aM, .ref aO, .ref aI, .ref aT, .ref aE, .int ff])), (aM, .inl (kM, 384, .inl (nM Mm))), (aO, .inl (kO, 16, .inl (nM Ob))), (aI, .inl (kI, 16, .inl (nM Ib))), (aT, .inr (0, [.int (nI 0), .int (nI 8), .int (nI tx), .int (nI nx)])), (aE, .inr (0, [.int (nI 64), .int (nI 16), .int (nI rx), .int (nI mx)]))] H → va_D A [(aR, .inr (1, [.ref aM, .ref aO, .ref aI, .ref aT, .ref aE, .int ff])), (aM, .inl (kM, 384, .inl (nM Mm))), (aO, .inl (kO, 16, .inl (nM Ob))), (aI, .inl (kI, 16, .inl (nM Ib))), (aT, .inr (0, [.int (nI 0), .int (nI 8), .int (nI tx), .int (nI nx)])), (aE, .inr (0, [.int (nI 64), .int (nI 16), .int (nI rx), .int (nI mx)]))] → va_S A s.heap H locs → lv_has ls 2 [(0, .ref aR), (1, .int (nI i))] → W p l e (headSpec wsX1_withdraw ({ frames := 3, cells := 0, slots := 0, locals := 66 })).room s m ([.ref aR] : List Value).toArray below meth c H locs 0 0 Q (F0 m 2 ls []) := by
    intro fuel
    induction fuel with
    | zero =>
      intro i hi hall hfu
      exact absurd hfu (Nat.not_lt_zero _)
    | succ fuel ih =>
      intro i hi hall hfu H locs ls hP hD hS hl
      refine lv_iload_n hx hb dX1_withdraw_2 rfl (lv_at hl 1 rfl) ?_
      refine lv_bipush (v := nI 8) hx hb dX1_withdraw_3 (by decide +kernel) ?_
      refine lv_icmp_ge (tgt := 26) hx hb dX1_withdraw_5 (by decide) (fun c_2 => ?_) (fun c_2 => ?_)
      · have c_2 : 8 ≤ i := (nI_leI (a := 8) (b := i) (by omega) (by omega)).mp c_2
        have hst : i = mx ∨ gbP Mm 64 rx i = false := Or.inl (by omega)
        refine lv_aload_n hx hb dX1_withdraw_26 rfl (lv_at hl 0 rfl) ?_
        refine lv_aload_n hx hb dX1_withdraw_27 rfl (lv_at hl 0 rfl) ?_
        refine va_get (D := (dC, dI)) (ci := 1) (v := .ref aE) (C := RX1) (T := TX1) (N := 6) hx hb hts hI1 hown hK hP 0 rfl rfl 4 (by decide) (hts (.fieldLink RX1 28 "RingDriver" "receiveQueue" "LRingDriver$SlotQueue;") (by decide +kernel)) (fun _ h9 => h9) rfl dX1_withdraw_28 ?_
        refine lv_iload_n hx hb dX1_withdraw_31 rfl (lv_at hl 1 rfl) ?_
        have hPc := hP.sub (ws' := [(aR, .inr (1, [.ref aM, .ref aO, .ref aI, .ref aT, .ref aE, .int ff])), (aM, .inl (kM, 384, .inl (nM Mm))), (aE, .inr (0, [.int (nI 64), .int (nI 16), .int (nI rx), .int (nI mx)]))]) [0, 1, 5] rfl
        have hDc := hD.sub (ws' := [(aR, .inr (1, [.ref aM, .ref aO, .ref aI, .ref aT, .ref aE, .int ff])), (aM, .inl (kM, 384, .inl (nM Mm))), (aE, .inr (0, [.int (nI 64), .int (nI 16), .int (nI rx), .int (nI mx)]))]) [0, 1, 5] (by decide) rfl
        have hKc := hK.sub (tys' := [(kM, .int)]) [0] rfl
        have hFc := va_free (wc := [(aR, .inr (1, [.ref aM, .ref aO, .ref aI, .ref aT, .ref aE, .int ff])), (aM, .inl (kM, 384, .inl (nM Mm))), (aE, .inr (0, [.int (nI 64), .int (nI 16), .int (nI rx), .int (nI mx)]))]) hD hS hA [0, 1, 5] rfl
        refine va_calli (va_runV (As := [.ref aE, .int (nI i)]) (rest := []) ⟨hx, hb, hml, hown, hts⟩ (c_X1_closeAllBehind l dC dI aR aM aO aI aT aE ff kM Mm aE 64 16 rx mx i H.size (by omega) (by omega) (by omega) (by omega)) (cwV 2 hts gX1_withdraw_X1_closeAllBehind rfl rfl rfl (by decide +kernel) ⟨Nat.le_of_ble_eq_true rfl, Nat.le_of_ble_eq_true rfl⟩) ⟨fun a U g mk q => by obtain ⟨q0, q1, qP, qK, qD⟩ := q; exact ⟨q0, q1, qP, va_K.moved (u := U) (U := U.calling g mk a) (Vm.Alike.refl U.vm) qK, qD⟩, va_recv hKc hPc (ci := 1) (q0 := 0) rfl rfl, fun U hU hW => ⟨rfl, by rw [hU], by rw [hU]; exact hPc, va_K.moved hW.alike hKc, hDc.weaken (fun _ _ _ _ => trivial)⟩⟩ rfl rfl hl.1 rfl (lv_room (Nat.le_of_ble_eq_true rfl)) dX1_withdraw_32 ⟨Nat.le_of_ble_eq_true rfl, Nat.le_of_ble_eq_true rfl⟩) hS (fun q _ h => hFc q h) hFc (fun r_3 u t H1 locs ht hvm hw hB hz1 hk1 hS => ?_)
        obtain ⟨hP1, hK1, hD1⟩ := hB
        rw [ht] at hP1
        have hK1 := va_K.moved hvm.symm hK1
        obtain ⟨hP, hD⟩ := va_join (wr := [(aO, .inl (kO, 16, .inl (nM Ob))), (aI, .inl (kI, 16, .inl (nM Ib))), (aT, .inr (0, [.int (nI 0), .int (nI 8), .int (nI tx), .int (nI nx)]))]) (w1 := [(aR, .inr (1, [.ref aM, .ref aO, .ref aI, .ref aT, .ref aE, .int ff])), (aM, .inl (kM, 384, .inl (nM (clM Mm 64 rx i mx)))), (aE, .inr (0, [.int (nI 64), .int (nI 16), .int (nI rx), .int (nI i)]))]) hP hD [0, 1, 5] [2, 3, 4] rfl rfl (by decide) (by decide) hk1 hFc hP1 hD1
        have hK := (hK.sub (tys' := [(kO, .int), (kI, .int)]) [1, 2] rfl).app hK1
        generalize H1 = H at hP hS ⊢
        have hP : va_P (dC, dI) vwCl [(aO, .inl (kO, 16, .inl (nM Ob))), (aI, .inl (kI, 16, .inl (nM Ib))), (aT, .inr (0, [.int (nI 0), .int (nI 8), .int (nI tx), .int (nI nx)])), (aR, .inr (1, [.ref aM, .ref aO, .ref aI, .ref aT, .ref aE, .int ff])), (aM, .inl (kM, 384, .inl (nM (clM Mm 64 rx i mx)))), (aE, .inr (0, [.int (nI 64), .int (nI 16), .int (nI rx), .int (nI i)]))] H := hP
        have hD : va_D A [(aO, .inl (kO, 16, .inl (nM Ob))), (aI, .inl (kI, 16, .inl (nM Ib))), (aT, .inr (0, [.int (nI 0), .int (nI 8), .int (nI tx), .int (nI nx)])), (aR, .inr (1, [.ref aM, .ref aO, .ref aI, .ref aT, .ref aE, .int ff])), (aM, .inl (kM, 384, .inl (nM (clM Mm 64 rx i mx)))), (aE, .inr (0, [.int (nI 64), .int (nI 16), .int (nI rx), .int (nI i)]))] := hD
        have hK : va_K (dC, dI) vwCl [(kO, .int), (kI, .int), (kM, .int)] s := hK
        obtain rfl : r_3 = nI (mx - i) := hw
        have hlead : lead (gbP Mm 64 rx) mx = i := lead_eq hi hall hst
        have hP9 := hP.sub (ws' := [(aR, .inr (1, [.ref aM, .ref aO, .ref aI, .ref aT, .ref aE, .int ff])), (aM, .inl (kM, 384, .inl (nM (clM Mm 64 rx i mx)))), (aO, .inl (kO, 16, .inl (nM Ob))), (aI, .inl (kI, 16, .inl (nM Ib))), (aT, .inr (0, [.int (nI 0), .int (nI 8), .int (nI tx), .int (nI nx)])), (aE, .inr (0, [.int (nI 64), .int (nI 16), .int (nI rx), .int (nI i)]))]) [3, 4, 0, 1, 2, 5] rfl
        have hD9 := hD.sub (ws' := [(aR, .inr (1, [.ref aM, .ref aO, .ref aI, .ref aT, .ref aE, .int ff])), (aM, .inl (kM, 384, .inl (nM (clM Mm 64 rx i mx)))), (aO, .inl (kO, 16, .inl (nM Ob))), (aI, .inl (kI, 16, .inl (nM Ib))), (aT, .inr (0, [.int (nI 0), .int (nI 8), .int (nI tx), .int (nI nx)])), (aE, .inr (0, [.int (nI 64), .int (nI 16), .int (nI rx), .int (nI i)]))]) [3, 4, 0, 1, 2, 5] (by decide) rfl
        have hK9 := hK.sub (tys' := [(kM, .int), (kO, .int), (kI, .int)]) [2, 0, 1] rfl
        have e_4 : (nM (clM Mm 64 rx i mx)) = nM (clM Mm 64 rx (lead (gbP Mm 64 rx) mx) mx) := by rw [hlead]
        have e_5 : (nI i : Int32) = nI (lead (gbP Mm 64 rx) mx) := by rw [hlead]
        have hP9 : va_P (dC, dI) vwCl [(aR, .inr (1, [.ref aM, .ref aO, .ref aI, .ref aT, .ref aE, .int ff])), (aM, .inl (kM, 384, .inl (nM (clM Mm 64 rx (lead (gbP Mm 64 rx) mx) mx)))), (aO, .inl (kO, 16, .inl (nM Ob))), (aI, .inl (kI, 16, .inl (nM Ib))), (aT, .inr (0, [.int (nI 0), .int (nI 8), .int (nI tx), .int (nI nx)])), (aE, .inr (0, [.int (nI 64), .int (nI 16), .int (nI rx), .int (nI i)]))] H := Eq.mp (congrArg (fun (z1 : Nat → Int32) => va_P (dC, dI) vwCl [(aR, .inr (1, [.ref aM, .ref aO, .ref aI, .ref aT, .ref aE, .int ff])), (aM, .inl (kM, 384, .inl z1)), (aO, .inl (kO, 16, .inl (nM Ob))), (aI, .inl (kI, 16, .inl (nM Ib))), (aT, .inr (0, [.int (nI 0), .int (nI 8), .int (nI tx), .int (nI nx)])), (aE, .inr (0, [.int (nI 64), .int (nI 16), .int (nI rx), .int (nI i)]))] H) e_4) hP9
        have hD9 : va_D A [(aR, .inr (1, [.ref aM, .ref aO, .ref aI, .ref aT, .ref aE, .int ff])), (aM, .inl (kM, 384, .inl (nM (clM Mm 64 rx (lead (gbP Mm 64 rx) mx) mx)))), (aO, .inl (kO, 16, .inl (nM Ob))), (aI, .inl (kI, 16, .inl (nM Ib))), (aT, .inr (0, [.int (nI 0), .int (nI 8), .int (nI tx), .int (nI nx)])), (aE, .inr (0, [.int (nI 64), .int (nI 16), .int (nI rx), .int (nI i)]))] := Eq.mp (congrArg (fun (z1 : Nat → Int32) => va_D A [(aR, .inr (1, [.ref aM, .ref aO, .ref aI, .ref aT, .ref aE, .int ff])), (aM, .inl (kM, 384, .inl z1)), (aO, .inl (kO, 16, .inl (nM Ob))), (aI, .inl (kI, 16, .inl (nM Ib))), (aT, .inr (0, [.int (nI 0), .int (nI 8), .int (nI tx), .int (nI nx)])), (aE, .inr (0, [.int (nI 64), .int (nI 16), .int (nI rx), .int (nI i)]))]) e_4) hD9
        have hP9 : va_P (dC, dI) vwCl [(aR, .inr (1, [.ref aM, .ref aO, .ref aI, .ref aT, .ref aE, .int ff])), (aM, .inl (kM, 384, .inl (nM (clM Mm 64 rx (lead (gbP Mm 64 rx) mx) mx)))), (aO, .inl (kO, 16, .inl (nM Ob))), (aI, .inl (kI, 16, .inl (nM Ib))), (aT, .inr (0, [.int (nI 0), .int (nI 8), .int (nI tx), .int (nI nx)])), (aE, .inr (0, [.int (nI 64), .int (nI 16), .int (nI rx), .int (nI (lead (gbP Mm 64 rx) mx))]))] H := Eq.mp (congrArg (fun (z1 : Int32) => va_P (dC, dI) vwCl [(aR, .inr (1, [.ref aM, .ref aO, .ref aI, .ref aT, .ref aE, .int ff])), (aM, .inl (kM, 384, .inl (nM (clM Mm 64 rx (lead (gbP Mm 64 rx) mx) mx)))), (aO, .inl (kO, 16, .inl (nM Ob))), (aI, .inl (kI, 16, .inl (nM Ib))), (aT, .inr (0, [.int (nI 0), .int (nI 8), .int (nI tx), .int (nI nx)])), (aE, .inr (0, [.int (nI 64), .int (nI 16), .int (nI rx), .int z1]))] H) e_5) hP9
        have hD9 : va_D A [(aR, .inr (1, [.ref aM, .ref aO, .ref aI, .ref aT, .ref aE, .int ff])), (aM, .inl (kM, 384, .inl (nM (clM Mm 64 rx (lead (gbP Mm 64 rx) mx) mx)))), (aO, .inl (kO, 16, .inl (nM Ob))), (aI, .inl (kI, 16, .inl (nM Ib))), (aT, .inr (0, [.int (nI 0), .int (nI 8), .int (nI tx), .int (nI nx)])), (aE, .inr (0, [.int (nI 64), .int (nI 16), .int (nI rx), .int (nI (lead (gbP Mm 64 rx) mx))]))] := Eq.mp (congrArg (fun (z1 : Int32) => va_D A [(aR, .inr (1, [.ref aM, .ref aO, .ref aI, .ref aT, .ref aE, .int ff])), (aM, .inl (kM, 384, .inl (nM (clM Mm 64 rx (lead (gbP Mm 64 rx) mx) mx)))), (aO, .inl (kO, 16, .inl (nM Ob))), (aI, .inl (kI, 16, .inl (nM Ib))), (aT, .inr (0, [.int (nI 0), .int (nI 8), .int (nI tx), .int (nI nx)])), (aE, .inr (0, [.int (nI 64), .int (nI 16), .int (nI rx), .int z1]))]) e_5) hD9
        subst eQ
        have e_6 : (nI (mx - i) : Int32) = nI (mx - lead (gbP Mm 64 rx) mx) := by rw [hlead]
        exact W.iret (v := nI (mx - i)) hx hb hr (fun t ht hW => ⟨⟨_, (), rfl, e_6, by rw [ht]; exact hP9, va_K.moved hW.alike hK9, hD9⟩, hS.F ht⟩) hS.2.2 dX1_withdraw_35
      · have c_2 : ¬ (8 ≤ i) := fun h9 => c_2 ((nI_leI (a := 8) (b := i) (by omega) (by omega)).mpr h9)
        refine lv_aload_n hx hb dX1_withdraw_8 rfl (lv_at hl 0 rfl) ?_
        refine lv_aload_n hx hb dX1_withdraw_9 rfl (lv_at hl 0 rfl) ?_
        refine va_get (D := (dC, dI)) (ci := 1) (v := .ref aE) (C := RX1) (T := TX1) (N := 6) hx hb hts hI1 hown hK hP 0 rfl rfl 4 (by decide) (hts (.fieldLink RX1 28 "RingDriver" "receiveQueue" "LRingDriver$SlotQueue;") (by decide +kernel)) (fun _ h9 => h9) rfl dX1_withdraw_10 ?_
        refine lv_iload_n hx hb dX1_withdraw_13 rfl (lv_at hl 1 rfl) ?_
        have hPc := hP.sub (ws' := [(aR, .inr (1, [.ref aM, .ref aO, .ref aI, .ref aT, .ref aE, .int ff])), (aM, .inl (kM, 384, .inl (nM Mm))), (aE, .inr (0, [.int (nI 64), .int (nI 16), .int (nI rx), .int (nI mx)]))]) [0, 1, 5] rfl
        have hDc := hD.sub (ws' := [(aR, .inr (1, [.ref aM, .ref aO, .ref aI, .ref aT, .ref aE, .int ff])), (aM, .inl (kM, 384, .inl (nM Mm))), (aE, .inr (0, [.int (nI 64), .int (nI 16), .int (nI rx), .int (nI mx)]))]) [0, 1, 5] (by decide) rfl
        have hKc := hK.sub (tys' := [(kM, .int)]) [0] rfl
        have hFc := va_free (wc := [(aR, .inr (1, [.ref aM, .ref aO, .ref aI, .ref aT, .ref aE, .int ff])), (aM, .inl (kM, 384, .inl (nM Mm))), (aE, .inr (0, [.int (nI 64), .int (nI 16), .int (nI rx), .int (nI mx)]))]) hD hS hA [0, 1, 5] rfl
        refine va_calli (va_runV (As := [.ref aE, .int (nI i)]) (rest := []) ⟨hx, hb, hml, hown, hts⟩ (c_X1_isGivenBack l dC dI aR aM aO aI aT aE ff kM Mm aE 64 16 rx mx i H.size (by omega) (by omega) (by omega) (by omega) hM) (cwV 2 hts gX1_withdraw_X1_isGivenBack rfl rfl rfl (by decide +kernel) ⟨Nat.le_of_ble_eq_true rfl, Nat.le_of_ble_eq_true rfl⟩) ⟨fun a U g mk q => by obtain ⟨q0, q1, qP, qK, qD⟩ := q; exact ⟨q0, q1, qP, va_K.moved (u := U) (U := U.calling g mk a) (Vm.Alike.refl U.vm) qK, qD⟩, va_recv hKc hPc (ci := 1) (q0 := 0) rfl rfl, fun U hU hW => ⟨rfl, by rw [hU], by rw [hU]; exact hPc, va_K.moved hW.alike hKc, hDc.weaken (fun _ _ _ _ => trivial)⟩⟩ rfl rfl hl.1 rfl (lv_room (Nat.le_of_ble_eq_true rfl)) dX1_withdraw_14 ⟨Nat.le_of_ble_eq_true rfl, Nat.le_of_ble_eq_true rfl⟩) hS (fun q _ h => hFc q h) hFc (fun r_7 u t H1 locs ht hvm hw hB hz1 hk1 hS => ?_)
        obtain ⟨hP1, hK1, hD1⟩ := hB
        rw [ht] at hP1
        have hK1 := va_K.moved hvm.symm hK1
        obtain ⟨hP, hD⟩ := va_join (wr := [(aO, .inl (kO, 16, .inl (nM Ob))), (aI, .inl (kI, 16, .inl (nM Ib))), (aT, .inr (0, [.int (nI 0), .int (nI 8), .int (nI tx), .int (nI nx)]))]) (w1 := [(aR, .inr (1, [.ref aM, .ref aO, .ref aI, .ref aT, .ref aE, .int ff])), (aM, .inl (kM, 384, .inl (nM Mm))), (aE, .inr (0, [.int (nI 64), .int (nI 16), .int (nI rx), .int (nI mx)]))]) hP hD [0, 1, 5] [2, 3, 4] rfl rfl (by decide) (by decide) hk1 hFc hP1 hD1
        have hK := (hK.sub (tys' := [(kO, .int), (kI, .int)]) [1, 2] rfl).app hK1
        generalize H1 = H at hP hS ⊢
        have hP : va_P (dC, dI) vwCl [(aO, .inl (kO, 16, .inl (nM Ob))), (aI, .inl (kI, 16, .inl (nM Ib))), (aT, .inr (0, [.int (nI 0), .int (nI 8), .int (nI tx), .int (nI nx)])), (aR, .inr (1, [.ref aM, .ref aO, .ref aI, .ref aT, .ref aE, .int ff])), (aM, .inl (kM, 384, .inl (nM Mm))), (aE, .inr (0, [.int (nI 64), .int (nI 16), .int (nI rx), .int (nI mx)]))] H := hP
        have hD : va_D A [(aO, .inl (kO, 16, .inl (nM Ob))), (aI, .inl (kI, 16, .inl (nM Ib))), (aT, .inr (0, [.int (nI 0), .int (nI 8), .int (nI tx), .int (nI nx)])), (aR, .inr (1, [.ref aM, .ref aO, .ref aI, .ref aT, .ref aE, .int ff])), (aM, .inl (kM, 384, .inl (nM Mm))), (aE, .inr (0, [.int (nI 64), .int (nI 16), .int (nI rx), .int (nI mx)]))] := hD
        have hK : va_K (dC, dI) vwCl [(kO, .int), (kI, .int), (kM, .int)] s := hK
        obtain rfl : r_7 = b01 (gvB Mm 64 rx mx i) := hw
        refine lv_if_eq (tgt := 26) hx hb dX1_withdraw_17 (by decide) (fun c_8 => ?_) (fun c_8 => ?_)
        · have c_8 := b01_e c_8
          have hst := gvB_e hi c_8
          refine lv_aload_n hx hb dX1_withdraw_26 rfl (lv_at hl 0 rfl) ?_
          refine lv_aload_n hx hb dX1_withdraw_27 rfl (lv_at hl 0 rfl) ?_
          refine va_get (D := (dC, dI)) (ci := 1) (v := .ref aE) (C := RX1) (T := TX1) (N := 6) hx hb hts hI1 hown hK hP 3 rfl rfl 4 (by decide) (hts (.fieldLink RX1 28 "RingDriver" "receiveQueue" "LRingDriver$SlotQueue;") (by decide +kernel)) (fun _ h9 => h9) rfl dX1_withdraw_28 ?_
          refine lv_iload_n hx hb dX1_withdraw_31 rfl (lv_at hl 1 rfl) ?_
          have hPc := hP.sub (ws' := [(aR, .inr (1, [.ref aM, .ref aO, .ref aI, .ref aT, .ref aE, .int ff])), (aM, .inl (kM, 384, .inl (nM Mm))), (aE, .inr (0, [.int (nI 64), .int (nI 16), .int (nI rx), .int (nI mx)]))]) [3, 4, 5] rfl
          have hDc := hD.sub (ws' := [(aR, .inr (1, [.ref aM, .ref aO, .ref aI, .ref aT, .ref aE, .int ff])), (aM, .inl (kM, 384, .inl (nM Mm))), (aE, .inr (0, [.int (nI 64), .int (nI 16), .int (nI rx), .int (nI mx)]))]) [3, 4, 5] (by decide) rfl
          have hKc := hK.sub (tys' := [(kM, .int)]) [2] rfl
          have hFc := va_free (wc := [(aR, .inr (1, [.ref aM, .ref aO, .ref aI, .ref aT, .ref aE, .int ff])), (aM, .inl (kM, 384, .inl (nM Mm))), (aE, .inr (0, [.int (nI 64), .int (nI 16), .int (nI rx), .int (nI mx)]))]) hD hS hA [3, 4, 5] rfl
          refine va_calli (va_runV (As := [.ref aE, .int (nI i)]) (rest := []) ⟨hx, hb, hml, hown, hts⟩ (c_X1_closeAllBehind l dC dI aR aM aO aI aT aE ff kM Mm aE 64 16 rx mx i H.size (by omega) (by omega) (by omega) (by omega)) (cwV 2 hts gX1_withdraw_X1_closeAllBehind rfl rfl rfl (by decide +kernel) ⟨Nat.le_of_ble_eq_true rfl, Nat.le_of_ble_eq_true rfl⟩) ⟨fun a U g mk q => by obtain ⟨q0, q1, qP, qK, qD⟩ := q; exact ⟨q0, q1, qP, va_K.moved (u := U) (U := U.calling g mk a) (Vm.Alike.refl U.vm) qK, qD⟩, va_recv hKc hPc (ci := 1) (q0 := 0) rfl rfl, fun U hU hW => ⟨rfl, by rw [hU], by rw [hU]; exact hPc, va_K.moved hW.alike hKc, hDc.weaken (fun _ _ _ _ => trivial)⟩⟩ rfl rfl hl.1 rfl (lv_room (Nat.le_of_ble_eq_true rfl)) dX1_withdraw_32 ⟨Nat.le_of_ble_eq_true rfl, Nat.le_of_ble_eq_true rfl⟩) hS (fun q _ h => hFc q h) hFc (fun r_9 u t H1 locs ht hvm hw hB hz1 hk1 hS => ?_)
          obtain ⟨hP1, hK1, hD1⟩ := hB
          rw [ht] at hP1
          have hK1 := va_K.moved hvm.symm hK1
          obtain ⟨hP, hD⟩ := va_join (wr := [(aO, .inl (kO, 16, .inl (nM Ob))), (aI, .inl (kI, 16, .inl (nM Ib))), (aT, .inr (0, [.int (nI 0), .int (nI 8), .int (nI tx), .int (nI nx)]))]) (w1 := [(aR, .inr (1, [.ref aM, .ref aO, .ref aI, .ref aT, .ref aE, .int ff])), (aM, .inl (kM, 384, .inl (nM (clM Mm 64 rx i mx)))), (aE, .inr (0, [.int (nI 64), .int (nI 16), .int (nI rx), .int (nI i)]))]) hP hD [3, 4, 5] [0, 1, 2] rfl rfl (by decide) (by decide) hk1 hFc hP1 hD1
          have hK := (hK.sub (tys' := [(kO, .int), (kI, .int)]) [0, 1] rfl).app hK1
          generalize H1 = H at hP hS ⊢
          have hP : va_P (dC, dI) vwCl [(aO, .inl (kO, 16, .inl (nM Ob))), (aI, .inl (kI, 16, .inl (nM Ib))), (aT, .inr (0, [.int (nI 0), .int (nI 8), .int (nI tx), .int (nI nx)])), (aR, .inr (1, [.ref aM, .ref aO, .ref aI, .ref aT, .ref aE, .int ff])), (aM, .inl (kM, 384, .inl (nM (clM Mm 64 rx i mx)))), (aE, .inr (0, [.int (nI 64), .int (nI 16), .int (nI rx), .int (nI i)]))] H := hP
          have hD : va_D A [(aO, .inl (kO, 16, .inl (nM Ob))), (aI, .inl (kI, 16, .inl (nM Ib))), (aT, .inr (0, [.int (nI 0), .int (nI 8), .int (nI tx), .int (nI nx)])), (aR, .inr (1, [.ref aM, .ref aO, .ref aI, .ref aT, .ref aE, .int ff])), (aM, .inl (kM, 384, .inl (nM (clM Mm 64 rx i mx)))), (aE, .inr (0, [.int (nI 64), .int (nI 16), .int (nI rx), .int (nI i)]))] := hD
          have hK : va_K (dC, dI) vwCl [(kO, .int), (kI, .int), (kM, .int)] s := hK
          obtain rfl : r_9 = nI (mx - i) := hw
          have hlead : lead (gbP Mm 64 rx) mx = i := lead_eq hi hall hst
          have hP9 := hP.sub (ws' := [(aR, .inr (1, [.ref aM, .ref aO, .ref aI, .ref aT, .ref aE, .int ff])), (aM, .inl (kM, 384, .inl (nM (clM Mm 64 rx i mx)))), (aO, .inl (kO, 16, .inl (nM Ob))), (aI, .inl (kI, 16, .inl (nM Ib))), (aT, .inr (0, [.int (nI 0), .int (nI 8), .int (nI tx), .int (nI nx)])), (aE, .inr (0, [.int (nI 64), .int (nI 16), .int (nI rx), .int (nI i)]))]) [3, 4, 0, 1, 2, 5] rfl
          have hD9 := hD.sub (ws' := [(aR, .inr (1, [.ref aM, .ref aO, .ref aI, .ref aT, .ref aE, .int ff])), (aM, .inl (kM, 384, .inl (nM (clM Mm 64 rx i mx)))), (aO, .inl (kO, 16, .inl (nM Ob))), (aI, .inl (kI, 16, .inl (nM Ib))), (aT, .inr (0, [.int (nI 0), .int (nI 8), .int (nI tx), .int (nI nx)])), (aE, .inr (0, [.int (nI 64), .int (nI 16), .int (nI rx), .int (nI i)]))]) [3, 4, 0, 1, 2, 5] (by decide) rfl
          have hK9 := hK.sub (tys' := [(kM, .int), (kO, .int), (kI, .int)]) [2, 0, 1] rfl
          have e_10 : (nM (clM Mm 64 rx i mx)) = nM (clM Mm 64 rx (lead (gbP Mm 64 rx) mx) mx) := by rw [hlead]
          have e_11 : (nI i : Int32) = nI (lead (gbP Mm 64 rx) mx) := by rw [hlead]
          have hP9 : va_P (dC, dI) vwCl [(aR, .inr (1, [.ref aM, .ref aO, .ref aI, .ref aT, .ref aE, .int ff])), (aM, .inl (kM, 384, .inl (nM (clM Mm 64 rx (lead (gbP Mm 64 rx) mx) mx)))), (aO, .inl (kO, 16, .inl (nM Ob))), (aI, .inl (kI, 16, .inl (nM Ib))), (aT, .inr (0, [.int (nI 0), .int (nI 8), .int (nI tx), .int (nI nx)])), (aE, .inr (0, [.int (nI 64), .int (nI 16), .int (nI rx), .int (nI i)]))] H := Eq.mp (congrArg (fun (z1 : Nat → Int32) => va_P (dC, dI) vwCl [(aR, .inr (1, [.ref aM, .ref aO, .ref aI, .ref aT, .ref aE, .int ff])), (aM, .inl (kM, 384, .inl z1)), (aO, .inl (kO, 16, .inl (nM Ob))), (aI, .inl (kI, 16, .inl (nM Ib))), (aT, .inr (0, [.int (nI 0), .int (nI 8), .int (nI tx), .int (nI nx)])), (aE, .inr (0, [.int (nI 64), .int (nI 16), .int (nI rx), .int (nI i)]))] H) e_10) hP9
          have hD9 : va_D A [(aR, .inr (1, [.ref aM, .ref aO, .ref aI, .ref aT, .ref aE, .int ff])), (aM, .inl (kM, 384, .inl (nM (clM Mm 64 rx (lead (gbP Mm 64 rx) mx) mx)))), (aO, .inl (kO, 16, .inl (nM Ob))), (aI, .inl (kI, 16, .inl (nM Ib))), (aT, .inr (0, [.int (nI 0), .int (nI 8), .int (nI tx), .int (nI nx)])), (aE, .inr (0, [.int (nI 64), .int (nI 16), .int (nI rx), .int (nI i)]))] := Eq.mp (congrArg (fun (z1 : Nat → Int32) => va_D A [(aR, .inr (1, [.ref aM, .ref aO, .ref aI, .ref aT, .ref aE, .int ff])), (aM, .inl (kM, 384, .inl z1)), (aO, .inl (kO, 16, .inl (nM Ob))), (aI, .inl (kI, 16, .inl (nM Ib))), (aT, .inr (0, [.int (nI 0), .int (nI 8), .int (nI tx), .int (nI nx)])), (aE, .inr (0, [.int (nI 64), .int (nI 16), .int (nI rx), .int (nI i)]))]) e_10) hD9
          have hP9 : va_P (dC, dI) vwCl [(aR, .inr (1, [.ref aM, .ref aO, .ref aI, .ref aT, .ref aE, .int ff])), (aM, .inl (kM, 384, .inl (nM (clM Mm 64 rx (lead (gbP Mm 64 rx) mx) mx)))), (aO, .inl (kO, 16, .inl (nM Ob))), (aI, .inl (kI, 16, .inl (nM Ib))), (aT, .inr (0, [.int (nI 0), .int (nI 8), .int (nI tx), .int (nI nx)])), (aE, .inr (0, [.int (nI 64), .int (nI 16), .int (nI rx), .int (nI (lead (gbP Mm 64 rx) mx))]))] H := Eq.mp (congrArg (fun (z1 : Int32) => va_P (dC, dI) vwCl [(aR, .inr (1, [.ref aM, .ref aO, .ref aI, .ref aT, .ref aE, .int ff])), (aM, .inl (kM, 384, .inl (nM (clM Mm 64 rx (lead (gbP Mm 64 rx) mx) mx)))), (aO, .inl (kO, 16, .inl (nM Ob))), (aI, .inl (kI, 16, .inl (nM Ib))), (aT, .inr (0, [.int (nI 0), .int (nI 8), .int (nI tx), .int (nI nx)])), (aE, .inr (0, [.int (nI 64), .int (nI 16), .int (nI rx), .int z1]))] H) e_11) hP9
          have hD9 : va_D A [(aR, .inr (1, [.ref aM, .ref aO, .ref aI, .ref aT, .ref aE, .int ff])), (aM, .inl (kM, 384, .inl (nM (clM Mm 64 rx (lead (gbP Mm 64 rx) mx) mx)))), (aO, .inl (kO, 16, .inl (nM Ob))), (aI, .inl (kI, 16, .inl (nM Ib))), (aT, .inr (0, [.int (nI 0), .int (nI 8), .int (nI tx), .int (nI nx)])), (aE, .inr (0, [.int (nI 64), .int (nI 16), .int (nI rx), .int (nI (lead (gbP Mm 64 rx) mx))]))] := Eq.mp (congrArg (fun (z1 : Int32) => va_D A [(aR, .inr (1, [.ref aM, .ref aO, .ref aI, .ref aT, .ref aE, .int ff])), (aM, .inl (kM, 384, .inl (nM (clM Mm 64 rx (lead (gbP Mm 64 rx) mx) mx)))), (aO, .inl (kO, 16, .inl (nM Ob))), (aI, .inl (kI, 16, .inl (nM Ib))), (aT, .inr (0, [.int (nI 0), .int (nI 8), .int (nI tx), .int (nI nx)])), (aE, .inr (0, [.int (nI 64), .int (nI 16), .int (nI rx), .int z1]))]) e_11) hD9
          subst eQ
          have e_12 : (nI (mx - i) : Int32) = nI (mx - lead (gbP Mm 64 rx) mx) := by rw [hlead]
          exact W.iret (v := nI (mx - i)) hx hb hr (fun t ht hW => ⟨⟨_, (), rfl, e_12, by rw [ht]; exact hP9, va_K.moved hW.alike hK9, hD9⟩, hS.F ht⟩) hS.2.2 dX1_withdraw_35
        · have c_8 := b01_n c_8
          have hg := gvB_i c_8
          have hg1 := hg.1
          refine lv_iinc (v := nI (i + 1)) (lv' := [(1, .int (nI (i + 1))), (0, .ref aR)]) hx hb dX1_withdraw_20 hl (k := 1) rfl (show nI i + Int32.ofInt 1 = nI (i + 1) from nI_1 i) (by decide) rfl (fun ls hl => ?_)
          refine lv_goto (tgt := 2) hx hb dX1_withdraw_23 (by decide) ?_
          have hP9 := hP.sub (ws' := [(aR, .inr (1, [.ref aM, .ref aO, .ref aI, .ref aT, .ref aE, .int ff])), (aM, .inl (kM, 384, .inl (nM Mm))), (aO, .inl (kO, 16, .inl (nM Ob))), (aI, .inl (kI, 16, .inl (nM Ib))), (aT, .inr (0, [.int (nI 0), .int (nI 8), .int (nI tx), .int (nI nx)])), (aE, .inr (0, [.int (nI 64), .int (nI 16), .int (nI rx), .int (nI mx)]))]) [3, 4, 0, 1, 2, 5] rfl
          have hD9 := hD.sub (ws' := [(aR, .inr (1, [.ref aM, .ref aO, .ref aI, .ref aT, .ref aE, .int ff])), (aM, .inl (kM, 384, .inl (nM Mm))), (aO, .inl (kO, 16, .inl (nM Ob))), (aI, .inl (kI, 16, .inl (nM Ib))), (aT, .inr (0, [.int (nI 0), .int (nI 8), .int (nI tx), .int (nI nx)])), (aE, .inr (0, [.int (nI 64), .int (nI 16), .int (nI rx), .int (nI mx)]))]) [3, 4, 0, 1, 2, 5] (by decide) rfl
          have hl9 : lv_has ls 2 [(0, .ref aR), (1, .int (nI (i + 1)))] := lv_sub hl [1, 0] rfl
          exact ih (i + 1) (by omega) (lt_s hall hg.2) (by omega) _ _ _ hP9 hD9 hS hl9
  have hP9 := hP.sub (ws' := [(aR, .inr (1, [.ref aM, .ref aO, .ref aI, .ref aT, .ref aE, .int ff])), (aM, .inl (kM, 384, .inl (nM Mm))), (aO, .inl (kO, 16, .inl (nM Ob))), (aI, .inl (kI, 16, .inl (nM Ib))), (aT, .inr (0, [.int (nI 0), .int (nI 8), .int (nI tx), .int (nI nx)])), (aE, .inr (0, [.int (nI 64), .int (nI 16), .int (nI rx), .int (nI mx)]))]) [0, 1, 2, 3, 4, 5] rfl
  have hD9 := hD.sub (ws' := [(aR, .inr (1, [.ref aM, .ref aO, .ref aI, .ref aT, .ref aE, .int ff])), (aM, .inl (kM, 384, .inl (nM Mm))), (aO, .inl (kO, 16, .inl (nM Ob))), (aI, .inl (kI, 16, .inl (nM Ib))), (aT, .inr (0, [.int (nI 0), .int (nI 8), .int (nI tx), .int (nI nx)])), (aE, .inr (0, [.int (nI 64), .int (nI 16), .int (nI rx), .int (nI mx)]))]) [0, 1, 2, 3, 4, 5] (by decide) rfl
  have hl9 : lv_has ls 2 [(0, .ref aR), (1, .int (nI 0))] := lv_sub hl [1, 0] rfl
  exact loop_1 (8 + 1) 0 (by omega) lt_0 (by omega) _ _ _ hP9 hD9 hS hl9
set_option maxHeartbeats 4000000 in
set_option maxRecDepth 100000 in
theorem c_X1_receive (l : Launch) (dC : Nat → ClassId) (dI : Nat → Nat → Nat) (aR : Nat) (aM : Nat) (aO : Nat) (aI : Nat) (aT : Nat) (aE : Nat) (kM : ClassId) (kO : ClassId) (kI : ClassId) (Mm : Nat → Nat) (Ob : Nat → Nat) (Ib : Nat → Nat) (tx : Nat) (nx : Nat) (rx : Nat) (mx : Nat) (ff : Int32) (sz : Nat) (htx : tx < 8) (hnx : nx ≤ 8) (hrx : rx < 8) (hmx : mx ≤ 8) (hM : ∀ j, Mm j < 256) : Met l yX1_receive wsX1_receive ({ frames := 3, cells := 0, slots := 0, locals := 64 }) (va_Pc [.ref aR] (fun U => U.heap.size = sz ∧ va_P (dC, dI) vwCl [(aR, .inr (1, [.ref aM, .ref aO, .ref aI, .ref aT, .ref aE, .int ff])), (aM, .inl (kM, 384, .inl (nM Mm))), (aO, .inl (kO, 16, .inl (nM Ob))), (aI, .inl (kI, 16, .inl (nM Ib))), (aT, .inr (0, [.int (nI 0), .int (nI 8), .int (nI tx), .int (nI nx)])), (aE, .inr (0, [.int (nI 64), .int (nI 16), .int (nI rx), .int (nI mx)]))] U.heap ∧ va_K (dC, dI) vwCl [(kM, .int), (kO, .int), (kI, .int)] U ∧ va_D (fun _ => True) [(aR, .inr (1, [.ref aM, .ref aO, .ref aI, .ref aT, .ref aE, .int ff])), (aM, .inl (kM, 384, .inl (nM Mm))), (aO, .inl (kO, 16, .inl (nM Ob))), (aI, .inl (kI, 16, .inl (nM Ib))), (aT, .inr (0, [.int (nI 0), .int (nI 8), .int (nI tx), .int (nI nx)])), (aE, .inr (0, [.int (nI 64), .int (nI 16), .int (nI rx), .int (nI mx)]))])) (va_Qi (fun (r9 : Int32) (_ : Unit) => r9 = sel (gvB Mm 64 rx mx 0) (sel (okL (Mm (64 + 8 * rx + 1))) (nI (Mm (64 + 8 * rx + 1))) (-3)) (-1)) (fun _ t => va_P (dC, dI) vwCl [(aR, .inr (1, [.ref aM, .ref aO, .ref aI, .ref aT, .ref aE, .int ff])), (aM, .inl (kM, 384, .inl (nM Mm))), (aO, .inl (kO, 16, .inl (nM Ob))), (aI, .inl (kI, 16, .inl (nM (selM (gvB Mm 64 rx mx 0 && okL (Mm (64 + 8 * rx + 1))) (cpI Ib Mm (16 * (16 + rx)) (Mm (64 + 8 * rx + 1))) Ib)))), (aT, .inr (0, [.int (nI 0), .int (nI 8), .int (nI tx), .int (nI nx)])), (aE, .inr (0, [.int (nI 64), .int (nI 16), .int (nI (selN (gvB Mm 64 rx mx 0) ((rx + 1) % 8) rx)), .int (nI (selN (gvB Mm 64 rx mx 0) (mx - 1) mx))]))] t.heap ∧ va_K (dC, dI) vwCl [(kM, .int), (kO, .int), (kI, .int)] t ∧ va_D (va_A [(aR, .inr (1, [.ref aM, .ref aO, .ref aI, .ref aT, .ref aE, .int ff])), (aM, .inl (kM, 384, .inl (nM Mm))), (aO, .inl (kO, 16, .inl (nM Ob))), (aI, .inl (kI, 16, .inl (nM Ib))), (aT, .inr (0, [.int (nI 0), .int (nI 8), .int (nI tx), .int (nI nx)])), (aE, .inr (0, [.int (nI 64), .int (nI 16), .int (nI rx), .int (nI mx)]))] sz) [(aR, .inr (1, [.ref aM, .ref aO, .ref aI, .ref aT, .ref aE, .int ff])), (aM, .inl (kM, 384, .inl (nM Mm))), (aO, .inl (kO, 16, .inl (nM Ob))), (aI, .inl (kI, 16, .inl (nM (selM (gvB Mm 64 rx mx 0 && okL (Mm (64 + 8 * rx + 1))) (cpI Ib Mm (16 * (16 + rx)) (Mm (64 + 8 * rx + 1))) Ib)))), (aT, .inr (0, [.int (nI 0), .int (nI 8), .int (nI tx), .int (nI nx)])), (aE, .inr (0, [.int (nI 64), .int (nI 16), .int (nI (selN (gvB Mm 64 rx mx 0) ((rx + 1) % 8) rx)), .int (nI (selN (gvB Mm 64 rx mx 0) (mx - 1) mx))]))]) (va_A [(aR, .inr (1, [.ref aM, .ref aO, .ref aI, .ref aT, .ref aE, .int ff])), (aM, .inl (kM, 384, .inl (nM Mm))), (aO, .inl (kO, 16, .inl (nM Ob))), (aI, .inl (kI, 16, .inl (nM Ib))), (aT, .inr (0, [.int (nI 0), .int (nI 8), .int (nI tx), .int (nI nx)])), (aE, .inr (0, [.int (nI 64), .int (nI 16), .int (nI rx), .int (nI mx)]))] sz)) 0 0 (va_A [(aR, .inr (1, [.ref aM, .ref aO, .ref aI, .ref aT, .ref aE, .int ff])), (aM, .inl (kM, 384, .inl (nM Mm))), (aO, .inl (kO, 16, .inl (nM Ob))), (aI, .inl (kI, 16, .inl (nM Ib))), (aT, .inr (0, [.int (nI 0), .int (nI 8), .int (nI tx), .int (nI nx)])), (aE, .inr (0, [.int (nI 64), .int (nI 16), .int (nI rx), .int (nI mx)]))] sz) := by
  refine Met.ofW (cc := cX1_receive) (maxL := 4) (ret := (some .int)) (by decide) rfl ?_
  intro p e s m args below meth c s₁ B hml hv
  obtain ⟨rfl, hsz, hP, hK, hD0⟩ := hv
  have hx := B.exec
  have hb := B.bytes
  have hr := B.returns
  have hts := atoms_spec (ws := wsX1_receive) B.pre
  have hown : s.vm.findClass RX1 = some m.cls := findClass_of_methodNamed B.named
  have hlocks := B.notSynchronized
  have hI1 : ∀ w ∈ u_ws RX1 TX1 6, w ∈ wsX1_receive := by decide +kernel
  subst hsz
  have hD := hD0.self (sz := s.heap.size)
  generalize hAe : va_A [(aR, .inr (1, [.ref aM, .ref aO, .ref aI, .ref aT, .ref aE, .int ff])), (aM, .inl (kM, 384, .inl (nM Mm))), (aO, .inl (kO, 16, .inl (nM Ob))), (aI, .inl (kI, 16, .inl (nM Ib))), (aT, .inr (0, [.int (nI 0), .int (nI 8), .int (nI tx), .int (nI nx)])), (aE, .inr (0, [.int (nI 64), .int (nI 16), .int (nI rx), .int (nI mx)]))] s.heap.size = A at hD ⊢
  have hA : ∀ q : Nat, s.heap.size ≤ q → A q := fun q h => by rw [← hAe]; exact Or.inr h
  have hS : va_S A s.heap s.heap [] := va_S.rf
  have hP : va_P (dC, dI) vwCl [(aR, .inr (1, [.ref aM, .ref aO, .ref aI, .ref aT, .ref aE, .int ff])), (aM, .inl (kM, 384, .inl (nM Mm))), (aO, .inl (kO, 16, .inl (nM Ob))), (aI, .inl (kI, 16, .inl (nM Ib))), (aT, .inr (0, [.int (nI 0), .int (nI 8), .int (nI tx), .int (nI nx)])), (aE, .inr (0, [.int (nI 64), .int (nI 16), .int (nI rx), .int (nI mx)]))] s.heap := hP
  have hl := lv_entry ([.ref aR]) (n := 4) (Nat.le_of_ble_eq_true rfl)
  rw [lg_entry_eq]
  generalize (lg_sl ([.ref aR]) ++ List.replicate (4 - (lg_sl ([.ref aR])).length) Slot.unset).toArray = ls at hl ⊢
  have hl : lv_has ls 4 [(0, .ref aR)] := hl
  refine W_gen (fun Q eQ => ?_)
  refine lv_aload_n hx hb dX1_receive_0 rfl (lv_at hl 0 rfl) ?_
  refine lv_aload_n hx hb dX1_receive_1 rfl (lv_at hl 0 rfl) ?_
  refine va_get (D := (dC, dI)) (ci := 1) (v := .ref aE) (C := RX1) (T := TX1) (N := 6) hx hb hts hI1 hown hK hP 0 rfl rfl 4 (by decide) (hts (.fieldLink RX1 28 "RingDriver" "receiveQueue" "LRingDriver$SlotQueue;") (by decide +kernel)) (fun _ h9 => h9) rfl dX1_receive_2 ?_
  refine lv_iconst (v := nI 0) hx hb dX1_receive_5 (by decide +kernel) ?_
  have hPc := hP.sub (ws' := [(aR, .inr (1, [.ref aM, .ref aO, .ref aI, .ref aT, .ref aE, .int ff])), (aM, .inl (kM, 384, .inl (nM Mm))), (aE, .inr (0, [.int (nI 64), .int (nI 16), .int (nI rx), .int (nI mx)]))]) [0, 1, 5] rfl
  have hDc := hD.sub (ws' := [(aR, .inr (1, [.ref aM, .ref aO, .ref aI, .ref aT, .ref aE, .int ff])), (aM, .inl (kM, 384, .inl (nM Mm))), (aE, .inr (0, [.int (nI 64), .int (nI 16), .int (nI rx), .int (nI mx)]))]) [0, 1, 5] (by decide) rfl
  have hKc := hK.sub (tys' := [(kM, .int)]) [0] rfl
  have hFc := va_free (wc := [(aR, .inr (1, [.ref aM, .ref aO, .ref aI, .ref aT, .ref aE, .int ff])), (aM, .inl (kM, 384, .inl (nM Mm))), (aE, .inr (0, [.int (nI 64), .int (nI 16), .int (nI rx), .int (nI mx)]))]) hD hS hA [0, 1, 5] rfl
  refine va_calli (va_runV (As := [.ref aE, .int (nI 0)]) (rest := []) ⟨hx, hb, hml, hown, hts⟩ (c_X1_isGivenBack l dC dI aR aM aO aI aT aE ff kM Mm aE 64 16 rx mx 0 s.heap.size (by omega) (by omega) (by omega) (by omega) hM) (cwV 2 hts gX1_receive_X1_isGivenBack rfl rfl rfl (by decide +kernel) ⟨Nat.le_of_ble_eq_true rfl, Nat.le_of_ble_eq_true rfl⟩) ⟨fun a U g mk q => by obtain ⟨q0, q1, qP, qK, qD⟩ := q; exact ⟨q0, q1, qP, va_K.moved (u := U) (U := U.calling g mk a) (Vm.Alike.refl U.vm) qK, qD⟩, va_recv hKc hPc (ci := 1) (q0 := 0) rfl rfl, fun U hU hW => ⟨rfl, by rw [hU], by rw [hU]; exact hPc, va_K.moved hW.alike hKc, hDc.weaken (fun _ _ _ _ => trivial)⟩⟩ rfl rfl hl.1 rfl (lv_room (Nat.le_of_ble_eq_true rfl)) dX1_receive_6 ⟨Nat.le_of_ble_eq_true rfl, Nat.le_of_ble_eq_true rfl⟩) hS (fun q _ h => hFc q h) hFc (fun r_1 u t H1 locs ht hvm hw hB hz1 hk1 hS => ?_)
  obtain ⟨hP1, hK1, hD1⟩ := hB
  rw [ht] at hP1
  have hK1 := va_K.moved hvm.symm hK1
  obtain ⟨hP, hD⟩ := va_join (wr := [(aO, .inl (kO, 16, .inl (nM Ob))), (aI, .inl (kI, 16, .inl (nM Ib))), (aT, .inr (0, [.int (nI 0), .int (nI 8), .int (nI tx), .int (nI nx)]))]) (w1 := [(aR, .inr (1, [.ref aM, .ref aO, .ref aI, .ref aT, .ref aE, .int ff])), (aM, .inl (kM, 384, .inl (nM Mm))), (aE, .inr (0, [.int (nI 64), .int (nI 16), .int (nI rx), .int (nI mx)]))]) hP hD [0, 1, 5] [2, 3, 4] rfl rfl (by decide) (by decide) hk1 hFc hP1 hD1
  have hK := (hK.sub (tys' := [(kO, .int), (kI, .int)]) [1, 2] rfl).app hK1
  generalize H1 = H at hP hS ⊢
  have hP : va_P (dC, dI) vwCl [(aO, .inl (kO, 16, .inl (nM Ob))), (aI, .inl (kI, 16, .inl (nM Ib))), (aT, .inr (0, [.int (nI 0), .int (nI 8), .int (nI tx), .int (nI nx)])), (aR, .inr (1, [.ref aM, .ref aO, .ref aI, .ref aT, .ref aE, .int ff])), (aM, .inl (kM, 384, .inl (nM Mm))), (aE, .inr (0, [.int (nI 64), .int (nI 16), .int (nI rx), .int (nI mx)]))] H := hP
  have hD : va_D A [(aO, .inl (kO, 16, .inl (nM Ob))), (aI, .inl (kI, 16, .inl (nM Ib))), (aT, .inr (0, [.int (nI 0), .int (nI 8), .int (nI tx), .int (nI nx)])), (aR, .inr (1, [.ref aM, .ref aO, .ref aI, .ref aT, .ref aE, .int ff])), (aM, .inl (kM, 384, .inl (nM Mm))), (aE, .inr (0, [.int (nI 64), .int (nI 16), .int (nI rx), .int (nI mx)]))] := hD
  have hK : va_K (dC, dI) vwCl [(kO, .int), (kI, .int), (kM, .int)] s := hK
  obtain rfl : r_1 = b01 (gvB Mm 64 rx mx 0) := hw
  refine lv_if_ne (tgt := 14) hx hb dX1_receive_9 (by decide) (fun c_2 => ?_) (fun c_2 => ?_)
  · have c_2 := b01_n c_2
    have hg := c_2
    have hg1 := gvB_i c_2
    have hg0 := hg1.1
    refine lv_aload_n hx hb dX1_receive_14 rfl (lv_at hl 0 rfl) ?_
    refine va_get (D := (dC, dI)) (ci := 1) (v := .ref aM) (C := RX1) (T := TX1) (N := 6) hx hb hts hI1 hown hK hP 3 rfl rfl 0 (by decide) (hts (.fieldLink RX1 9 "RingDriver" "memory" "[I") (by decide +kernel)) (fun _ h9 => h9) rfl dX1_receive_15 ?_
    refine lv_aload_n hx hb dX1_receive_18 rfl (lv_at hl 0 rfl) ?_
    refine va_get (D := (dC, dI)) (ci := 1) (v := .ref aE) (C := RX1) (T := TX1) (N := 6) hx hb hts hI1 hown hK hP 3 rfl rfl 4 (by decide) (hts (.fieldLink RX1 28 "RingDriver" "receiveQueue" "LRingDriver$SlotQueue;") (by decide +kernel)) (fun _ h9 => h9) rfl dX1_receive_19 ?_
    refine lv_iconst (v := nI 0) hx hb dX1_receive_22 (by decide +kernel) ?_
    have hPc := hP.sub (ws' := [(aE, .inr (0, [.int (nI 64), .int (nI 16), .int (nI rx), .int (nI mx)]))]) [5] rfl
    have hDc := hD.sub (ws' := [(aE, .inr (0, [.int (nI 64), .int (nI 16), .int (nI rx), .int (nI mx)]))]) [5] (by decide) rfl
    have hKc := hK.sub (tys' := []) [] rfl
    have hFc := va_free (wc := [(aE, .inr (0, [.int (nI 64), .int (nI 16), .int (nI rx), .int (nI mx)]))]) hD hS hA [5] rfl
    refine va_calli (va_runV (As := [.int (nI 0)]) (rest := [.ref aM]) ⟨hx, hb, hml, hown, hts⟩ (c_X0_descriptorAt l dC dI aE 64 16 rx mx 0 H.size (by omega) (by omega) (by omega)) (cwV 1 hts gX1_receive_X0_descriptorAt rfl rfl rfl (by decide +kernel) ⟨Nat.le_of_ble_eq_true rfl, Nat.le_of_ble_eq_true rfl⟩) ⟨fun a U g mk q => by obtain ⟨q0, q1, qP, qK, qD⟩ := q; exact ⟨q0, q1, qP, va_K.moved (u := U) (U := U.calling g mk a) (Vm.Alike.refl U.vm) qK, qD⟩, va_recv hKc hPc (ci := 0) (q0 := 0) rfl rfl, fun U hU hW => ⟨rfl, by rw [hU], by rw [hU]; exact hPc, va_K.moved hW.alike hKc, hDc.weaken (fun _ _ _ _ => trivial)⟩⟩ rfl rfl hl.1 rfl (lv_room (Nat.le_of_ble_eq_true rfl)) dX1_receive_23 ⟨Nat.le_of_ble_eq_true rfl, Nat.le_of_ble_eq_true rfl⟩) hS (fun q _ h => hFc q h) hFc (fun r_3 u t H1 locs ht hvm hw hB hz1 hk1 hS => ?_)
    obtain ⟨hP1, hK1, hD1⟩ := hB
    rw [ht] at hP1
    have hK1 := va_K.moved hvm.symm hK1
    obtain ⟨hP, hD⟩ := va_join (wr := [(aO, .inl (kO, 16, .inl (nM Ob))), (aI, .inl (kI, 16, .inl (nM Ib))), (aT, .inr (0, [.int (nI 0), .int (nI 8), .int (nI tx), .int (nI nx)])), (aR, .inr (1, [.ref aM, .ref aO, .ref aI, .ref aT, .ref aE, .int ff])), (aM, .inl (kM, 384, .inl (nM Mm)))]) (w1 := [(aE, .inr (0, [.int (nI 64), .int (nI 16), .int (nI rx), .int (nI mx)]))]) hP hD [5] [0, 1, 2, 3, 4] rfl rfl (by decide) (by decide) hk1 hFc hP1 hD1
    have hK := (hK.sub (tys' := [(kO, .int), (kI, .int), (kM, .int)]) [0, 1, 2] rfl).app hK1
    generalize H1 = H at hP hS ⊢
    have hP : va_P (dC, dI) vwCl [(aO, .inl (kO, 16, .inl (nM Ob))), (aI, .inl (kI, 16, .inl (nM Ib))), (aT, .inr (0, [.int (nI 0), .int (nI 8), .int (nI tx), .int (nI nx)])), (aR, .inr (1, [.ref aM, .ref aO, .ref aI, .ref aT, .ref aE, .int ff])), (aM, .inl (kM, 384, .inl (nM Mm))), (aE, .inr (0, [.int (nI 64), .int (nI 16), .int (nI rx), .int (nI mx)]))] H := hP
    have hD : va_D A [(aO, .inl (kO, 16, .inl (nM Ob))), (aI, .inl (kI, 16, .inl (nM Ib))), (aT, .inr (0, [.int (nI 0), .int (nI 8), .int (nI tx), .int (nI nx)])), (aR, .inr (1, [.ref aM, .ref aO, .ref aI, .ref aT, .ref aE, .int ff])), (aM, .inl (kM, 384, .inl (nM Mm))), (aE, .inr (0, [.int (nI 64), .int (nI 16), .int (nI rx), .int (nI mx)]))] := hD
    have hK : va_K (dC, dI) vwCl [(kO, .int), (kI, .int), (kM, .int)] s := hK
    obtain rfl : r_3 = nI (64 + 8 * ((rx + 0) % 8)) := hw
    refine lv_iconst (v := nI 1) hx hb dX1_receive_26 (by decide +kernel) ?_
    refine lv_iadd hx hb dX1_receive_27 ?_
    refine lv_topi (fun y_4 ey_4 => ?_)
    obtain rfl := ey_4.trans (nI_add (64 + 8 * ((rx + 0) % 8)) 1)
    obtain ⟨cc, hcc⟩ : ∃ z, z = Mm (64 + 8 * ((rx + 0) % 8) + 1) := ⟨_, rfl⟩
    have hc0 : cc = Mm (64 + 8 * rx + 1) := by rw [hcc, r0 hrx]
    have hc1 : cc < 256 := by rw [hcc]; exact hM _
    refine va_iald hx hb hK hP 4 2 rfl rfl (vp_in_nI (n := 64 + 8 * ((rx + 0) % 8) + 1) (N := 384) (by omega) (by decide)) dX1_receive_28 ?_
    have h9 : 64 + 8 * ((rx + 0) % 8) + 1 < 2 ^ 31 := Nat.lt_trans (m := 384) (by omega) (by decide)
    refine lv_topi (fun y_5 ey_5 => ?_)
    obtain rfl : y_5 = nI cc := ey_5.trans ((rdA (nM Mm) h9).trans (congrArg nI hcc.symm))
    refine lv_istore_n (lv' := [(1, .int (nI cc)), (0, .ref aR)]) hx hb dX1_receive_29 rfl hl (by decide) rfl (fun ls hl => ?_)
    refine lv_aload_n hx hb dX1_receive_30 rfl (lv_at hl 1 rfl) ?_
    refine va_get (D := (dC, dI)) (ci := 1) (v := .ref aE) (C := RX1) (T := TX1) (N := 6) hx hb hts hI1 hown hK hP 3 rfl rfl 4 (by decide) (hts (.fieldLink RX1 28 "RingDriver" "receiveQueue" "LRingDriver$SlotQueue;") (by decide +kernel)) (fun _ h9 => h9) rfl dX1_receive_31 ?_
    refine lv_iconst (v := nI 0) hx hb dX1_receive_34 (by decide +kernel) ?_
    have hPc := hP.sub (ws' := [(aE, .inr (0, [.int (nI 64), .int (nI 16), .int (nI rx), .int (nI mx)]))]) [5] rfl
    have hDc := hD.sub (ws' := [(aE, .inr (0, [.int (nI 64), .int (nI 16), .int (nI rx), .int (nI mx)]))]) [5] (by decide) rfl
    have hKc := hK.sub (tys' := []) [] rfl
    have hFc := va_free (wc := [(aE, .inr (0, [.int (nI 64), .int (nI 16), .int (nI rx), .int (nI mx)]))]) hD hS hA [5] rfl
    refine va_calli (va_runV (As := [.int (nI 0)]) (rest := []) ⟨hx, hb, hml, hown, hts⟩ (c_X0_bufferAt l dC dI aE 64 16 rx mx 0 H.size (by omega) (by omega) (by omega)) (cwV 1 hts gX1_receive_X0_bufferAt rfl rfl rfl (by decide +kernel) ⟨Nat.le_of_ble_eq_true rfl, Nat.le_of_ble_eq_true rfl⟩) ⟨fun a U g mk q => by obtain ⟨q0, q1, qP, qK, qD⟩ := q; exact ⟨q0, q1, qP, va_K.moved (u := U) (U := U.calling g mk a) (Vm.Alike.refl U.vm) qK, qD⟩, va_recv hKc hPc (ci := 0) (q0 := 0) rfl rfl, fun U hU hW => ⟨rfl, by rw [hU], by rw [hU]; exact hPc, va_K.moved hW.alike hKc, hDc.weaken (fun _ _ _ _ => trivial)⟩⟩ rfl rfl hl.1 rfl (lv_room (Nat.le_of_ble_eq_true rfl)) dX1_receive_35 ⟨Nat.le_of_ble_eq_true rfl, Nat.le_of_ble_eq_true rfl⟩) hS (fun q _ h => hFc q h) hFc (fun r_6 u t H1 locs ht hvm hw hB hz1 hk1 hS => ?_)
    obtain ⟨hP1, hK1, hD1⟩ := hB
    rw [ht] at hP1
    have hK1 := va_K.moved hvm.symm hK1
    obtain ⟨hP, hD⟩ := va_join (wr := [(aO, .inl (kO, 16, .inl (nM Ob))), (aI, .inl (kI, 16, .inl (nM Ib))), (aT, .inr (0, [.int (nI 0), .int (nI 8), .int (nI tx), .int (nI nx)])), (aR, .inr (1, [.ref aM, .ref aO, .ref aI, .ref aT, .ref aE, .int ff])), (aM, .inl (kM, 384, .inl (nM Mm)))]) (w1 := [(aE, .inr (0, [.int (nI 64), .int (nI 16), .int (nI rx), .int (nI mx)]))]) hP hD [5] [0, 1, 2, 3, 4] rfl rfl (by decide) (by decide) hk1 hFc hP1 hD1
    have hK := (hK.sub (tys' := [(kO, .int), (kI, .int), (kM, .int)]) [0, 1, 2] rfl).app hK1
    generalize H1 = H at hP hS ⊢
    have hP : va_P (dC, dI) vwCl [(aO, .inl (kO, 16, .inl (nM Ob))), (aI, .inl (kI, 16, .inl (nM Ib))), (aT, .inr (0, [.int (nI 0), .int (nI 8), .int (nI tx), .int (nI nx)])), (aR, .inr (1, [.ref aM, .ref aO, .ref aI, .ref aT, .ref aE, .int ff])), (aM, .inl (kM, 384, .inl (nM Mm))), (aE, .inr (0, [.int (nI 64), .int (nI 16), .int (nI rx), .int (nI mx)]))] H := hP
    have hD : va_D A [(aO, .inl (kO, 16, .inl (nM Ob))), (aI, .inl (kI, 16, .inl (nM Ib))), (aT, .inr (0, [.int (nI 0), .int (nI 8), .int (nI tx), .int (nI nx)])), (aR, .inr (1, [.ref aM, .ref aO, .ref aI, .ref aT, .ref aE, .int ff])), (aM, .inl (kM, 384, .inl (nM Mm))), (aE, .inr (0, [.int (nI 64), .int (nI 16), .int (nI rx), .int (nI mx)]))] := hD
    have hK : va_K (dC, dI) vwCl [(kO, .int), (kI, .int), (kM, .int)] s := hK
    obtain rfl : r_6 = nI (16 * (16 + (rx + 0) % 8)) := hw
    refine lv_istore_n (lv' := [(2, .int (nI (16 * (16 + (rx + 0) % 8)))), (1, .int (nI cc)), (0, .ref aR)]) hx hb dX1_receive_38 rfl hl (by decide) rfl (fun ls hl => ?_)
    refine lv_aload_n hx hb dX1_receive_39 rfl (lv_at hl 2 rfl) ?_
    refine va_get (D := (dC, dI)) (ci := 1) (v := .ref aE) (C := RX1) (T := TX1) (N := 6) hx hb hts hI1 hown hK hP 3 rfl rfl 4 (by decide) (hts (.fieldLink RX1 28 "RingDriver" "receiveQueue" "LRingDriver$SlotQueue;") (by decide +kernel)) (fun _ h9 => h9) rfl dX1_receive_40 ?_
    have hPc := hP.sub (ws' := [(aE, .inr (0, [.int (nI 64), .int (nI 16), .int (nI rx), .int (nI mx)]))]) [5] rfl
    have hDc := hD.sub (ws' := [(aE, .inr (0, [.int (nI 64), .int (nI 16), .int (nI rx), .int (nI mx)]))]) [5] (by decide) rfl
    have hKc := hK.sub (tys' := []) [] rfl
    have hFc := va_free (wc := [(aE, .inr (0, [.int (nI 64), .int (nI 16), .int (nI rx), .int (nI mx)]))]) hD hS hA [5] rfl
    refine va_callv (va_runV (As := []) (rest := []) ⟨hx, hb, hml, hown, hts⟩ (c_X0_removeOldest l dC dI aE 64 16 rx mx H.size (by omega) (by omega) (by omega)) (cwV 0 hts gX1_receive_X0_removeOldest rfl rfl rfl (by decide +kernel) ⟨Nat.le_of_ble_eq_true rfl, Nat.le_of_ble_eq_true rfl⟩) ⟨fun a U g mk q => by obtain ⟨q0, q1, qP, qK, qD⟩ := q; exact ⟨q0, q1, qP, va_K.moved (u := U) (U := U.calling g mk a) (Vm.Alike.refl U.vm) qK, qD⟩, va_recv hKc hPc (ci := 0) (q0 := 0) rfl rfl, fun U hU hW => ⟨rfl, by rw [hU], by rw [hU]; exact hPc, va_K.moved hW.alike hKc, hDc.weaken (fun _ _ _ _ => trivial)⟩⟩ rfl rfl hl.1 rfl (lv_room (Nat.le_of_ble_eq_true rfl)) dX1_receive_43 ⟨Nat.le_of_ble_eq_true rfl, Nat.le_of_ble_eq_true rfl⟩) hS (fun q _ h => hFc q h) hFc (fun u t H1 locs ht hvm hw hB hz1 hk1 hS => ?_)
    obtain ⟨hP1, hK1, hD1⟩ := hB
    rw [ht] at hP1
    have hK1 := va_K.moved hvm.symm hK1
    obtain ⟨hP, hD⟩ := va_join (wr := [(aO, .inl (kO, 16, .inl (nM Ob))), (aI, .inl (kI, 16, .inl (nM Ib))), (aT, .inr (0, [.int (nI 0), .int (nI 8), .int (nI tx), .int (nI nx)])), (aR, .inr (1, [.ref aM, .ref aO, .ref aI, .ref aT, .ref aE, .int ff])), (aM, .inl (kM, 384, .inl (nM Mm)))]) (w1 := [(aE, .inr (0, [.int (nI 64), .int (nI 16), .int (nI ((rx + 1) % 8)), .int (nI (mx - 1))]))]) hP hD [5] [0, 1, 2, 3, 4] rfl rfl (by decide) (by decide) hk1 hFc hP1 hD1
    have hK := (hK.sub (tys' := [(kO, .int), (kI, .int), (kM, .int)]) [0, 1, 2] rfl).app hK1
    generalize H1 = H at hP hS ⊢
    have hP : va_P (dC, dI) vwCl [(aO, .inl (kO, 16, .inl (nM Ob))), (aI, .inl (kI, 16, .inl (nM Ib))), (aT, .inr (0, [.int (nI 0), .int (nI 8), .int (nI tx), .int (nI nx)])), (aR, .inr (1, [.ref aM, .ref aO, .ref aI, .ref aT, .ref aE, .int ff])), (aM, .inl (kM, 384, .inl (nM Mm))), (aE, .inr (0, [.int (nI 64), .int (nI 16), .int (nI ((rx + 1) % 8)), .int (nI (mx - 1))]))] H := hP
    have hD : va_D A [(aO, .inl (kO, 16, .inl (nM Ob))), (aI, .inl (kI, 16, .inl (nM Ib))), (aT, .inr (0, [.int (nI 0), .int (nI 8), .int (nI tx), .int (nI nx)])), (aR, .inr (1, [.ref aM, .ref aO, .ref aI, .ref aT, .ref aE, .int ff])), (aM, .inl (kM, 384, .inl (nM Mm))), (aE, .inr (0, [.int (nI 64), .int (nI 16), .int (nI ((rx + 1) % 8)), .int (nI (mx - 1))]))] := hD
    have hK : va_K (dC, dI) vwCl [(kO, .int), (kI, .int), (kM, .int)] s := hK
    refine lv_iload_n hx hb dX1_receive_46 rfl (lv_at hl 1 rfl) ?_
    have hPc := hP.sub (ws' := []) [] rfl
    have hDc := hD.sub (ws' := []) [] (by decide) rfl
    have hKc := hK.sub (tys' := []) [] rfl
    have hFc := va_free (wc := []) hD hS hA [] rfl
    refine va_calli (va_runS (As := [.int (nI cc)]) (rest := []) ⟨hx, hb, hml, hown, hts⟩ (c_X1_isFrameLength l dC dI (nI cc) (selN (decide (1 ≤ cc ∧ cc ≤ 16)) cc 0) H.size (LX_nI hc1)) (va_cwS 1 hts gX1_receive_X1_isFrameLength rfl rfl rfl (by decide +kernel) ⟨Nat.le_of_ble_eq_true rfl, Nat.le_of_ble_eq_true rfl⟩) ⟨fun a U g mk q => by obtain ⟨q0, q1, qP, qK, qD⟩ := q; exact ⟨q0, q1, qP, va_K.moved (u := U) (U := U.calling g mk a) (Vm.Alike.refl U.vm) qK, qD⟩, fun U hU hW => ⟨rfl, by rw [hU], by rw [hU]; exact hPc, va_K.moved hW.alike hKc, hDc.weaken (fun _ _ _ _ => trivial)⟩⟩ rfl rfl hl.1 rfl (lv_room (Nat.le_of_ble_eq_true rfl)) dX1_receive_47 ⟨Nat.le_of_ble_eq_true rfl, Nat.le_of_ble_eq_true rfl⟩) hS (fun q _ h => hFc q h) hFc (fun r_8 u t H1 locs ht hvm hw hB hz1 hk1 hS => ?_)
    obtain ⟨hP1, hK1, hD1⟩ := hB
    rw [ht] at hP1
    have hK1 := va_K.moved hvm.symm hK1
    obtain ⟨hP, hD⟩ := va_join (wr := [(aO, .inl (kO, 16, .inl (nM Ob))), (aI, .inl (kI, 16, .inl (nM Ib))), (aT, .inr (0, [.int (nI 0), .int (nI 8), .int (nI tx), .int (nI nx)])), (aR, .inr (1, [.ref aM, .ref aO, .ref aI, .ref aT, .ref aE, .int ff])), (aM, .inl (kM, 384, .inl (nM Mm))), (aE, .inr (0, [.int (nI 64), .int (nI 16), .int (nI ((rx + 1) % 8)), .int (nI (mx - 1))]))]) (w1 := []) hP hD [] [0, 1, 2, 3, 4, 5] rfl rfl (by decide) (by decide) hk1 hFc hP1 hD1
    have hK := (hK.sub (tys' := [(kO, .int), (kI, .int), (kM, .int)]) [0, 1, 2] rfl).app hK1
    generalize H1 = H at hP hS ⊢
    have hP : va_P (dC, dI) vwCl [(aO, .inl (kO, 16, .inl (nM Ob))), (aI, .inl (kI, 16, .inl (nM Ib))), (aT, .inr (0, [.int (nI 0), .int (nI 8), .int (nI tx), .int (nI nx)])), (aR, .inr (1, [.ref aM, .ref aO, .ref aI, .ref aT, .ref aE, .int ff])), (aM, .inl (kM, 384, .inl (nM Mm))), (aE, .inr (0, [.int (nI 64), .int (nI 16), .int (nI ((rx + 1) % 8)), .int (nI (mx - 1))]))] H := hP
    have hD : va_D A [(aO, .inl (kO, 16, .inl (nM Ob))), (aI, .inl (kI, 16, .inl (nM Ib))), (aT, .inr (0, [.int (nI 0), .int (nI 8), .int (nI tx), .int (nI nx)])), (aR, .inr (1, [.ref aM, .ref aO, .ref aI, .ref aT, .ref aE, .int ff])), (aM, .inl (kM, 384, .inl (nM Mm))), (aE, .inr (0, [.int (nI 64), .int (nI 16), .int (nI ((rx + 1) % 8)), .int (nI (mx - 1))]))] := hD
    have hK : va_K (dC, dI) vwCl [(kO, .int), (kI, .int), (kM, .int)] s := hK
    obtain rfl : r_8 = b01 (decide (0 < selN (decide (1 ≤ cc ∧ cc ≤ 16)) cc 0)) := hw
    refine lv_if_ne (tgt := 56) hx hb dX1_receive_50 (by decide) (fun c_9 => ?_) (fun c_9 => ?_)
    · have c_9 := b01_n c_9
      have hcl : okL cc = true := okL_s.symm.trans c_9
      have hc9 : 1 ≤ cc ∧ cc ≤ 16 := of_decide_eq_true hcl
      refine lv_iconst (v := nI 0) hx hb dX1_receive_56 (by decide +kernel) ?_
      refine lv_istore_n (lv' := [(3, .int (nI 0)), (2, .int (nI (16 * (16 + (rx + 0) % 8)))), (1, .int (nI cc)), (0, .ref aR)]) hx hb dX1_receive_57 rfl hl (by decide) rfl (fun ls hl => ?_)
      have loop_10 : ∀ (fuel : Nat) (i : Nat), (i ≤ cc) → cc - i < fuel → ∀ (H : Heap) (locs : List Loc) (ls : Array Slot), va_P (dC, dI) vwCl [(aR, .inr (1, [.ref aM, .ref aO, .ref aI, .ref aT, .ref aE, .int ff])), (aM, .inl (kM, 384, .inl (nM Mm))), (aO, .inl (kO, 16, .inl (nM Ob))), (aI, .inl (kI, 16, .inl (nM (cpI Ib Mm (16 * (16 + (rx + 0) % 8)) i)))), (aT, .inr (0, [.int (nI 0), .int (nI 8), .int (nI tx), .int (nI nx)])), (aE, .inr (0, [.int (nI 64), .int (nI 16), .int (nI ((rx + 1) % 8)), .int (nI (mx - 1))]))] H → va_D A [(aR, .inr (1, [.ref aM, .ref aO, .ref aI, .ref aT, .ref aE, .int ff])), (aM, .inl (kM, 384, .inl (nM Mm))), (aO, .inl (kO, 16, .inl (nM Ob))), (aI, .inl (kI, 16, .inl (nM (cpI Ib Mm (16 * (16 + (rx + 0) % 8)) i)))), (aT, .inr (0, [.int (nI 0), .int (nI 8), .int (nI tx), .int (nI nx)])), (aE, .inr (0, [.int (nI 64), .int (nI 16), .int (nI ((rx + 1) % 8)), .int (nI (mx - 1))]))] → va_S A s.heap H locs → lv_has ls 4 [(0, .ref aR), (1, .int (nI cc)), (2, .int (nI (16 * (16 + (rx + 0) % 8)))), (3, .int (nI i))] → W p l e (headSpec wsX1_receive ({ frames := 3, cells := 0, slots := 0, locals := 64 })).room s m ([.ref aR] : List Value).toArray below meth c H locs 0 0 Q (F0 m 58 ls []) := by
        intro fuel
        induction fuel with
        | zero =>
          intro i hi hfu
          exact absurd hfu (Nat.not_lt_zero _)
        | succ fuel ih =>
          intro i hi hfu H locs ls hP hD hS hl
          refine lv_iload_n hx hb dX1_receive_58 rfl (lv_at hl 3 rfl) ?_
          refine lv_iload_n hx hb dX1_receive_59 rfl (lv_at hl 1 rfl) ?_
          refine lv_icmp_ge (tgt := 83) hx hb dX1_receive_60 (by decide) (fun c_11 => ?_) (fun c_11 => ?_)
          · have c_11 : cc ≤ i := (nI_leI (a := cc) (b := i) (by omega) (by omega)).mp c_11
            refine lv_iload_n hx hb dX1_receive_83 rfl (lv_at hl 1 rfl) ?_
            have hP9 := hP.sub (ws' := [(aR, .inr (1, [.ref aM, .ref aO, .ref aI, .ref aT, .ref aE, .int ff])), (aM, .inl (kM, 384, .inl (nM Mm))), (aO, .inl (kO, 16, .inl (nM Ob))), (aI, .inl (kI, 16, .inl (nM (cpI Ib Mm (16 * (16 + (rx + 0) % 8)) i)))), (aT, .inr (0, [.int (nI 0), .int (nI 8), .int (nI tx), .int (nI nx)])), (aE, .inr (0, [.int (nI 64), .int (nI 16), .int (nI ((rx + 1) % 8)), .int (nI (mx - 1))]))]) [0, 1, 2, 3, 4, 5] rfl
            have hD9 := hD.sub (ws' := [(aR, .inr (1, [.ref aM, .ref aO, .ref aI, .ref aT, .ref aE, .int ff])), (aM, .inl (kM, 384, .inl (nM Mm))), (aO, .inl (kO, 16, .inl (nM Ob))), (aI, .inl (kI, 16, .inl (nM (cpI Ib Mm (16 * (16 + (rx + 0) % 8)) i)))), (aT, .inr (0, [.int (nI 0), .int (nI 8), .int (nI tx), .int (nI nx)])), (aE, .inr (0, [.int (nI 64), .int (nI 16), .int (nI ((rx + 1) % 8)), .int (nI (mx - 1))]))]) [0, 1, 2, 3, 4, 5] (by decide) rfl
            have hK9 := hK.sub (tys' := [(kM, .int), (kO, .int), (kI, .int)]) [2, 0, 1] rfl
            have e_12 : (nM (cpI Ib Mm (16 * (16 + (rx + 0) % 8)) i)) = nM (selM (gvB Mm 64 rx mx 0 && okL (Mm (64 + 8 * rx + 1))) (cpI Ib Mm (16 * (16 + rx)) (Mm (64 + 8 * rx + 1))) Ib) := by rw [hg, ← hc0, hcl, show i = cc from by omega, r0 hrx]; rfl
            have e_13 : (nI ((rx + 1) % 8) : Int32) = nI (selN (gvB Mm 64 rx mx 0) ((rx + 1) % 8) rx) := by rw [hg]; rfl
            have e_14 : (nI (mx - 1) : Int32) = nI (selN (gvB Mm 64 rx mx 0) (mx - 1) mx) := by rw [hg]; rfl
            have hP9 : va_P (dC, dI) vwCl [(aR, .inr (1, [.ref aM, .ref aO, .ref aI, .ref aT, .ref aE, .int ff])), (aM, .inl (kM, 384, .inl (nM Mm))), (aO, .inl (kO, 16, .inl (nM Ob))), (aI, .inl (kI, 16, .inl (nM (selM (gvB Mm 64 rx mx 0 && okL (Mm (64 + 8 * rx + 1))) (cpI Ib Mm (16 * (16 + rx)) (Mm (64 + 8 * rx + 1))) Ib)))), (aT, .inr (0, [.int (nI 0), .int (nI 8), .int (nI tx), .int (nI nx)])), (aE, .inr (0, [.int (nI 64), .int (nI 16), .int (nI ((rx + 1) % 8)), .int (nI (mx - 1))]))] H := Eq.mp (congrArg (fun (z1 : Nat → Int32) => va_P (dC, dI) vwCl [(aR, .inr (1, [.ref aM, .ref aO, .ref aI, .ref aT, .ref aE, .int ff])), (aM, .inl (kM, 384, .inl (nM Mm))), (aO, .inl (kO, 16, .inl (nM Ob))), (aI, .inl (kI, 16, .inl z1)), (aT, .inr (0, [.int (nI 0), .int (nI 8), .int (nI tx), .int (nI nx)])), (aE, .inr (0, [.int (nI 64), .int (nI 16), .int (nI ((rx + 1) % 8)), .int (nI (mx - 1))]))] H) e_12) hP9
            have hD9 : va_D A [(aR, .inr (1, [.ref aM, .ref aO, .ref aI, .ref aT, .ref aE, .int ff])), (aM, .inl (kM, 384, .inl (nM Mm))), (aO, .inl (kO, 16, .inl (nM Ob))), (aI, .inl (kI, 16, .inl (nM (selM (gvB Mm 64 rx mx 0 && okL (Mm (64 + 8 * rx + 1))) (cpI Ib Mm (16 * (16 + rx)) (Mm (64 + 8 * rx + 1))) Ib)))), (aT, .inr (0, [.int (nI 0), .int (nI 8), .int (nI tx), .int (nI nx)])), (aE, .inr (0, [.int (nI 64), .int (nI 16), .int (nI ((rx + 1) % 8)), .int (nI (mx - 1))]))] := Eq.mp (congrArg (fun (z1 : Nat → Int32) => va_D A [(aR, .inr (1, [.ref aM, .ref aO, .ref aI, .ref aT, .ref aE, .int ff])), (aM, .inl (kM, 384, .inl (nM Mm))), (aO, .inl (kO, 16, .inl (nM Ob))), (aI, .inl (kI, 16, .inl z1)), (aT, .inr (0, [.int (nI 0), .int (nI 8), .int (nI tx), .int (nI nx)])), (aE, .inr (0, [.int (nI 64), .int (nI 16), .int (nI ((rx + 1) % 8)), .int (nI (mx - 1))]))]) e_12) hD9
            have hP9 : va_P (dC, dI) vwCl [(aR, .inr (1, [.ref aM, .ref aO, .ref aI, .ref aT, .ref aE, .int ff])), (aM, .inl (kM, 384, .inl (nM Mm))), (aO, .inl (kO, 16, .inl (nM Ob))), (aI, .inl (kI, 16, .inl (nM (selM (gvB Mm 64 rx mx 0 && okL (Mm (64 + 8 * rx + 1))) (cpI Ib Mm (16 * (16 + rx)) (Mm (64 + 8 * rx + 1))) Ib)))), (aT, .inr (0, [.int (nI 0), .int (nI 8), .int (nI tx), .int (nI nx)])), (aE, .inr (0, [.int (nI 64), .int (nI 16), .int (nI (selN (gvB Mm 64 rx mx 0) ((rx + 1) % 8) rx)), .int (nI (mx - 1))]))] H := Eq.mp (congrArg (fun (z1 : Int32) => va_P (dC, dI) vwCl [(aR, .inr (1, [.ref aM, .ref aO, .ref aI, .ref aT, .ref aE, .int ff])), (aM, .inl (kM, 384, .inl (nM Mm))), (aO, .inl (kO, 16, .inl (nM Ob))), (aI, .inl (kI, 16, .inl (nM (selM (gvB Mm 64 rx mx 0 && okL (Mm (64 + 8 * rx + 1))) (cpI Ib Mm (16 * (16 + rx)) (Mm (64 + 8 * rx + 1))) Ib)))), (aT, .inr (0, [.int (nI 0), .int (nI 8), .int (nI tx), .int (nI nx)])), (aE, .inr (0, [.int (nI 64), .int (nI 16), .int z1, .int (nI (mx - 1))]))] H) e_13) hP9
            have hD9 : va_D A [(aR, .inr (1, [.ref aM, .ref aO, .ref aI, .ref aT, .ref aE, .int ff])), (aM, .inl (kM, 384, .inl (nM Mm))), (aO, .inl (kO, 16, .inl (nM Ob))), (aI, .inl (kI, 16, .inl (nM (selM (gvB Mm 64 rx mx 0 && okL (Mm (64 + 8 * rx + 1))) (cpI Ib Mm (16 * (16 + rx)) (Mm (64 + 8 * rx + 1))) Ib)))), (aT, .inr (0, [.int (nI 0), .int (nI 8), .int (nI tx), .int (nI nx)])), (aE, .inr (0, [.int (nI 64), .int (nI 16), .int (nI (selN (gvB Mm 64 rx mx 0) ((rx + 1) % 8) rx)), .int (nI (mx - 1))]))] := Eq.mp (congrArg (fun (z1 : Int32) => va_D A [(aR, .inr (1, [.ref aM, .ref aO, .ref aI, .ref aT, .ref aE, .int ff])), (aM, .inl (kM, 384, .inl (nM Mm))), (aO, .inl (kO, 16, .inl (nM Ob))), (aI, .inl (kI, 16, .inl (nM (selM (gvB Mm 64 rx mx 0 && okL (Mm (64 + 8 * rx + 1))) (cpI Ib Mm (16 * (16 + rx)) (Mm (64 + 8 * rx + 1))) Ib)))), (aT, .inr (0, [.int (nI 0), .int (nI 8), .int (nI tx), .int (nI nx)])), (aE, .inr (0, [.int (nI 64), .int (nI 16), .int z1, .int (nI (mx - 1))]))]) e_13) hD9
            have hP9 : va_P (dC, dI) vwCl [(aR, .inr (1, [.ref aM, .ref aO, .ref aI, .ref aT, .ref aE, .int ff])), (aM, .inl (kM, 384, .inl (nM Mm))), (aO, .inl (kO, 16, .inl (nM Ob))), (aI, .inl (kI, 16, .inl (nM (selM (gvB Mm 64 rx mx 0 && okL (Mm (64 + 8 * rx + 1))) (cpI Ib Mm (16 * (16 + rx)) (Mm (64 + 8 * rx + 1))) Ib)))), (aT, .inr (0, [.int (nI 0), .int (nI 8), .int (nI tx), .int (nI nx)])), (aE, .inr (0, [.int (nI 64), .int (nI 16), .int (nI (selN (gvB Mm 64 rx mx 0) ((rx + 1) % 8) rx)), .int (nI (selN (gvB Mm 64 rx mx 0) (mx - 1) mx))]))] H := Eq.mp (congrArg (fun (z1 : Int32) => va_P (dC, dI) vwCl [(aR, .inr (1, [.ref aM, .ref aO, .ref aI, .ref aT, .ref aE, .int ff])), (aM, .inl (kM, 384, .inl (nM Mm))), (aO, .inl (kO, 16, .inl (nM Ob))), (aI, .inl (kI, 16, .inl (nM (selM (gvB Mm 64 rx mx 0 && okL (Mm (64 + 8 * rx + 1))) (cpI Ib Mm (16 * (16 + rx)) (Mm (64 + 8 * rx + 1))) Ib)))), (aT, .inr (0, [.int (nI 0), .int (nI 8), .int (nI tx), .int (nI nx)])), (aE, .inr (0, [.int (nI 64), .int (nI 16), .int (nI (selN (gvB Mm 64 rx mx 0) ((rx + 1) % 8) rx)), .int z1]))] H) e_14) hP9
            have hD9 : va_D A [(aR, .inr (1, [.ref aM, .ref aO, .ref aI, .ref aT, .ref aE, .int ff])), (aM, .inl (kM, 384, .inl (nM Mm))), (aO, .inl (kO, 16, .inl (nM Ob))), (aI, .inl (kI, 16, .inl (nM (selM (gvB Mm 64 rx mx 0 && okL (Mm (64 + 8 * rx + 1))) (cpI Ib Mm (16 * (16 + rx)) (Mm (64 + 8 * rx + 1))) Ib)))), (aT, .inr (0, [.int (nI 0), .int (nI 8), .int (nI tx), .int (nI nx)])), (aE, .inr (0, [.int (nI 64), .int (nI 16), .int (nI (selN (gvB Mm 64 rx mx 0) ((rx + 1) % 8) rx)), .int (nI (selN (gvB Mm 64 rx mx 0) (mx - 1) mx))]))] := Eq.mp (congrArg (fun (z1 : Int32) => va_D A [(aR, .inr (1, [.ref aM, .ref aO, .ref aI, .ref aT, .ref aE, .int ff])), (aM, .inl (kM, 384, .inl (nM Mm))), (aO, .inl (kO, 16, .inl (nM Ob))), (aI, .inl (kI, 16, .inl (nM (selM (gvB Mm 64 rx mx 0 && okL (Mm (64 + 8 * rx + 1))) (cpI Ib Mm (16 * (16 + rx)) (Mm (64 + 8 * rx + 1))) Ib)))), (aT, .inr (0, [.int (nI 0), .int (nI 8), .int (nI tx), .int (nI nx)])), (aE, .inr (0, [.int (nI 64), .int (nI 16), .int (nI (selN (gvB Mm 64 rx mx 0) ((rx + 1) % 8) rx)), .int z1]))]) e_14) hD9
            subst eQ
            have e_15 : (nI cc : Int32) = sel (gvB Mm 64 rx mx 0) (sel (okL (Mm (64 + 8 * rx + 1))) (nI (Mm (64 + 8 * rx + 1))) (-3)) (-1) := by rw [hg, ← hc0, hcl]; rfl
            exact W.iret (v := nI cc) hx hb hr (fun t ht hW => ⟨⟨_, (), rfl, e_15, by rw [ht]; exact hP9, va_K.moved hW.alike hK9, hD9⟩, hS.F ht⟩) hS.2.2 dX1_receive_84
          · have c_11 : ¬ (cc ≤ i) := fun h9 => c_11 ((nI_leI (a := cc) (b := i) (by omega) (by omega)).mpr h9)
            refine lv_aload_n hx hb dX1_receive_63 rfl (lv_at hl 0 rfl) ?_
            refine va_get (D := (dC, dI)) (ci := 1) (v := .ref aI) (C := RX1) (T := TX1) (N := 6) hx hb hts hI1 hown hK hP 0 rfl rfl 2 (by decide) (hts (.fieldLink RX1 16 "RingDriver" "inBox" "[I") (by decide +kernel)) (fun _ h9 => h9) rfl dX1_receive_64 ?_
            refine lv_iload_n hx hb dX1_receive_67 rfl (lv_at hl 3 rfl) ?_
            refine lv_aload_n hx hb dX1_receive_68 rfl (lv_at hl 0 rfl) ?_
            refine va_get (D := (dC, dI)) (ci := 1) (v := .ref aM) (C := RX1) (T := TX1) (N := 6) hx hb hts hI1 hown hK hP 0 rfl rfl 0 (by decide) (hts (.fieldLink RX1 9 "RingDriver" "memory" "[I") (by decide +kernel)) (fun _ h9 => h9) rfl dX1_receive_69 ?_
            refine lv_iload_n hx hb dX1_receive_72 rfl (lv_at hl 2 rfl) ?_
            refine lv_iload_n hx hb dX1_receive_73 rfl (lv_at hl 3 rfl) ?_
            refine lv_iadd hx hb dX1_receive_74 ?_
            refine lv_topi (fun y_16 ey_16 => ?_)
            obtain rfl := ey_16.trans (nI_add (16 * (16 + (rx + 0) % 8)) i)
            refine va_iald hx hb hK hP 1 2 rfl rfl (vp_in_nI (n := 16 * (16 + (rx + 0) % 8) + i) (N := 384) (by omega) (by decide)) dX1_receive_75 ?_
            have h9 : 16 * (16 + (rx + 0) % 8) + i < 2 ^ 31 := Nat.lt_trans (m := 384) (by omega) (by decide)
            refine lv_topi (fun y_17 ey_17 => ?_)
            obtain rfl : y_17 = nI (Mm (16 * (16 + (rx + 0) % 8) + i)) := ey_17.trans (rdA (nM Mm) h9)
            refine va_iast (x := nI (Mm (16 * (16 + (rx + 0) % 8) + i))) hx hb hK hP hD hS 3 1 rfl rfl (vp_in_nI (n := i) (N := 16) (by omega) (by decide)) dX1_receive_76 (fun H locs hP hD hS => ?_)
            have h9 : i < 2 ^ 31 := Nat.lt_trans (m := 16) (by omega) (by decide)
            have hP : va_P (dC, dI) vwCl [(aR, .inr (1, [.ref aM, .ref aO, .ref aI, .ref aT, .ref aE, .int ff])), (aM, .inl (kM, 384, .inl (nM Mm))), (aO, .inl (kO, 16, .inl (nM Ob))), (aI, .inl (kI, 16, .inl (upd (nM (cpI Ib Mm (16 * (16 + (rx + 0) % 8)) i)) (nI i).toNatClampNeg (nI (Mm (16 * (16 + (rx + 0) % 8) + i)))))), (aT, .inr (0, [.int (nI 0), .int (nI 8), .int (nI tx), .int (nI nx)])), (aE, .inr (0, [.int (nI 64), .int (nI 16), .int (nI ((rx + 1) % 8)), .int (nI (mx - 1))]))] H := hP
            have hD : va_D A [(aR, .inr (1, [.ref aM, .ref aO, .ref aI, .ref aT, .ref aE, .int ff])), (aM, .inl (kM, 384, .inl (nM Mm))), (aO, .inl (kO, 16, .inl (nM Ob))), (aI, .inl (kI, 16, .inl (upd (nM (cpI Ib Mm (16 * (16 + (rx + 0) % 8)) i)) (nI i).toNatClampNeg (nI (Mm (16 * (16 + (rx + 0) % 8) + i)))))), (aT, .inr (0, [.int (nI 0), .int (nI 8), .int (nI tx), .int (nI nx)])), (aE, .inr (0, [.int (nI 64), .int (nI 16), .int (nI ((rx + 1) % 8)), .int (nI (mx - 1))]))] := hD
            have e_18 : upd (nM (cpI Ib Mm (16 * (16 + (rx + 0) % 8)) i)) (nI i).toNatClampNeg (nI (Mm (16 * (16 + (rx + 0) % 8) + i))) = nM (updN (cpI Ib Mm (16 * (16 + (rx + 0) % 8)) i) i (Mm (16 * (16 + (rx + 0) % 8) + i))) := updI h9
            have hP : va_P (dC, dI) vwCl [(aR, .inr (1, [.ref aM, .ref aO, .ref aI, .ref aT, .ref aE, .int ff])), (aM, .inl (kM, 384, .inl (nM Mm))), (aO, .inl (kO, 16, .inl (nM Ob))), (aI, .inl (kI, 16, .inl (nM (updN (cpI Ib Mm (16 * (16 + (rx + 0) % 8)) i) i (Mm (16 * (16 + (rx + 0) % 8) + i)))))), (aT, .inr (0, [.int (nI 0), .int (nI 8), .int (nI tx), .int (nI nx)])), (aE, .inr (0, [.int (nI 64), .int (nI 16), .int (nI ((rx + 1) % 8)), .int (nI (mx - 1))]))] H := Eq.mp (congrArg (fun (z1 : Nat → Int32) => va_P (dC, dI) vwCl [(aR, .inr (1, [.ref aM, .ref aO, .ref aI, .ref aT, .ref aE, .int ff])), (aM, .inl (kM, 384, .inl (nM Mm))), (aO, .inl (kO, 16, .inl (nM Ob))), (aI, .inl (kI, 16, .inl z1)), (aT, .inr (0, [.int (nI 0), .int (nI 8), .int (nI tx), .int (nI nx)])), (aE, .inr (0, [.int (nI 64), .int (nI 16), .int (nI ((rx + 1) % 8)), .int (nI (mx - 1))]))] H) e_18) hP
            have hD : va_D A [(aR, .inr (1, [.ref aM, .ref aO, .ref aI, .ref aT, .ref aE, .int ff])), (aM, .inl (kM, 384, .inl (nM Mm))), (aO, .inl (kO, 16, .inl (nM Ob))), (aI, .inl (kI, 16, .inl (nM (updN (cpI Ib Mm (16 * (16 + (rx + 0) % 8)) i) i (Mm (16 * (16 + (rx + 0) % 8) + i)))))), (aT, .inr (0, [.int (nI 0), .int (nI 8), .int (nI tx), .int (nI nx)])), (aE, .inr (0, [.int (nI 64), .int (nI 16), .int (nI ((rx + 1) % 8)), .int (nI (mx - 1))]))] := Eq.mp (congrArg (fun (z1 : Nat → Int32) => va_D A [(aR, .inr (1, [.ref aM, .ref aO, .ref aI, .ref aT, .ref aE, .int ff])), (aM, .inl (kM, 384, .inl (nM Mm))), (aO, .inl (kO, 16, .inl (nM Ob))), (aI, .inl (kI, 16, .inl z1)), (aT, .inr (0, [.int (nI 0), .int (nI 8), .int (nI tx), .int (nI nx)])), (aE, .inr (0, [.int (nI 64), .int (nI 16), .int (nI ((rx + 1) % 8)), .int (nI (mx - 1))]))]) e_18) hD
            refine lv_iinc (v := nI (i + 1)) (lv' := [(3, .int (nI (i + 1))), (0, .ref aR), (1, .int (nI cc)), (2, .int (nI (16 * (16 + (rx + 0) % 8))))]) hx hb dX1_receive_77 hl (k := 3) rfl (show nI i + Int32.ofInt 1 = nI (i + 1) from nI_1 i) (by decide) rfl (fun ls hl => ?_)
            refine lv_goto (tgt := 58) hx hb dX1_receive_80 (by decide) ?_
            have hP9 := hP.sub (ws' := [(aR, .inr (1, [.ref aM, .ref aO, .ref aI, .ref aT, .ref aE, .int ff])), (aM, .inl (kM, 384, .inl (nM Mm))), (aO, .inl (kO, 16, .inl (nM Ob))), (aI, .inl (kI, 16, .inl (nM (updN (cpI Ib Mm (16 * (16 + (rx + 0) % 8)) i) i (Mm (16 * (16 + (rx + 0) % 8) + i)))))), (aT, .inr (0, [.int (nI 0), .int (nI 8), .int (nI tx), .int (nI nx)])), (aE, .inr (0, [.int (nI 64), .int (nI 16), .int (nI ((rx + 1) % 8)), .int (nI (mx - 1))]))]) [0, 1, 2, 3, 4, 5] rfl
            have hD9 := hD.sub (ws' := [(aR, .inr (1, [.ref aM, .ref aO, .ref aI, .ref aT, .ref aE, .int ff])), (aM, .inl (kM, 384, .inl (nM Mm))), (aO, .inl (kO, 16, .inl (nM Ob))), (aI, .inl (kI, 16, .inl (nM (updN (cpI Ib Mm (16 * (16 + (rx + 0) % 8)) i) i (Mm (16 * (16 + (rx + 0) % 8) + i)))))), (aT, .inr (0, [.int (nI 0), .int (nI 8), .int (nI tx), .int (nI nx)])), (aE, .inr (0, [.int (nI 64), .int (nI 16), .int (nI ((rx + 1) % 8)), .int (nI (mx - 1))]))]) [0, 1, 2, 3, 4, 5] (by decide) rfl
            have e_19 : (nM (updN (cpI Ib Mm (16 * (16 + (rx + 0) % 8)) i) i (Mm (16 * (16 + (rx + 0) % 8) + i)))) = nM (cpI Ib Mm (16 * (16 + (rx + 0) % 8)) (i + 1)) := congrArg nM cpI_s
            have hP9 : va_P (dC, dI) vwCl [(aR, .inr (1, [.ref aM, .ref aO, .ref aI, .ref aT, .ref aE, .int ff])), (aM, .inl (kM, 384, .inl (nM Mm))), (aO, .inl (kO, 16, .inl (nM Ob))), (aI, .inl (kI, 16, .inl (nM (cpI Ib Mm (16 * (16 + (rx + 0) % 8)) (i + 1))))), (aT, .inr (0, [.int (nI 0), .int (nI 8), .int (nI tx), .int (nI nx)])), (aE, .inr (0, [.int (nI 64), .int (nI 16), .int (nI ((rx + 1) % 8)), .int (nI (mx - 1))]))] H := Eq.mp (congrArg (fun (z1 : Nat → Int32) => va_P (dC, dI) vwCl [(aR, .inr (1, [.ref aM, .ref aO, .ref aI, .ref aT, .ref aE, .int ff])), (aM, .inl (kM, 384, .inl (nM Mm))), (aO, .inl (kO, 16, .inl (nM Ob))), (aI, .inl (kI, 16, .inl z1)), (aT, .inr (0, [.int (nI 0), .int (nI 8), .int (nI tx), .int (nI nx)])), (aE, .inr (0, [.int (nI 64), .int (nI 16), .int (nI ((rx + 1) % 8)), .int (nI (mx - 1))]))] H) e_19) hP9
            have hD9 : va_D A [(aR, .inr (1, [.ref aM, .ref aO, .ref aI, .ref aT, .ref aE, .int ff])), (aM, .inl (kM, 384, .inl (nM Mm))), (aO, .inl (kO, 16, .inl (nM Ob))), (aI, .inl (kI, 16, .inl (nM (cpI Ib Mm (16 * (16 + (rx + 0) % 8)) (i + 1))))), (aT, .inr (0, [.int (nI 0), .int (nI 8), .int (nI tx), .int (nI nx)])), (aE, .inr (0, [.int (nI 64), .int (nI 16), .int (nI ((rx + 1) % 8)), .int (nI (mx - 1))]))] := Eq.mp (congrArg (fun (z1 : Nat → Int32) => va_D A [(aR, .inr (1, [.ref aM, .ref aO, .ref aI, .ref aT, .ref aE, .int ff])), (aM, .inl (kM, 384, .inl (nM Mm))), (aO, .inl (kO, 16, .inl (nM Ob))), (aI, .inl (kI, 16, .inl z1)), (aT, .inr (0, [.int (nI 0), .int (nI 8), .int (nI tx), .int (nI nx)])), (aE, .inr (0, [.int (nI 64), .int (nI 16), .int (nI ((rx + 1) % 8)), .int (nI (mx - 1))]))]) e_19) hD9
            have hl9 : lv_has ls 4 [(0, .ref aR), (1, .int (nI cc)), (2, .int (nI (16 * (16 + (rx + 0) % 8)))), (3, .int (nI (i + 1)))] := lv_sub hl [1, 2, 3, 0] rfl
            exact ih (i + 1) (by omega) (by omega) _ _ _ hP9 hD9 hS hl9
      have hP9 := hP.sub (ws' := [(aR, .inr (1, [.ref aM, .ref aO, .ref aI, .ref aT, .ref aE, .int ff])), (aM, .inl (kM, 384, .inl (nM Mm))), (aO, .inl (kO, 16, .inl (nM Ob))), (aI, .inl (kI, 16, .inl (nM Ib))), (aT, .inr (0, [.int (nI 0), .int (nI 8), .int (nI tx), .int (nI nx)])), (aE, .inr (0, [.int (nI 64), .int (nI 16), .int (nI ((rx + 1) % 8)), .int (nI (mx - 1))]))]) [3, 4, 0, 1, 2, 5] rfl
      have hD9 := hD.sub (ws' := [(aR, .inr (1, [.ref aM, .ref aO, .ref aI, .ref aT, .ref aE, .int ff])), (aM, .inl (kM, 384, .inl (nM Mm))), (aO, .inl (kO, 16, .inl (nM Ob))), (aI, .inl (kI, 16, .inl (nM Ib))), (aT, .inr (0, [.int (nI 0), .int (nI 8), .int (nI tx), .int (nI nx)])), (aE, .inr (0, [.int (nI 64), .int (nI 16), .int (nI ((rx + 1) % 8)), .int (nI (mx - 1))]))]) [3, 4, 0, 1, 2, 5] (by decide) rfl
      have e_20 : (nM Ib) = nM (cpI Ib Mm (16 * (16 + (rx + 0) % 8)) 0) := congrArg nM cpI_0
      have hP9 : va_P (dC, dI) vwCl [(aR, .inr (1, [.ref aM, .ref aO, .ref aI, .ref aT, .ref aE, .int ff])), (aM, .inl (kM, 384, .inl (nM Mm))), (aO, .inl (kO, 16, .inl (nM Ob))), (aI, .inl (kI, 16, .inl (nM (cpI Ib Mm (16 * (16 + (rx + 0) % 8)) 0)))), (aT, .inr (0, [.int (nI 0), .int (nI 8), .int (nI tx), .int (nI nx)])), (aE, .inr (0, [.int (nI 64), .int (nI 16), .int (nI ((rx + 1) % 8)), .int (nI (mx - 1))]))] H := Eq.mp (congrArg (fun (z1 : Nat → Int32) => va_P (dC, dI) vwCl [(aR, .inr (1, [.ref aM, .ref aO, .ref aI, .ref aT, .ref aE, .int ff])), (aM, .inl (kM, 384, .inl (nM Mm))), (aO, .inl (kO, 16, .inl (nM Ob))), (aI, .inl (kI, 16, .inl z1)), (aT, .inr (0, [.int (nI 0), .int (nI 8), .int (nI tx), .int (nI nx)])), (aE, .inr (0, [.int (nI 64), .int (nI 16), .int (nI ((rx + 1) % 8)), .int (nI (mx - 1))]))] H) e_20) hP9
      have hD9 : va_D A [(aR, .inr (1, [.ref aM, .ref aO, .ref aI, .ref aT, .ref aE, .int ff])), (aM, .inl (kM, 384, .inl (nM Mm))), (aO, .inl (kO, 16, .inl (nM Ob))), (aI, .inl (kI, 16, .inl (nM (cpI Ib Mm (16 * (16 + (rx + 0) % 8)) 0)))), (aT, .inr (0, [.int (nI 0), .int (nI 8), .int (nI tx), .int (nI nx)])), (aE, .inr (0, [.int (nI 64), .int (nI 16), .int (nI ((rx + 1) % 8)), .int (nI (mx - 1))]))] := Eq.mp (congrArg (fun (z1 : Nat → Int32) => va_D A [(aR, .inr (1, [.ref aM, .ref aO, .ref aI, .ref aT, .ref aE, .int ff])), (aM, .inl (kM, 384, .inl (nM Mm))), (aO, .inl (kO, 16, .inl (nM Ob))), (aI, .inl (kI, 16, .inl z1)), (aT, .inr (0, [.int (nI 0), .int (nI 8), .int (nI tx), .int (nI nx)])), (aE, .inr (0, [.int (nI 64), .int (nI 16), .int (nI ((rx + 1) % 8)), .int (nI (mx - 1))]))]) e_20) hD9
      have hl9 : lv_has ls 4 [(0, .ref aR), (1, .int (nI cc)), (2, .int (nI (16 * (16 + (rx + 0) % 8)))), (3, .int (nI 0))] := lv_sub hl [3, 2, 1, 0] rfl
      exact loop_10 (cc + 1) 0 (by omega) (by omega) _ _ _ hP9 hD9 hS hl9
    · have c_9 := b01_e c_9
      have hcl : okL cc = false := okL_s.symm.trans c_9
      refine lv_bipush (v := (-3)) hx hb dX1_receive_53 (by decide +kernel) ?_
      have hP9 := hP.sub (ws' := [(aR, .inr (1, [.ref aM, .ref aO, .ref aI, .ref aT, .ref aE, .int ff])), (aM, .inl (kM, 384, .inl (nM Mm))), (aO, .inl (kO, 16, .inl (nM Ob))), (aI, .inl (kI, 16, .inl (nM Ib))), (aT, .inr (0, [.int (nI 0), .int (nI 8), .int (nI tx), .int (nI nx)])), (aE, .inr (0, [.int (nI 64), .int (nI 16), .int (nI ((rx + 1) % 8)), .int (nI (mx - 1))]))]) [3, 4, 0, 1, 2, 5] rfl
      have hD9 := hD.sub (ws' := [(aR, .inr (1, [.ref aM, .ref aO, .ref aI, .ref aT, .ref aE, .int ff])), (aM, .inl (kM, 384, .inl (nM Mm))), (aO, .inl (kO, 16, .inl (nM Ob))), (aI, .inl (kI, 16, .inl (nM Ib))), (aT, .inr (0, [.int (nI 0), .int (nI 8), .int (nI tx), .int (nI nx)])), (aE, .inr (0, [.int (nI 64), .int (nI 16), .int (nI ((rx + 1) % 8)), .int (nI (mx - 1))]))]) [3, 4, 0, 1, 2, 5] (by decide) rfl
      have hK9 := hK.sub (tys' := [(kM, .int), (kO, .int), (kI, .int)]) [2, 0, 1] rfl
      have e_21 : (nM Ib) = nM (selM (gvB Mm 64 rx mx 0 && okL (Mm (64 + 8 * rx + 1))) (cpI Ib Mm (16 * (16 + rx)) (Mm (64 + 8 * rx + 1))) Ib) := by rw [hg, ← hc0, hcl]; rfl
      have e_22 : (nI ((rx + 1) % 8) : Int32) = nI (selN (gvB Mm 64 rx mx 0) ((rx + 1) % 8) rx) := by rw [hg]; rfl
      have e_23 : (nI (mx - 1) : Int32) = nI (selN (gvB Mm 64 rx mx 0) (mx - 1) mx) := by rw [hg]; rfl
      have hP9 : va_P (dC, dI) vwCl [(aR, .inr (1, [.ref aM, .ref aO, .ref aI, .ref aT, .ref aE, .int ff])), (aM, .inl (kM, 384, .inl (nM Mm))), (aO, .inl (kO, 16, .inl (nM Ob))), (aI, .inl (kI, 16, .inl (nM (selM (gvB Mm 64 rx mx 0 && okL (Mm (64 + 8 * rx + 1))) (cpI Ib Mm (16 * (16 + rx)) (Mm (64 + 8 * rx + 1))) Ib)))), (aT, .inr (0, [.int (nI 0), .int (nI 8), .int (nI tx), .int (nI nx)])), (aE, .inr (0, [.int (nI 64), .int (nI 16), .int (nI ((rx + 1) % 8)), .int (nI (mx - 1))]))] H := Eq.mp (congrArg (fun (z1 : Nat → Int32) => va_P (dC, dI) vwCl [(aR, .inr (1, [.ref aM, .ref aO, .ref aI, .ref aT, .ref aE, .int ff])), (aM, .inl (kM, 384, .inl (nM Mm))), (aO, .inl (kO, 16, .inl (nM Ob))), (aI, .inl (kI, 16, .inl z1)), (aT, .inr (0, [.int (nI 0), .int (nI 8), .int (nI tx), .int (nI nx)])), (aE, .inr (0, [.int (nI 64), .int (nI 16), .int (nI ((rx + 1) % 8)), .int (nI (mx - 1))]))] H) e_21) hP9
      have hD9 : va_D A [(aR, .inr (1, [.ref aM, .ref aO, .ref aI, .ref aT, .ref aE, .int ff])), (aM, .inl (kM, 384, .inl (nM Mm))), (aO, .inl (kO, 16, .inl (nM Ob))), (aI, .inl (kI, 16, .inl (nM (selM (gvB Mm 64 rx mx 0 && okL (Mm (64 + 8 * rx + 1))) (cpI Ib Mm (16 * (16 + rx)) (Mm (64 + 8 * rx + 1))) Ib)))), (aT, .inr (0, [.int (nI 0), .int (nI 8), .int (nI tx), .int (nI nx)])), (aE, .inr (0, [.int (nI 64), .int (nI 16), .int (nI ((rx + 1) % 8)), .int (nI (mx - 1))]))] := Eq.mp (congrArg (fun (z1 : Nat → Int32) => va_D A [(aR, .inr (1, [.ref aM, .ref aO, .ref aI, .ref aT, .ref aE, .int ff])), (aM, .inl (kM, 384, .inl (nM Mm))), (aO, .inl (kO, 16, .inl (nM Ob))), (aI, .inl (kI, 16, .inl z1)), (aT, .inr (0, [.int (nI 0), .int (nI 8), .int (nI tx), .int (nI nx)])), (aE, .inr (0, [.int (nI 64), .int (nI 16), .int (nI ((rx + 1) % 8)), .int (nI (mx - 1))]))]) e_21) hD9
      have hP9 : va_P (dC, dI) vwCl [(aR, .inr (1, [.ref aM, .ref aO, .ref aI, .ref aT, .ref aE, .int ff])), (aM, .inl (kM, 384, .inl (nM Mm))), (aO, .inl (kO, 16, .inl (nM Ob))), (aI, .inl (kI, 16, .inl (nM (selM (gvB Mm 64 rx mx 0 && okL (Mm (64 + 8 * rx + 1))) (cpI Ib Mm (16 * (16 + rx)) (Mm (64 + 8 * rx + 1))) Ib)))), (aT, .inr (0, [.int (nI 0), .int (nI 8), .int (nI tx), .int (nI nx)])), (aE, .inr (0, [.int (nI 64), .int (nI 16), .int (nI (selN (gvB Mm 64 rx mx 0) ((rx + 1) % 8) rx)), .int (nI (mx - 1))]))] H := Eq.mp (congrArg (fun (z1 : Int32) => va_P (dC, dI) vwCl [(aR, .inr (1, [.ref aM, .ref aO, .ref aI, .ref aT, .ref aE, .int ff])), (aM, .inl (kM, 384, .inl (nM Mm))), (aO, .inl (kO, 16, .inl (nM Ob))), (aI, .inl (kI, 16, .inl (nM (selM (gvB Mm 64 rx mx 0 && okL (Mm (64 + 8 * rx + 1))) (cpI Ib Mm (16 * (16 + rx)) (Mm (64 + 8 * rx + 1))) Ib)))), (aT, .inr (0, [.int (nI 0), .int (nI 8), .int (nI tx), .int (nI nx)])), (aE, .inr (0, [.int (nI 64), .int (nI 16), .int z1, .int (nI (mx - 1))]))] H) e_22) hP9
      have hD9 : va_D A [(aR, .inr (1, [.ref aM, .ref aO, .ref aI, .ref aT, .ref aE, .int ff])), (aM, .inl (kM, 384, .inl (nM Mm))), (aO, .inl (kO, 16, .inl (nM Ob))), (aI, .inl (kI, 16, .inl (nM (selM (gvB Mm 64 rx mx 0 && okL (Mm (64 + 8 * rx + 1))) (cpI Ib Mm (16 * (16 + rx)) (Mm (64 + 8 * rx + 1))) Ib)))), (aT, .inr (0, [.int (nI 0), .int (nI 8), .int (nI tx), .int (nI nx)])), (aE, .inr (0, [.int (nI 64), .int (nI 16), .int (nI (selN (gvB Mm 64 rx mx 0) ((rx + 1) % 8) rx)), .int (nI (mx - 1))]))] := Eq.mp (congrArg (fun (z1 : Int32) => va_D A [(aR, .inr (1, [.ref aM, .ref aO, .ref aI, .ref aT, .ref aE, .int ff])), (aM, .inl (kM, 384, .inl (nM Mm))), (aO, .inl (kO, 16, .inl (nM Ob))), (aI, .inl (kI, 16, .inl (nM (selM (gvB Mm 64 rx mx 0 && okL (Mm (64 + 8 * rx + 1))) (cpI Ib Mm (16 * (16 + rx)) (Mm (64 + 8 * rx + 1))) Ib)))), (aT, .inr (0, [.int (nI 0), .int (nI 8), .int (nI tx), .int (nI nx)])), (aE, .inr (0, [.int (nI 64), .int (nI 16), .int z1, .int (nI (mx - 1))]))]) e_22) hD9
      have hP9 : va_P (dC, dI) vwCl [(aR, .inr (1, [.ref aM, .ref aO, .ref aI, .ref aT, .ref aE, .int ff])), (aM, .inl (kM, 384, .inl (nM Mm))), (aO, .inl (kO, 16, .inl (nM Ob))), (aI, .inl (kI, 16, .inl (nM (selM (gvB Mm 64 rx mx 0 && okL (Mm (64 + 8 * rx + 1))) (cpI Ib Mm (16 * (16 + rx)) (Mm (64 + 8 * rx + 1))) Ib)))), (aT, .inr (0, [.int (nI 0), .int (nI 8), .int (nI tx), .int (nI nx)])), (aE, .inr (0, [.int (nI 64), .int (nI 16), .int (nI (selN (gvB Mm 64 rx mx 0) ((rx + 1) % 8) rx)), .int (nI (selN (gvB Mm 64 rx mx 0) (mx - 1) mx))]))] H := Eq.mp (congrArg (fun (z1 : Int32) => va_P (dC, dI) vwCl [(aR, .inr (1, [.ref aM, .ref aO, .ref aI, .ref aT, .ref aE, .int ff])), (aM, .inl (kM, 384, .inl (nM Mm))), (aO, .inl (kO, 16, .inl (nM Ob))), (aI, .inl (kI, 16, .inl (nM (selM (gvB Mm 64 rx mx 0 && okL (Mm (64 + 8 * rx + 1))) (cpI Ib Mm (16 * (16 + rx)) (Mm (64 + 8 * rx + 1))) Ib)))), (aT, .inr (0, [.int (nI 0), .int (nI 8), .int (nI tx), .int (nI nx)])), (aE, .inr (0, [.int (nI 64), .int (nI 16), .int (nI (selN (gvB Mm 64 rx mx 0) ((rx + 1) % 8) rx)), .int z1]))] H) e_23) hP9
      have hD9 : va_D A [(aR, .inr (1, [.ref aM, .ref aO, .ref aI, .ref aT, .ref aE, .int ff])), (aM, .inl (kM, 384, .inl (nM Mm))), (aO, .inl (kO, 16, .inl (nM Ob))), (aI, .inl (kI, 16, .inl (nM (selM (gvB Mm 64 rx mx 0 && okL (Mm (64 + 8 * rx + 1))) (cpI Ib Mm (16 * (16 + rx)) (Mm (64 + 8 * rx + 1))) Ib)))), (aT, .inr (0, [.int (nI 0), .int (nI 8), .int (nI tx), .int (nI nx)])), (aE, .inr (0, [.int (nI 64), .int (nI 16), .int (nI (selN (gvB Mm 64 rx mx 0) ((rx + 1) % 8) rx)), .int (nI (selN (gvB Mm 64 rx mx 0) (mx - 1) mx))]))] := Eq.mp (congrArg (fun (z1 : Int32) => va_D A [(aR, .inr (1, [.ref aM, .ref aO, .ref aI, .ref aT, .ref aE, .int ff])), (aM, .inl (kM, 384, .inl (nM Mm))), (aO, .inl (kO, 16, .inl (nM Ob))), (aI, .inl (kI, 16, .inl (nM (selM (gvB Mm 64 rx mx 0 && okL (Mm (64 + 8 * rx + 1))) (cpI Ib Mm (16 * (16 + rx)) (Mm (64 + 8 * rx + 1))) Ib)))), (aT, .inr (0, [.int (nI 0), .int (nI 8), .int (nI tx), .int (nI nx)])), (aE, .inr (0, [.int (nI 64), .int (nI 16), .int (nI (selN (gvB Mm 64 rx mx 0) ((rx + 1) % 8) rx)), .int z1]))]) e_23) hD9
      subst eQ
      have e_24 : ((-3) : Int32) = sel (gvB Mm 64 rx mx 0) (sel (okL (Mm (64 + 8 * rx + 1))) (nI (Mm (64 + 8 * rx + 1))) (-3)) (-1) := by rw [hg, ← hc0, hcl]; rfl
      exact W.iret (v := (-3)) hx hb hr (fun t ht hW => ⟨⟨_, (), rfl, e_24, by rw [ht]; exact hP9, va_K.moved hW.alike hK9, hD9⟩, hS.F ht⟩) hS.2.2 dX1_receive_55
  · have c_2 := b01_e c_2
    have hg := c_2
    refine lv_iconst (v := (-1)) hx hb dX1_receive_12 (by decide +kernel) ?_
    have hP9 := hP.sub (ws' := [(aR, .inr (1, [.ref aM, .ref aO, .ref aI, .ref aT, .ref aE, .int ff])), (aM, .inl (kM, 384, .inl (nM Mm))), (aO, .inl (kO, 16, .inl (nM Ob))), (aI, .inl (kI, 16, .inl (nM Ib))), (aT, .inr (0, [.int (nI 0), .int (nI 8), .int (nI tx), .int (nI nx)])), (aE, .inr (0, [.int (nI 64), .int (nI 16), .int (nI rx), .int (nI mx)]))]) [3, 4, 0, 1, 2, 5] rfl
    have hD9 := hD.sub (ws' := [(aR, .inr (1, [.ref aM, .ref aO, .ref aI, .ref aT, .ref aE, .int ff])), (aM, .inl (kM, 384, .inl (nM Mm))), (aO, .inl (kO, 16, .inl (nM Ob))), (aI, .inl (kI, 16, .inl (nM Ib))), (aT, .inr (0, [.int (nI 0), .int (nI 8), .int (nI tx), .int (nI nx)])), (aE, .inr (0, [.int (nI 64), .int (nI 16), .int (nI rx), .int (nI mx)]))]) [3, 4, 0, 1, 2, 5] (by decide) rfl
    have hK9 := hK.sub (tys' := [(kM, .int), (kO, .int), (kI, .int)]) [2, 0, 1] rfl
    have e_25 : (nM Ib) = nM (selM (gvB Mm 64 rx mx 0 && okL (Mm (64 + 8 * rx + 1))) (cpI Ib Mm (16 * (16 + rx)) (Mm (64 + 8 * rx + 1))) Ib) := (by first | exact congrArg nI (selN_f hg) | (rw [hg]; rfl))
    have e_26 : (nI rx : Int32) = nI (selN (gvB Mm 64 rx mx 0) ((rx + 1) % 8) rx) := (by first | exact congrArg nI (selN_f hg) | (rw [hg]; rfl))
    have e_27 : (nI mx : Int32) = nI (selN (gvB Mm 64 rx mx 0) (mx - 1) mx) := (by first | exact congrArg nI (selN_f hg) | (rw [hg]; rfl))
    have hP9 : va_P (dC, dI) vwCl [(aR, .inr (1, [.ref aM, .ref aO, .ref aI, .ref aT, .ref aE, .int ff])), (aM, .inl (kM, 384, .inl (nM Mm))), (aO, .inl (kO, 16, .inl (nM Ob))), (aI, .inl (kI, 16, .inl (nM (selM (gvB Mm 64 rx mx 0 && okL (Mm (64 + 8 * rx + 1))) (cpI Ib Mm (16 * (16 + rx)) (Mm (64 + 8 * rx + 1))) Ib)))), (aT, .inr (0, [.int (nI 0), .int (nI 8), .int (nI tx), .int (nI nx)])), (aE, .inr (0, [.int (nI 64), .int (nI 16), .int (nI rx), .int (nI mx)]))] H := Eq.mp (congrArg (fun (z1 : Nat → Int32) => va_P (dC, dI) vwCl [(aR, .inr (1, [.ref aM, .ref aO, .ref aI, .ref aT, .ref aE, .int ff])), (aM, .inl (kM, 384, .inl (nM Mm))), (aO, .inl (kO, 16, .inl (nM Ob))), (aI, .inl (kI, 16, .inl z1)), (aT, .inr (0, [.int (nI 0), .int (nI 8), .int (nI tx), .int (nI nx)])), (aE, .inr (0, [.int (nI 64), .int (nI 16), .int (nI rx), .int (nI mx)]))] H) e_25) hP9
    have hD9 : va_D A [(aR, .inr (1, [.ref aM, .ref aO, .ref aI, .ref aT, .ref aE, .int ff])), (aM, .inl (kM, 384, .inl (nM Mm))), (aO, .inl (kO, 16, .inl (nM Ob))), (aI, .inl (kI, 16, .inl (nM (selM (gvB Mm 64 rx mx 0 && okL (Mm (64 + 8 * rx + 1))) (cpI Ib Mm (16 * (16 + rx)) (Mm (64 + 8 * rx + 1))) Ib)))), (aT, .inr (0, [.int (nI 0), .int (nI 8), .int (nI tx), .int (nI nx)])), (aE, .inr (0, [.int (nI 64), .int (nI 16), .int (nI rx), .int (nI mx)]))] := Eq.mp (congrArg (fun (z1 : Nat → Int32) => va_D A [(aR, .inr (1, [.ref aM, .ref aO, .ref aI, .ref aT, .ref aE, .int ff])), (aM, .inl (kM, 384, .inl (nM Mm))), (aO, .inl (kO, 16, .inl (nM Ob))), (aI, .inl (kI, 16, .inl z1)), (aT, .inr (0, [.int (nI 0), .int (nI 8), .int (nI tx), .int (nI nx)])), (aE, .inr (0, [.int (nI 64), .int (nI 16), .int (nI rx), .int (nI mx)]))]) e_25) hD9
    have hP9 : va_P (dC, dI) vwCl [(aR, .inr (1, [.ref aM, .ref aO, .ref aI, .ref aT, .ref aE, .int ff])), (aM, .inl (kM, 384, .inl (nM Mm))), (aO, .inl (kO, 16, .inl (nM Ob))), (aI, .inl (kI, 16, .inl (nM (selM (gvB Mm 64 rx mx 0 && okL (Mm (64 + 8 * rx + 1))) (cpI Ib Mm (16 * (16 + rx)) (Mm (64 + 8 * rx + 1))) Ib)))), (aT, .inr (0, [.int (nI 0), .int (nI 8), .int (nI tx), .int (nI nx)])), (aE, .inr (0, [.int (nI 64), .int (nI 16), .int (nI (selN (gvB Mm 64 rx mx 0) ((rx + 1) % 8) rx)), .int (nI mx)]))] H := Eq.mp (congrArg (fun (z1 : Int32) => va_P (dC, dI) vwCl [(aR, .inr (1, [.ref aM, .ref aO, .ref aI, .ref aT, .ref aE, .int ff])), (aM, .inl (kM, 384, .inl (nM Mm))), (aO, .inl (kO, 16, .inl (nM Ob))), (aI, .inl (kI, 16, .inl (nM (selM (gvB Mm 64 rx mx 0 && okL (Mm (64 + 8 * rx + 1))) (cpI Ib Mm (16 * (16 + rx)) (Mm (64 + 8 * rx + 1))) Ib)))), (aT, .inr (0, [.int (nI 0), .int (nI 8), .int (nI tx), .int (nI nx)])), (aE, .inr (0, [.int (nI 64), .int (nI 16), .int z1, .int (nI mx)]))] H) e_26) hP9
    have hD9 : va_D A [(aR, .inr (1, [.ref aM, .ref aO, .ref aI, .ref aT, .ref aE, .int ff])), (aM, .inl (kM, 384, .inl (nM Mm))), (aO, .inl (kO, 16, .inl (nM Ob))), (aI, .inl (kI, 16, .inl (nM (selM (gvB Mm 64 rx mx 0 && okL (Mm (64 + 8 * rx + 1))) (cpI Ib Mm (16 * (16 + rx)) (Mm (64 + 8 * rx + 1))) Ib)))), (aT, .inr (0, [.int (nI 0), .int (nI 8), .int (nI tx), .int (nI nx)])), (aE, .inr (0, [.int (nI 64), .int (nI 16), .int (nI (selN (gvB Mm 64 rx mx 0) ((rx + 1) % 8) rx)), .int (nI mx)]))] := Eq.mp (congrArg (fun (z1 : Int32) => va_D A [(aR, .inr (1, [.ref aM, .ref aO, .ref aI, .ref aT, .ref aE, .int ff])), (aM, .inl (kM, 384, .inl (nM Mm))), (aO, .inl (kO, 16, .inl (nM Ob))), (aI, .inl (kI, 16, .inl (nM (selM (gvB Mm 64 rx mx 0 && okL (Mm (64 + 8 * rx + 1))) (cpI Ib Mm (16 * (16 + rx)) (Mm (64 + 8 * rx + 1))) Ib)))), (aT, .inr (0, [.int (nI 0), .int (nI 8), .int (nI tx), .int (nI nx)])), (aE, .inr (0, [.int (nI 64), .int (nI 16), .int z1, .int (nI mx)]))]) e_26) hD9
    have hP9 : va_P (dC, dI) vwCl [(aR, .inr (1, [.ref aM, .ref aO, .ref aI, .ref aT, .ref aE, .int ff])), (aM, .inl (kM, 384, .inl (nM Mm))), (aO, .inl (kO, 16, .inl (nM Ob))), (aI, .inl (kI, 16, .inl (nM (selM (gvB Mm 64 rx mx 0 && okL (Mm (64 + 8 * rx + 1))) (cpI Ib Mm (16 * (16 + rx)) (Mm (64 + 8 * rx + 1))) Ib)))), (aT, .inr (0, [.int (nI 0), .int (nI 8), .int (nI tx), .int (nI nx)])), (aE, .inr (0, [.int (nI 64), .int (nI 16), .int (nI (selN (gvB Mm 64 rx mx 0) ((rx + 1) % 8) rx)), .int (nI (selN (gvB Mm 64 rx mx 0) (mx - 1) mx))]))] H := Eq.mp (congrArg (fun (z1 : Int32) => va_P (dC, dI) vwCl [(aR, .inr (1, [.ref aM, .ref aO, .ref aI, .ref aT, .ref aE, .int ff])), (aM, .inl (kM, 384, .inl (nM Mm))), (aO, .inl (kO, 16, .inl (nM Ob))), (aI, .inl (kI, 16, .inl (nM (selM (gvB Mm 64 rx mx 0 && okL (Mm (64 + 8 * rx + 1))) (cpI Ib Mm (16 * (16 + rx)) (Mm (64 + 8 * rx + 1))) Ib)))), (aT, .inr (0, [.int (nI 0), .int (nI 8), .int (nI tx), .int (nI nx)])), (aE, .inr (0, [.int (nI 64), .int (nI 16), .int (nI (selN (gvB Mm 64 rx mx 0) ((rx + 1) % 8) rx)), .int z1]))] H) e_27) hP9
    have hD9 : va_D A [(aR, .inr (1, [.ref aM, .ref aO, .ref aI, .ref aT, .ref aE, .int ff])), (aM, .inl (kM, 384, .inl (nM Mm))), (aO, .inl (kO, 16, .inl (nM Ob))), (aI, .inl (kI, 16, .inl (nM (selM (gvB Mm 64 rx mx 0 && okL (Mm (64 + 8 * rx + 1))) (cpI Ib Mm (16 * (16 + rx)) (Mm (64 + 8 * rx + 1))) Ib)))), (aT, .inr (0, [.int (nI 0), .int (nI 8), .int (nI tx), .int (nI nx)])), (aE, .inr (0, [.int (nI 64), .int (nI 16), .int (nI (selN (gvB Mm 64 rx mx 0) ((rx + 1) % 8) rx)), .int (nI (selN (gvB Mm 64 rx mx 0) (mx - 1) mx))]))] := Eq.mp (congrArg (fun (z1 : Int32) => va_D A [(aR, .inr (1, [.ref aM, .ref aO, .ref aI, .ref aT, .ref aE, .int ff])), (aM, .inl (kM, 384, .inl (nM Mm))), (aO, .inl (kO, 16, .inl (nM Ob))), (aI, .inl (kI, 16, .inl (nM (selM (gvB Mm 64 rx mx 0 && okL (Mm (64 + 8 * rx + 1))) (cpI Ib Mm (16 * (16 + rx)) (Mm (64 + 8 * rx + 1))) Ib)))), (aT, .inr (0, [.int (nI 0), .int (nI 8), .int (nI tx), .int (nI nx)])), (aE, .inr (0, [.int (nI 64), .int (nI 16), .int (nI (selN (gvB Mm 64 rx mx 0) ((rx + 1) % 8) rx)), .int z1]))]) e_27) hD9
    subst eQ
    have e_28 : ((-1) : Int32) = sel (gvB Mm 64 rx mx 0) (sel (okL (Mm (64 + 8 * rx + 1))) (nI (Mm (64 + 8 * rx + 1))) (-3)) (-1) := sel_f hg
    exact W.iret (v := (-1)) hx hb hr (fun t ht hW => ⟨⟨_, (), rfl, e_28, by rw [ht]; exact hP9, va_K.moved hW.alike hK9, hD9⟩, hS.F ht⟩) hS.2.2 dX1_receive_13
end
section
set_option maxHeartbeats 4000000 in
set_option maxRecDepth 100000 in
theorem c_X1_init (l : Launch) (dC : Nat → ClassId) (dI : Nat → Nat → Nat) (aR : Nat) (sz : Nat)  : Met l yX1_init wsX1_init ({ frames := 2, cells := 5, slots := 424, locals := 34 }) (va_Pc [.ref aR] (fun U => U.heap.size = sz ∧ va_P (dC, dI) vwCl [(aR, .inr (1, [.null, .null, .null, .null, .null, .int 0]))] U.heap ∧ va_K (dC, dI) vwCl [] U ∧ va_D (fun _ => True) [(aR, .inr (1, [.null, .null, .null, .null, .null, .int 0]))])) (va_Qv (fun (_ : Nat × Nat × Nat × Nat × Nat × ClassId × ClassId × ClassId) => True) (fun u t => va_P (dC, dI) vwCl [(aR, .inr (1, [.ref u.1, .ref u.2.1, .ref u.2.2.1, .ref u.2.2.2.1, .ref u.2.2.2.2.1, .int (nI 0)])), (u.1, .inl (u.2.2.2.2.2.1, 384, .inl (nM ((fun _ => 0))))), (u.2.1, .inl (u.2.2.2.2.2.2.1, 16, .inl (nM ((fun _ => 0))))), (u.2.2.1, .inl (u.2.2.2.2.2.2.2, 16, .inl (nM ((fun _ => 0))))), (u.2.2.2.1, .inr (0, [.int (nI 0), .int (nI 8), .int (nI 0), .int (nI 0)])), (u.2.2.2.2.1, .inr (0, [.int (nI 64), .int (nI 16), .int (nI 0), .int (nI 0)]))] t.heap ∧ va_K (dC, dI) vwCl [(u.2.2.2.2.2.1, .int), (u.2.2.2.2.2.2.1, .int), (u.2.2.2.2.2.2.2, .int)] t ∧ va_D (va_A [(aR, .inr (1, [.null, .null, .null, .null, .null, .int 0]))] sz) [(aR, .inr (1, [.ref u.1, .ref u.2.1, .ref u.2.2.1, .ref u.2.2.2.1, .ref u.2.2.2.2.1, .int (nI 0)])), (u.1, .inl (u.2.2.2.2.2.1, 384, .inl (nM ((fun _ => 0))))), (u.2.1, .inl (u.2.2.2.2.2.2.1, 16, .inl (nM ((fun _ => 0))))), (u.2.2.1, .inl (u.2.2.2.2.2.2.2, 16, .inl (nM ((fun _ => 0))))), (u.2.2.2.1, .inr (0, [.int (nI 0), .int (nI 8), .int (nI 0), .int (nI 0)])), (u.2.2.2.2.1, .inr (0, [.int (nI 64), .int (nI 16), .int (nI 0), .int (nI 0)]))]) (va_A [(aR, .inr (1, [.null, .null, .null, .null, .null, .int 0]))] sz)) 5 424 (va_A [(aR, .inr (1, [.null, .null, .null, .null, .null, .int 0]))] sz) := by
  refine Met.ofW (cc := cX1_init) (maxL := 1) (ret := none) (by decide) rfl ?_
  intro p e s m args below meth c s₁ B hml hv
  obtain ⟨rfl, hsz, hP, hK, hD0⟩ := hv
  have hx := B.exec
  have hb := B.bytes
  have hr := B.returns
  have hts := atoms_spec (ws := wsX1_init) B.pre
  have hown : s.vm.findClass RX1 = some m.cls := findClass_of_methodNamed B.named
  have hlocks := B.notSynchronized
  have hin : meth.name = "<init>" := (name_of_methodNamed B.named B.method).1
  have hI0 : ∀ w ∈ u_ws RX0 TX0 4, w ∈ wsX1_init := by decide +kernel
  have hI1 : ∀ w ∈ u_ws RX1 TX1 6, w ∈ wsX1_init := by decide +kernel
  subst hsz
  have hD := hD0.self (sz := s.heap.size)
  generalize hAe : va_A [(aR, .inr (1, [.null, .null, .null, .null, .null, .int 0]))] s.heap.size = A at hD ⊢
  have hA : ∀ q : Nat, s.heap.size ≤ q → A q := fun q h => by rw [← hAe]; exact Or.inr h
  have hS : va_S A s.heap s.heap [] := va_S.rf
  have hP : va_P (dC, dI) vwCl [(aR, .inr (1, [.null, .null, .null, .null, .null, .int 0]))] s.heap := hP
  have hl := lv_entry ([.ref aR]) (n := 1) (Nat.le_of_ble_eq_true rfl)
  rw [lg_entry_eq]
  generalize (lg_sl ([.ref aR]) ++ List.replicate (1 - (lg_sl ([.ref aR])).length) Slot.unset).toArray = ls at hl ⊢
  have hl : lv_has ls 1 [(0, .ref aR)] := hl
  refine lv_aload_n hx hb dX1_init_0 rfl (lv_at hl 0 rfl) ?_
  refine W.objInit hx hb hown (hts (.methodLink RX1 1 objectInit) (by decide +kernel)) (hts (.instanceMethod objectInit) (by decide +kernel)) (hts (.code objectInit ⟨#[0xb1]⟩ 1 none) (by simp [wsX1_init])) rfl (by rw [hml]; exact hl.1) rfl dX1_init_1 (Nat.le_of_ble_eq_true rfl) (Nat.le_of_ble_eq_true rfl) ?_
  refine W.eq (g2 := F0 m 4 ls []) rfl ?_
  refine lv_aload_n hx hb dX1_init_4 rfl (lv_at hl 0 rfl) ?_
  refine lv_sipush (v := nI 384) hx hb dX1_init_5 (by decide +kernel) ?_
  refine va_newa (atype := .int) (ty := .int) (N' := 384) (a0 := (384, .inl (fun _ => (0 : Int32)))) hx hb (hts (.arrayClass .int) (by decide +kernel)) rfl hK hP hD hS hA (cellI 384) (nI_pos (by decide)) (nI_clamp (by decide)) (Nat.le_of_ble_eq_true rfl) (Nat.le_of_ble_eq_true rfl) (Nat.le_of_ble_eq_true rfl) dX1_init_8 (fun q_1 k_2 H hK hP hD hS => ?_)
  have hP : va_P (dC, dI) vwCl [(aR, .inr (1, [.null, .null, .null, .null, .null, .int 0])), (q_1, .inl (k_2, 384, .inl (fun _ => (0 : Int32))))] H := hP
  have hD : va_D A [(aR, .inr (1, [.null, .null, .null, .null, .null, .int 0])), (q_1, .inl (k_2, 384, .inl (fun _ => (0 : Int32))))] := hD
  have hK : va_K (dC, dI) vwCl [(k_2, .int)] s := hK
  refine W.widen (k := 1) (n := 384) (by omega) (by omega) ?_
  refine va_putF (D := (dC, dI)) (ci := 1) (v := .ref q_1) (ty := .array .int) (C := RX1) (T := TX1) (N := 6) hx hb hts hI1 tyX1 tyX1_ok nmX1 hown hK hP hD hS 0 rfl rfl 0 (by decide) (hts (.fieldLink RX1 9 "RingDriver" "memory" "[I") (by decide +kernel)) (fun _ h9 => h9) rfl hin rfl (by decide +kernel) rfl rfl (Nat.le_of_ble_eq_true rfl) dX1_init_10 (fun H locs hP hD hS => ?_)
  have hP : va_P (dC, dI) vwCl [(aR, .inr (1, [.ref q_1, .null, .null, .null, .null, .int 0])), (q_1, .inl (k_2, 384, .inl (fun _ => (0 : Int32))))] H := hP
  have hD : va_D A [(aR, .inr (1, [.ref q_1, .null, .null, .null, .null, .int 0])), (q_1, .inl (k_2, 384, .inl (fun _ => (0 : Int32))))] := hD
  refine lv_aload_n hx hb dX1_init_13 rfl (lv_at hl 0 rfl) ?_
  refine lv_bipush (v := nI 16) hx hb dX1_init_14 (by decide +kernel) ?_
  refine va_newa (atype := .int) (ty := .int) (N' := 16) (a0 := (16, .inl (fun _ => (0 : Int32)))) hx hb (hts (.arrayClass .int) (by decide +kernel)) rfl hK hP hD hS hA (cellI 16) (nI_pos (by decide)) (nI_clamp (by decide)) (Nat.le_of_ble_eq_true rfl) (Nat.le_of_ble_eq_true rfl) (Nat.le_of_ble_eq_true rfl) dX1_init_16 (fun q_3 k_4 H hK hP hD hS => ?_)
  have hP : va_P (dC, dI) vwCl [(aR, .inr (1, [.ref q_1, .null, .null, .null, .null, .int 0])), (q_1, .inl (k_2, 384, .inl (fun _ => (0 : Int32)))), (q_3, .inl (k_4, 16, .inl (fun _ => (0 : Int32))))] H := hP
  have hD : va_D A [(aR, .inr (1, [.ref q_1, .null, .null, .null, .null, .int 0])), (q_1, .inl (k_2, 384, .inl (fun _ => (0 : Int32)))), (q_3, .inl (k_4, 16, .inl (fun _ => (0 : Int32))))] := hD
  have hK : va_K (dC, dI) vwCl [(k_2, .int), (k_4, .int)] s := hK
  refine W.widen (k := 2) (n := 400) (by omega) (by omega) ?_
  refine va_putF (D := (dC, dI)) (ci := 1) (v := .ref q_3) (ty := .array .int) (C := RX1) (T := TX1) (N := 6) hx hb hts hI1 tyX1 tyX1_ok nmX1 hown hK hP hD hS 0 rfl rfl 1 (by decide) (hts (.fieldLink RX1 13 "RingDriver" "outBox" "[I") (by decide +kernel)) (fun _ h9 => h9) rfl hin rfl (by decide +kernel) rfl rfl (Nat.le_of_ble_eq_true rfl) dX1_init_18 (fun H locs hP hD hS => ?_)
  have hP : va_P (dC, dI) vwCl [(aR, .inr (1, [.ref q_1, .ref q_3, .null, .null, .null, .int 0])), (q_1, .inl (k_2, 384, .inl (fun _ => (0 : Int32)))), (q_3, .inl (k_4, 16, .inl (fun _ => (0 : Int32))))] H := hP
  have hD : va_D A [(aR, .inr (1, [.ref q_1, .ref q_3, .null, .null, .null, .int 0])), (q_1, .inl (k_2, 384, .inl (fun _ => (0 : Int32)))), (q_3, .inl (k_4, 16, .inl (fun _ => (0 : Int32))))] := hD
  refine lv_aload_n hx hb dX1_init_21 rfl (lv_at hl 0 rfl) ?_
  refine lv_bipush (v := nI 16) hx hb dX1_init_22 (by decide +kernel) ?_
  refine va_newa (atype := .int) (ty := .int) (N' := 16) (a0 := (16, .inl (fun _ => (0 : Int32)))) hx hb (hts (.arrayClass .int) (by decide +kernel)) rfl hK hP hD hS hA (cellI 16) (nI_pos (by decide)) (nI_clamp (by decide)) (Nat.le_of_ble_eq_true rfl) (Nat.le_of_ble_eq_true rfl) (Nat.le_of_ble_eq_true rfl) dX1_init_24 (fun q_5 k_6 H hK hP hD hS => ?_)
  have hP : va_P (dC, dI) vwCl [(aR, .inr (1, [.ref q_1, .ref q_3, .null, .null, .null, .int 0])), (q_1, .inl (k_2, 384, .inl (fun _ => (0 : Int32)))), (q_3, .inl (k_4, 16, .inl (fun _ => (0 : Int32)))), (q_5, .inl (k_6, 16, .inl (fun _ => (0 : Int32))))] H := hP
  have hD : va_D A [(aR, .inr (1, [.ref q_1, .ref q_3, .null, .null, .null, .int 0])), (q_1, .inl (k_2, 384, .inl (fun _ => (0 : Int32)))), (q_3, .inl (k_4, 16, .inl (fun _ => (0 : Int32)))), (q_5, .inl (k_6, 16, .inl (fun _ => (0 : Int32))))] := hD
  have hK : va_K (dC, dI) vwCl [(k_2, .int), (k_4, .int), (k_6, .int)] s := hK
  refine W.widen (k := 3) (n := 416) (by omega) (by omega) ?_
  refine va_putF (D := (dC, dI)) (ci := 1) (v := .ref q_5) (ty := .array .int) (C := RX1) (T := TX1) (N := 6) hx hb hts hI1 tyX1 tyX1_ok nmX1 hown hK hP hD hS 0 rfl rfl 2 (by decide) (hts (.fieldLink RX1 16 "RingDriver" "inBox" "[I") (by decide +kernel)) (fun _ h9 => h9) rfl hin rfl (by decide +kernel) rfl rfl (Nat.le_of_ble_eq_true rfl) dX1_init_26 (fun H locs hP hD hS => ?_)
  have hP : va_P (dC, dI) vwCl [(aR, .inr (1, [.ref q_1, .ref q_3, .ref q_5, .null, .null, .int 0])), (q_1, .inl (k_2, 384, .inl (fun _ => (0 : Int32)))), (q_3, .inl (k_4, 16, .inl (fun _ => (0 : Int32)))), (q_5, .inl (k_6, 16, .inl (fun _ => (0 : Int32))))] H := hP
  have hD : va_D A [(aR, .inr (1, [.ref q_1, .ref q_3, .ref q_5, .null, .null, .int 0])), (q_1, .inl (k_2, 384, .inl (fun _ => (0 : Int32)))), (q_3, .inl (k_4, 16, .inl (fun _ => (0 : Int32)))), (q_5, .inl (k_6, 16, .inl (fun _ => (0 : Int32))))] := hD
  refine lv_aload_n hx hb dX1_init_29 rfl (lv_at hl 0 rfl) ?_
  refine va_new (ci := 0) (fs := [.int 0, .int 0, .int 0, .int 0]) (C := RX0) (T := TX0) (N := 4) hx hb hts hI0 tyX0 tyX0_ok hown (hts (.classLink RX1 19 RX0) (by decide +kernel)) (hts (.instantiable RX0 4) (by decide +kernel)) (hts (.initialized RX0) (by decide +kernel)) hK hP hD hS hA rfl (fun j hj => by rcases (show j = 0 ∨ j = 1 ∨ j = 2 ∨ j = 3 by omega) with rfl | rfl | rfl | rfl <;> rfl) (Nat.le_of_ble_eq_true rfl) (Nat.le_of_ble_eq_true rfl) dX1_init_30 (fun q_7 H hP hD hS => ?_)
  have hP : va_P (dC, dI) vwCl [(aR, .inr (1, [.ref q_1, .ref q_3, .ref q_5, .null, .null, .int 0])), (q_1, .inl (k_2, 384, .inl (fun _ => (0 : Int32)))), (q_3, .inl (k_4, 16, .inl (fun _ => (0 : Int32)))), (q_5, .inl (k_6, 16, .inl (fun _ => (0 : Int32)))), (q_7, .inr (0, [.int 0, .int 0, .int 0, .int 0]))] H := hP
  have hD : va_D A [(aR, .inr (1, [.ref q_1, .ref q_3, .ref q_5, .null, .null, .int 0])), (q_1, .inl (k_2, 384, .inl (fun _ => (0 : Int32)))), (q_3, .inl (k_4, 16, .inl (fun _ => (0 : Int32)))), (q_5, .inl (k_6, 16, .inl (fun _ => (0 : Int32)))), (q_7, .inr (0, [.int 0, .int 0, .int 0, .int 0]))] := hD
  refine W.widen (k := 4) (n := 420) (by omega) (by omega) ?_
  refine lv_dup hx hb dX1_init_33 rfl ?_
  refine lv_iconst (v := nI 0) hx hb dX1_init_34 (by decide +kernel) ?_
  refine lv_bipush (v := nI 8) hx hb dX1_init_35 (by decide +kernel) ?_
  have hPc := hP.sub (ws' := [(q_7, .inr (0, [.int 0, .int 0, .int 0, .int 0]))]) [4] rfl
  have hDc := hD.sub (ws' := [(q_7, .inr (0, [.int 0, .int 0, .int 0, .int 0]))]) [4] (by decide) rfl
  have hKc := hK.sub (tys' := []) [] rfl
  have hFc := va_free (wc := [(q_7, .inr (0, [.int 0, .int 0, .int 0, .int 0]))]) hD hS hA [4] rfl
  refine va_callv (va_runI (As := [.int (nI 0), .int (nI 8)]) (rest := [.ref q_7, .ref aR]) ⟨hx, hb, hml, hown, hts⟩ (c_X0_init l dC dI q_7 0 8 H.size ) (cwI 2 hts gX1_init_X0_init rfl rfl rfl (hts (.initialized RX0) (by decide +kernel)) (hts (.methodLink RX1 21 yX0_init) (by decide +kernel)) (hts (.instanceMethod yX0_init) (by decide +kernel)) rfl (by decide +kernel) ⟨Nat.le_of_ble_eq_true rfl, Nat.le_of_ble_eq_true rfl⟩) ⟨fun a U g mk q => by obtain ⟨q0, q1, qP, qK, qD⟩ := q; exact ⟨q0, q1, qP, va_K.moved (u := U) (U := U.calling g mk a) (Vm.Alike.refl U.vm) qK, qD⟩, fun U hU hW => ⟨rfl, by rw [hU], by rw [hU]; exact hPc, va_K.moved hW.alike hKc, hDc.weaken (fun _ _ _ _ => trivial)⟩⟩ rfl rfl hl.1 rfl (lv_room (Nat.le_of_ble_eq_true rfl)) dX1_init_37 ⟨Nat.le_of_ble_eq_true rfl, Nat.le_of_ble_eq_true rfl⟩) hS (fun q _ h => hFc q h) hFc (fun u t H1 locs ht hvm hw hB hz1 hk1 hS => ?_)
  obtain ⟨hP1, hK1, hD1⟩ := hB
  rw [ht] at hP1
  have hK1 := va_K.moved hvm.symm hK1
  obtain ⟨hP, hD⟩ := va_join (wr := [(aR, .inr (1, [.ref q_1, .ref q_3, .ref q_5, .null, .null, .int 0])), (q_1, .inl (k_2, 384, .inl (fun _ => (0 : Int32)))), (q_3, .inl (k_4, 16, .inl (fun _ => (0 : Int32)))), (q_5, .inl (k_6, 16, .inl (fun _ => (0 : Int32))))]) (w1 := [(q_7, .inr (0, [.int (nI 0), .int (nI 8), .int (nI 0), .int (nI 0)]))]) hP hD [4] [0, 1, 2, 3] rfl rfl (by decide) (by decide) hk1 hFc hP1 hD1
  have hK := (hK.sub (tys' := [(k_2, .int), (k_4, .int), (k_6, .int)]) [0, 1, 2] rfl).app hK1
  generalize H1 = H at hP hS ⊢
  have hP : va_P (dC, dI) vwCl [(aR, .inr (1, [.ref q_1, .ref q_3, .ref q_5, .null, .null, .int 0])), (q_1, .inl (k_2, 384, .inl (fun _ => (0 : Int32)))), (q_3, .inl (k_4, 16, .inl (fun _ => (0 : Int32)))), (q_5, .inl (k_6, 16, .inl (fun _ => (0 : Int32)))), (q_7, .inr (0, [.int (nI 0), .int (nI 8), .int (nI 0), .int (nI 0)]))] H := hP
  have hD : va_D A [(aR, .inr (1, [.ref q_1, .ref q_3, .ref q_5, .null, .null, .int 0])), (q_1, .inl (k_2, 384, .inl (fun _ => (0 : Int32)))), (q_3, .inl (k_4, 16, .inl (fun _ => (0 : Int32)))), (q_5, .inl (k_6, 16, .inl (fun _ => (0 : Int32)))), (q_7, .inr (0, [.int (nI 0), .int (nI 8), .int (nI 0), .int (nI 0)]))] := hD
  have hK : va_K (dC, dI) vwCl [(k_2, .int), (k_4, .int), (k_6, .int)] s := hK
  refine va_putF (D := (dC, dI)) (ci := 1) (v := .ref q_7) (ty := .object "RingDriver$SlotQueue") (C := RX1) (T := TX1) (N := 6) hx hb hts hI1 tyX1 tyX1_ok nmX1 hown hK hP hD hS 0 rfl rfl 3 (by decide) (hts (.fieldLink RX1 24 "RingDriver" "transmitQueue" "LRingDriver$SlotQueue;") (by decide +kernel)) (fun _ h9 => h9) rfl hin rfl (by decide +kernel) rfl rfl (Nat.le_of_ble_eq_true rfl) dX1_init_40 (fun H locs hP hD hS => ?_)
  have hP : va_P (dC, dI) vwCl [(aR, .inr (1, [.ref q_1, .ref q_3, .ref q_5, .ref q_7, .null, .int 0])), (q_1, .inl (k_2, 384, .inl (fun _ => (0 : Int32)))), (q_3, .inl (k_4, 16, .inl (fun _ => (0 : Int32)))), (q_5, .inl (k_6, 16, .inl (fun _ => (0 : Int32)))), (q_7, .inr (0, [.int (nI 0), .int (nI 8), .int (nI 0), .int (nI 0)]))] H := hP
  have hD : va_D A [(aR, .inr (1, [.ref q_1, .ref q_3, .ref q_5, .ref q_7, .null, .int 0])), (q_1, .inl (k_2, 384, .inl (fun _ => (0 : Int32)))), (q_3, .inl (k_4, 16, .inl (fun _ => (0 : Int32)))), (q_5, .inl (k_6, 16, .inl (fun _ => (0 : Int32)))), (q_7, .inr (0, [.int (nI 0), .int (nI 8), .int (nI 0), .int (nI 0)]))] := hD
  refine lv_aload_n hx hb dX1_init_43 rfl (lv_at hl 0 rfl) ?_
  refine va_new (ci := 0) (fs := [.int 0, .int 0, .int 0, .int 0]) (C := RX0) (T := TX0) (N := 4) hx hb hts hI0 tyX0 tyX0_ok hown (hts (.classLink RX1 19 RX0) (by decide +kernel)) (hts (.instantiable RX0 4) (by decide +kernel)) (hts (.initialized RX0) (by decide +kernel)) hK hP hD hS hA rfl (fun j hj => by rcases (show j = 0 ∨ j = 1 ∨ j = 2 ∨ j = 3 by omega) with rfl | rfl | rfl | rfl <;> rfl) (Nat.le_of_ble_eq_true rfl) (Nat.le_of_ble_eq_true rfl) dX1_init_44 (fun q_9 H hP hD hS => ?_)
  have hP : va_P (dC, dI) vwCl [(aR, .inr (1, [.ref q_1, .ref q_3, .ref q_5, .ref q_7, .null, .int 0])), (q_1, .inl (k_2, 384, .inl (fun _ => (0 : Int32)))), (q_3, .inl (k_4, 16, .inl (fun _ => (0 : Int32)))), (q_5, .inl (k_6, 16, .inl (fun _ => (0 : Int32)))), (q_7, .inr (0, [.int (nI 0), .int (nI 8), .int (nI 0), .int (nI 0)])), (q_9, .inr (0, [.int 0, .int 0, .int 0, .int 0]))] H := hP
  have hD : va_D A [(aR, .inr (1, [.ref q_1, .ref q_3, .ref q_5, .ref q_7, .null, .int 0])), (q_1, .inl (k_2, 384, .inl (fun _ => (0 : Int32)))), (q_3, .inl (k_4, 16, .inl (fun _ => (0 : Int32)))), (q_5, .inl (k_6, 16, .inl (fun _ => (0 : Int32)))), (q_7, .inr (0, [.int (nI 0), .int (nI 8), .int (nI 0), .int (nI 0)])), (q_9, .inr (0, [.int 0, .int 0, .int 0, .int 0]))] := hD
  refine W.widen (k := 5) (n := 424) (by omega) (by omega) ?_
  refine lv_dup hx hb dX1_init_47 rfl ?_
  refine lv_bipush (v := nI 64) hx hb dX1_init_48 (by decide +kernel) ?_
  refine lv_bipush (v := nI 16) hx hb dX1_init_50 (by decide +kernel) ?_
  have hPc := hP.sub (ws' := [(q_9, .inr (0, [.int 0, .int 0, .int 0, .int 0]))]) [5] rfl
  have hDc := hD.sub (ws' := [(q_9, .inr (0, [.int 0, .int 0, .int 0, .int 0]))]) [5] (by decide) rfl
  have hKc := hK.sub (tys' := []) [] rfl
  have hFc := va_free (wc := [(q_9, .inr (0, [.int 0, .int 0, .int 0, .int 0]))]) hD hS hA [5] rfl
  refine va_callv (va_runI (As := [.int (nI 64), .int (nI 16)]) (rest := [.ref q_9, .ref aR]) ⟨hx, hb, hml, hown, hts⟩ (c_X0_init l dC dI q_9 64 16 H.size ) (cwI 2 hts gX1_init_X0_init rfl rfl rfl (hts (.initialized RX0) (by decide +kernel)) (hts (.methodLink RX1 21 yX0_init) (by decide +kernel)) (hts (.instanceMethod yX0_init) (by decide +kernel)) rfl (by decide +kernel) ⟨Nat.le_of_ble_eq_true rfl, Nat.le_of_ble_eq_true rfl⟩) ⟨fun a U g mk q => by obtain ⟨q0, q1, qP, qK, qD⟩ := q; exact ⟨q0, q1, qP, va_K.moved (u := U) (U := U.calling g mk a) (Vm.Alike.refl U.vm) qK, qD⟩, fun U hU hW => ⟨rfl, by rw [hU], by rw [hU]; exact hPc, va_K.moved hW.alike hKc, hDc.weaken (fun _ _ _ _ => trivial)⟩⟩ rfl rfl hl.1 rfl (lv_room (Nat.le_of_ble_eq_true rfl)) dX1_init_52 ⟨Nat.le_of_ble_eq_true rfl, Nat.le_of_ble_eq_true rfl⟩) hS (fun q _ h => hFc q h) hFc (fun u t H1 locs ht hvm hw hB hz1 hk1 hS => ?_)
  obtain ⟨hP1, hK1, hD1⟩ := hB
  rw [ht] at hP1
  have hK1 := va_K.moved hvm.symm hK1
  obtain ⟨hP, hD⟩ := va_join (wr := [(aR, .inr (1, [.ref q_1, .ref q_3, .ref q_5, .ref q_7, .null, .int 0])), (q_1, .inl (k_2, 384, .inl (fun _ => (0 : Int32)))), (q_3, .inl (k_4, 16, .inl (fun _ => (0 : Int32)))), (q_5, .inl (k_6, 16, .inl (fun _ => (0 : Int32)))), (q_7, .inr (0, [.int (nI 0), .int (nI 8), .int (nI 0), .int (nI 0)]))]) (w1 := [(q_9, .inr (0, [.int (nI 64), .int (nI 16), .int (nI 0), .int (nI 0)]))]) hP hD [5] [0, 1, 2, 3, 4] rfl rfl (by decide) (by decide) hk1 hFc hP1 hD1
  have hK := (hK.sub (tys' := [(k_2, .int), (k_4, .int), (k_6, .int)]) [0, 1, 2] rfl).app hK1
  generalize H1 = H at hP hS ⊢
  have hP : va_P (dC, dI) vwCl [(aR, .inr (1, [.ref q_1, .ref q_3, .ref q_5, .ref q_7, .null, .int 0])), (q_1, .inl (k_2, 384, .inl (fun _ => (0 : Int32)))), (q_3, .inl (k_4, 16, .inl (fun _ => (0 : Int32)))), (q_5, .inl (k_6, 16, .inl (fun _ => (0 : Int32)))), (q_7, .inr (0, [.int (nI 0), .int (nI 8), .int (nI 0), .int (nI 0)])), (q_9, .inr (0, [.int (nI 64), .int (nI 16), .int (nI 0), .int (nI 0)]))] H := hP
  have hD : va_D A [(aR, .inr (1, [.ref q_1, .ref q_3, .ref q_5, .ref q_7, .null, .int 0])), (q_1, .inl (k_2, 384, .inl (fun _ => (0 : Int32)))), (q_3, .inl (k_4, 16, .inl (fun _ => (0 : Int32)))), (q_5, .inl (k_6, 16, .inl (fun _ => (0 : Int32)))), (q_7, .inr (0, [.int (nI 0), .int (nI 8), .int (nI 0), .int (nI 0)])), (q_9, .inr (0, [.int (nI 64), .int (nI 16), .int (nI 0), .int (nI 0)]))] := hD
  have hK : va_K (dC, dI) vwCl [(k_2, .int), (k_4, .int), (k_6, .int)] s := hK
  refine va_putF (D := (dC, dI)) (ci := 1) (v := .ref q_9) (ty := .object "RingDriver$SlotQueue") (C := RX1) (T := TX1) (N := 6) hx hb hts hI1 tyX1 tyX1_ok nmX1 hown hK hP hD hS 0 rfl rfl 4 (by decide) (hts (.fieldLink RX1 28 "RingDriver" "receiveQueue" "LRingDriver$SlotQueue;") (by decide +kernel)) (fun _ h9 => h9) rfl hin rfl (by decide +kernel) rfl rfl (Nat.le_of_ble_eq_true rfl) dX1_init_55 (fun H locs hP hD hS => ?_)
  have hP : va_P (dC, dI) vwCl [(aR, .inr (1, [.ref q_1, .ref q_3, .ref q_5, .ref q_7, .ref q_9, .int 0])), (q_1, .inl (k_2, 384, .inl (fun _ => (0 : Int32)))), (q_3, .inl (k_4, 16, .inl (fun _ => (0 : Int32)))), (q_5, .inl (k_6, 16, .inl (fun _ => (0 : Int32)))), (q_7, .inr (0, [.int (nI 0), .int (nI 8), .int (nI 0), .int (nI 0)])), (q_9, .inr (0, [.int (nI 64), .int (nI 16), .int (nI 0), .int (nI 0)]))] H := hP
  have hD : va_D A [(aR, .inr (1, [.ref q_1, .ref q_3, .ref q_5, .ref q_7, .ref q_9, .int 0])), (q_1, .inl (k_2, 384, .inl (fun _ => (0 : Int32)))), (q_3, .inl (k_4, 16, .inl (fun _ => (0 : Int32)))), (q_5, .inl (k_6, 16, .inl (fun _ => (0 : Int32)))), (q_7, .inr (0, [.int (nI 0), .int (nI 8), .int (nI 0), .int (nI 0)])), (q_9, .inr (0, [.int (nI 64), .int (nI 16), .int (nI 0), .int (nI 0)]))] := hD
  refine lv_aload_n hx hb dX1_init_58 rfl (lv_at hl 0 rfl) ?_
  refine lv_iconst (v := nI 0) hx hb dX1_init_59 (by decide +kernel) ?_
  refine va_put (D := (dC, dI)) (ci := 1) (v := .int (nI 0)) (ty := .int) (C := RX1) (T := TX1) (N := 6) hx hb hts hI1 tyX1 tyX1_ok nmX1 hown hK hP hD hS 0 rfl rfl 5 (by decide) (hts (.fieldLink RX1 31 "RingDriver" "faultCount" "I") (by decide +kernel)) (fun _ h9 => h9) rfl (by decide +kernel) rfl rfl (Nat.le_of_ble_eq_true rfl) dX1_init_60 (fun H locs hP hD hS => ?_)
  have hP : va_P (dC, dI) vwCl [(aR, .inr (1, [.ref q_1, .ref q_3, .ref q_5, .ref q_7, .ref q_9, .int (nI 0)])), (q_1, .inl (k_2, 384, .inl (fun _ => (0 : Int32)))), (q_3, .inl (k_4, 16, .inl (fun _ => (0 : Int32)))), (q_5, .inl (k_6, 16, .inl (fun _ => (0 : Int32)))), (q_7, .inr (0, [.int (nI 0), .int (nI 8), .int (nI 0), .int (nI 0)])), (q_9, .inr (0, [.int (nI 64), .int (nI 16), .int (nI 0), .int (nI 0)]))] H := hP
  have hD : va_D A [(aR, .inr (1, [.ref q_1, .ref q_3, .ref q_5, .ref q_7, .ref q_9, .int (nI 0)])), (q_1, .inl (k_2, 384, .inl (fun _ => (0 : Int32)))), (q_3, .inl (k_4, 16, .inl (fun _ => (0 : Int32)))), (q_5, .inl (k_6, 16, .inl (fun _ => (0 : Int32)))), (q_7, .inr (0, [.int (nI 0), .int (nI 8), .int (nI 0), .int (nI 0)])), (q_9, .inr (0, [.int (nI 64), .int (nI 16), .int (nI 0), .int (nI 0)]))] := hD
  have hP9 := hP.sub (ws' := [(aR, .inr (1, [.ref q_1, .ref q_3, .ref q_5, .ref q_7, .ref q_9, .int (nI 0)])), (q_1, .inl (k_2, 384, .inl (fun _ => (0 : Int32)))), (q_3, .inl (k_4, 16, .inl (fun _ => (0 : Int32)))), (q_5, .inl (k_6, 16, .inl (fun _ => (0 : Int32)))), (q_7, .inr (0, [.int (nI 0), .int (nI 8), .int (nI 0), .int (nI 0)])), (q_9, .inr (0, [.int (nI 64), .int (nI 16), .int (nI 0), .int (nI 0)]))]) [0, 1, 2, 3, 4, 5] rfl
  have hD9 := hD.sub (ws' := [(aR, .inr (1, [.ref q_1, .ref q_3, .ref q_5, .ref q_7, .ref q_9, .int (nI 0)])), (q_1, .inl (k_2, 384, .inl (fun _ => (0 : Int32)))), (q_3, .inl (k_4, 16, .inl (fun _ => (0 : Int32)))), (q_5, .inl (k_6, 16, .inl (fun _ => (0 : Int32)))), (q_7, .inr (0, [.int (nI 0), .int (nI 8), .int (nI 0), .int (nI 0)])), (q_9, .inr (0, [.int (nI 64), .int (nI 16), .int (nI 0), .int (nI 0)]))]) [0, 1, 2, 3, 4, 5] (by decide) rfl
  have hK9 := hK.sub (tys' := [(k_2, .int), (k_4, .int), (k_6, .int)]) [0, 1, 2] rfl
  have e_11 : (fun _ => (0 : Int32)) = nM ((fun _ => 0)) := M0_n
  have e_12 : (fun _ => (0 : Int32)) = nM ((fun _ => 0)) := M0_n
  have e_13 : (fun _ => (0 : Int32)) = nM ((fun _ => 0)) := M0_n
  have hP9 : va_P (dC, dI) vwCl [(aR, .inr (1, [.ref q_1, .ref q_3, .ref q_5, .ref q_7, .ref q_9, .int (nI 0)])), (q_1, .inl (k_2, 384, .inl (nM ((fun _ => 0))))), (q_3, .inl (k_4, 16, .inl (fun _ => (0 : Int32)))), (q_5, .inl (k_6, 16, .inl (fun _ => (0 : Int32)))), (q_7, .inr (0, [.int (nI 0), .int (nI 8), .int (nI 0), .int (nI 0)])), (q_9, .inr (0, [.int (nI 64), .int (nI 16), .int (nI 0), .int (nI 0)]))] H := Eq.mp (congrArg (fun (z1 : Nat → Int32) => va_P (dC, dI) vwCl [(aR, .inr (1, [.ref q_1, .ref q_3, .ref q_5, .ref q_7, .ref q_9, .int (nI 0)])), (q_1, .inl (k_2, 384, .inl z1)), (q_3, .inl (k_4, 16, .inl (fun _ => (0 : Int32)))), (q_5, .inl (k_6, 16, .inl (fun _ => (0 : Int32)))), (q_7, .inr (0, [.int (nI 0), .int (nI 8), .int (nI 0), .int (nI 0)])), (q_9, .inr (0, [.int (nI 64), .int (nI 16), .int (nI 0), .int (nI 0)]))] H) e_11) hP9
  have hD9 : va_D A [(aR, .inr (1, [.ref q_1, .ref q_3, .ref q_5, .ref q_7, .ref q_9, .int (nI 0)])), (q_1, .inl (k_2, 384, .inl (nM ((fun _ => 0))))), (q_3, .inl (k_4, 16, .inl (fun _ => (0 : Int32)))), (q_5, .inl (k_6, 16, .inl (fun _ => (0 : Int32)))), (q_7, .inr (0, [.int (nI 0), .int (nI 8), .int (nI 0), .int (nI 0)])), (q_9, .inr (0, [.int (nI 64), .int (nI 16), .int (nI 0), .int (nI 0)]))] := Eq.mp (congrArg (fun (z1 : Nat → Int32) => va_D A [(aR, .inr (1, [.ref q_1, .ref q_3, .ref q_5, .ref q_7, .ref q_9, .int (nI 0)])), (q_1, .inl (k_2, 384, .inl z1)), (q_3, .inl (k_4, 16, .inl (fun _ => (0 : Int32)))), (q_5, .inl (k_6, 16, .inl (fun _ => (0 : Int32)))), (q_7, .inr (0, [.int (nI 0), .int (nI 8), .int (nI 0), .int (nI 0)])), (q_9, .inr (0, [.int (nI 64), .int (nI 16), .int (nI 0), .int (nI 0)]))]) e_11) hD9
  have hP9 : va_P (dC, dI) vwCl [(aR, .inr (1, [.ref q_1, .ref q_3, .ref q_5, .ref q_7, .ref q_9, .int (nI 0)])), (q_1, .inl (k_2, 384, .inl (nM ((fun _ => 0))))), (q_3, .inl (k_4, 16, .inl (nM ((fun _ => 0))))), (q_5, .inl (k_6, 16, .inl (fun _ => (0 : Int32)))), (q_7, .inr (0, [.int (nI 0), .int (nI 8), .int (nI 0), .int (nI 0)])), (q_9, .inr (0, [.int (nI 64), .int (nI 16), .int (nI 0), .int (nI 0)]))] H := Eq.mp (congrArg (fun (z1 : Nat → Int32) => va_P (dC, dI) vwCl [(aR, .inr (1, [.ref q_1, .ref q_3, .ref q_5, .ref q_7, .ref q_9, .int (nI 0)])), (q_1, .inl (k_2, 384, .inl (nM ((fun _ => 0))))), (q_3, .inl (k_4, 16, .inl z1)), (q_5, .inl (k_6, 16, .inl (fun _ => (0 : Int32)))), (q_7, .inr (0, [.int (nI 0), .int (nI 8), .int (nI 0), .int (nI 0)])), (q_9, .inr (0, [.int (nI 64), .int (nI 16), .int (nI 0), .int (nI 0)]))] H) e_12) hP9
  have hD9 : va_D A [(aR, .inr (1, [.ref q_1, .ref q_3, .ref q_5, .ref q_7, .ref q_9, .int (nI 0)])), (q_1, .inl (k_2, 384, .inl (nM ((fun _ => 0))))), (q_3, .inl (k_4, 16, .inl (nM ((fun _ => 0))))), (q_5, .inl (k_6, 16, .inl (fun _ => (0 : Int32)))), (q_7, .inr (0, [.int (nI 0), .int (nI 8), .int (nI 0), .int (nI 0)])), (q_9, .inr (0, [.int (nI 64), .int (nI 16), .int (nI 0), .int (nI 0)]))] := Eq.mp (congrArg (fun (z1 : Nat → Int32) => va_D A [(aR, .inr (1, [.ref q_1, .ref q_3, .ref q_5, .ref q_7, .ref q_9, .int (nI 0)])), (q_1, .inl (k_2, 384, .inl (nM ((fun _ => 0))))), (q_3, .inl (k_4, 16, .inl z1)), (q_5, .inl (k_6, 16, .inl (fun _ => (0 : Int32)))), (q_7, .inr (0, [.int (nI 0), .int (nI 8), .int (nI 0), .int (nI 0)])), (q_9, .inr (0, [.int (nI 64), .int (nI 16), .int (nI 0), .int (nI 0)]))]) e_12) hD9
  have hP9 : va_P (dC, dI) vwCl [(aR, .inr (1, [.ref q_1, .ref q_3, .ref q_5, .ref q_7, .ref q_9, .int (nI 0)])), (q_1, .inl (k_2, 384, .inl (nM ((fun _ => 0))))), (q_3, .inl (k_4, 16, .inl (nM ((fun _ => 0))))), (q_5, .inl (k_6, 16, .inl (nM ((fun _ => 0))))), (q_7, .inr (0, [.int (nI 0), .int (nI 8), .int (nI 0), .int (nI 0)])), (q_9, .inr (0, [.int (nI 64), .int (nI 16), .int (nI 0), .int (nI 0)]))] H := Eq.mp (congrArg (fun (z1 : Nat → Int32) => va_P (dC, dI) vwCl [(aR, .inr (1, [.ref q_1, .ref q_3, .ref q_5, .ref q_7, .ref q_9, .int (nI 0)])), (q_1, .inl (k_2, 384, .inl (nM ((fun _ => 0))))), (q_3, .inl (k_4, 16, .inl (nM ((fun _ => 0))))), (q_5, .inl (k_6, 16, .inl z1)), (q_7, .inr (0, [.int (nI 0), .int (nI 8), .int (nI 0), .int (nI 0)])), (q_9, .inr (0, [.int (nI 64), .int (nI 16), .int (nI 0), .int (nI 0)]))] H) e_13) hP9
  have hD9 : va_D A [(aR, .inr (1, [.ref q_1, .ref q_3, .ref q_5, .ref q_7, .ref q_9, .int (nI 0)])), (q_1, .inl (k_2, 384, .inl (nM ((fun _ => 0))))), (q_3, .inl (k_4, 16, .inl (nM ((fun _ => 0))))), (q_5, .inl (k_6, 16, .inl (nM ((fun _ => 0))))), (q_7, .inr (0, [.int (nI 0), .int (nI 8), .int (nI 0), .int (nI 0)])), (q_9, .inr (0, [.int (nI 64), .int (nI 16), .int (nI 0), .int (nI 0)]))] := Eq.mp (congrArg (fun (z1 : Nat → Int32) => va_D A [(aR, .inr (1, [.ref q_1, .ref q_3, .ref q_5, .ref q_7, .ref q_9, .int (nI 0)])), (q_1, .inl (k_2, 384, .inl (nM ((fun _ => 0))))), (q_3, .inl (k_4, 16, .inl (nM ((fun _ => 0))))), (q_5, .inl (k_6, 16, .inl z1)), (q_7, .inr (0, [.int (nI 0), .int (nI 8), .int (nI 0), .int (nI 0)])), (q_9, .inr (0, [.int (nI 64), .int (nI 16), .int (nI 0), .int (nI 0)]))]) e_13) hD9
  exact W.vret hx hb hr (fun t ht hW => ⟨⟨(q_1, q_3, q_5, q_7, q_9, k_2, k_4, k_6), rfl, trivial, by rw [ht]; exact hP9, va_K.moved hW.alike hK9, hD9⟩, hS.F ht⟩) hS.2.2 dX1_init_63
end
