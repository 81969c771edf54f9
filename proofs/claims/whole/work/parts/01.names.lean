-- ===== PART A: goes FIRST, ahead of the names: the tables' words, and 'selects' of the private methods out of them =====
/-- a private method of a class that the tables say can be made, by its rows of tables_1 -/
def lw_okq (q : MethodName × Nat) : Prop := (q.1.cls ≠ "java/lang/invoke/MethodHandle" ∧ q.1.cls ≠ "java/lang/invoke/VarHandle") ∧ Cond.instantiable q.1.cls q.2 ∈ tables_1 ∧ Cond.privateMethod q.1 ∈ tables_1 ∧ Cond.instanceMethod q.1 ∈ tables_1
theorem lw_p0 : lw_okq (⟨"RingDriver", "fault", "()I"⟩, 6) := ⟨⟨by decide +kernel, by decide +kernel⟩, List.mem_of_getElem? (i := 5) (by decide +kernel), List.mem_of_getElem? (i := 63) (by decide +kernel), List.mem_of_getElem? (i := 64) (by decide +kernel)⟩
theorem lw_p1 : lw_okq (⟨"RingDriver", "postNext", "(LRingDriver$SlotQueue;I)I"⟩, 6) := ⟨⟨by decide +kernel, by decide +kernel⟩, List.mem_of_getElem? (i := 5) (by decide +kernel), List.mem_of_getElem? (i := 86) (by decide +kernel), List.mem_of_getElem? (i := 87) (by decide +kernel)⟩
theorem lw_p2 : lw_okq (⟨"RingDriver", "fillBuffer", "(II)V"⟩, 6) := ⟨⟨by decide +kernel, by decide +kernel⟩, List.mem_of_getElem? (i := 5) (by decide +kernel), List.mem_of_getElem? (i := 106) (by decide +kernel), List.mem_of_getElem? (i := 107) (by decide +kernel)⟩
theorem lw_p3 : lw_okq (⟨"RingDriver", "fillDescriptor", "(III)V"⟩, 6) := ⟨⟨by decide +kernel, by decide +kernel⟩, List.mem_of_getElem? (i := 5) (by decide +kernel), List.mem_of_getElem? (i := 115) (by decide +kernel), List.mem_of_getElem? (i := 116) (by decide +kernel)⟩
theorem lw_p4 : lw_okq (⟨"RingDriver", "isGivenBack", "(LRingDriver$SlotQueue;I)Z"⟩, 6) := ⟨⟨by decide +kernel, by decide +kernel⟩, List.mem_of_getElem? (i := 5) (by decide +kernel), List.mem_of_getElem? (i := 128) (by decide +kernel), List.mem_of_getElem? (i := 129) (by decide +kernel)⟩
theorem lw_p5 : lw_okq (⟨"RingDriver", "closeAllBehind", "(LRingDriver$SlotQueue;I)I"⟩, 6) := ⟨⟨by decide +kernel, by decide +kernel⟩, List.mem_of_getElem? (i := 5) (by decide +kernel), List.mem_of_getElem? (i := 141) (by decide +kernel), List.mem_of_getElem? (i := 142) (by decide +kernel)⟩
theorem lw_p6 : lw_okq (⟨"RingDriverModel", "describe", "(III)V"⟩, 10) := ⟨⟨by decide +kernel, by decide +kernel⟩, List.mem_of_getElem? (i := 173) (by decide +kernel), List.mem_of_getElem? (i := 232) (by decide +kernel), List.mem_of_getElem? (i := 233) (by decide +kernel)⟩
def lw_privs_1 : List (MethodName × Nat) := [(⟨"RingDriver", "fault", "()I"⟩, 6), (⟨"RingDriver", "postNext", "(LRingDriver$SlotQueue;I)I"⟩, 6), (⟨"RingDriver", "fillBuffer", "(II)V"⟩, 6), (⟨"RingDriver", "fillDescriptor", "(III)V"⟩, 6), (⟨"RingDriver", "isGivenBack", "(LRingDriver$SlotQueue;I)Z"⟩, 6), (⟨"RingDriver", "closeAllBehind", "(LRingDriver$SlotQueue;I)I"⟩, 6), (⟨"RingDriverModel", "describe", "(III)V"⟩, 10)]
theorem lw_r1 : ∀ q ∈ lw_privs_1, lw_okq q := List.forall_mem_cons.mpr ⟨lw_p0, List.forall_mem_cons.mpr ⟨lw_p1, List.forall_mem_cons.mpr ⟨lw_p2, List.forall_mem_cons.mpr ⟨lw_p3, List.forall_mem_cons.mpr ⟨lw_p4, List.forall_mem_cons.mpr ⟨lw_p5, List.forall_mem_cons.mpr ⟨lw_p6, fun _ h => absurd h List.not_mem_nil⟩⟩⟩⟩⟩⟩⟩
def lw_privs : List (MethodName × Nat) := lw_privs_1
def lw_tbl : List Cond := k2_sels lw_privs ++ tables_1
theorem lw_privs_ok : ∀ q ∈ lw_privs, lw_okq q := lw_r1
-- ===== end of PART A; then your names; then what follows =====
/-! ===== BEGIN words of one list among another's, by their places ===== -/
theorem goodIn_r {big : List Cond} (ws : List Cond) (ps : List Nat) (hp : ws = ps.filterMap (fun i => big[i]?)) (h : ws.all goodWord = true) : GoodIn big ws := by
  intro w hw
  have h1 := List.all_eq_true.mp h w hw
  rw [hp] at hw
  obtain ⟨i, -, hi⟩ := List.mem_filterMap.mp hw
  have hm : w ∈ big := by first | exact List.mem_of_getElem? hi | exact List.getElem?_mem hi
  exact ⟨hm, good_of_word h1⟩
theorem goodIn_app {big a b : List Cond} (ha : GoodIn big a) (hb : GoodIn big b) : GoodIn big (a ++ b) := fun w h => (List.mem_append.mp h).elim (ha w) (hb w)
theorem goodIn_ca {big a b : List Cond} {c : Cond} (ha : GoodIn big (c :: a)) (hb : GoodIn big b) : GoodIn big (c :: (a ++ b)) := fun w h => (List.mem_cons.mp h).elim (fun e => ha w (List.mem_cons.mpr (Or.inl e))) (fun h => (List.mem_append.mp h).elim (fun h => ha w (List.mem_cons.mpr (Or.inr h))) (hb w))
theorem goodIn_sub {big ws : List Cond} (hm : ∀ w ∈ ws, w ∈ big) (h : ws.all goodWord = true) : GoodIn big ws := fun w hw => ⟨hm w hw, good_of_word (List.all_eq_true.mp h w hw)⟩
/-! ===== END ===== -/

/-! ===== BEGIN printed: names, fields, word lists, decode rows ===== -/
def RX0 : String := "RingDriver$SlotQueue"
def TX0 : u_T := fun k => match k with
  | 0 => ("RingDriver$SlotQueue", "ringStart", "I", true)
  | 1 => ("RingDriver$SlotQueue", "firstPage", "I", true)
  | 2 => ("RingDriver$SlotQueue", "oldest", "I", false)
  | _ => ("RingDriver$SlotQueue", "posted", "I", false)
def tyX0 : Nat → FieldType := fun k => match k with
  | 0 => .int
  | 1 => .int
  | 2 => .int
  | _ => .int
abbrev wsX00 : List Cond := u_ws RX0 TX0 4
theorem nmX0 : ∀ a, a < 4 → ∀ b, b < 4 → a ≠ b → (TX0 a).2.1 ≠ (TX0 b).2.1 := by decide +kernel
theorem tyX0_ok : ∀ k, k < 4 → parseFieldDescriptor (TX0 k).2.2.1 = some (tyX0 k) := by decide +kernel
abbrev cX0_init : ByteArray := prog_2_method_1_code
def yX0_init : MethodName := ⟨RX0, "<init>", "(II)V"⟩
abbrev cX0_size : ByteArray := prog_2_method_2_code
def yX0_size : MethodName := ⟨RX0, "size", "()I"⟩
abbrev cX0_slotAt : ByteArray := prog_2_method_3_code
def yX0_slotAt : MethodName := ⟨RX0, "slotAt", "(I)I"⟩
abbrev cX0_pageAt : ByteArray := prog_2_method_4_code
def yX0_pageAt : MethodName := ⟨RX0, "pageAt", "(I)I"⟩
abbrev cX0_bufferAt : ByteArray := prog_2_method_5_code
def yX0_bufferAt : MethodName := ⟨RX0, "bufferAt", "(I)I"⟩
abbrev cX0_descriptorAt : ByteArray := prog_2_method_6_code
def yX0_descriptorAt : MethodName := ⟨RX0, "descriptorAt", "(I)I"⟩
abbrev cX0_hasPostedPage : ByteArray := prog_2_method_7_code
def yX0_hasPostedPage : MethodName := ⟨RX0, "hasPostedPage", "(I)Z"⟩
abbrev cX0_addNext : ByteArray := prog_2_method_8_code
def yX0_addNext : MethodName := ⟨RX0, "addNext", "()V"⟩
abbrev cX0_removeOldest : ByteArray := prog_2_method_9_code
def yX0_removeOldest : MethodName := ⟨RX0, "removeOldest", "()V"⟩
abbrev cX0_keepOldest : ByteArray := prog_2_method_10_code
def yX0_keepOldest : MethodName := ⟨RX0, "keepOldest", "(I)V"⟩
def RX1 : String := "RingDriver"
def TX1 : u_T := fun k => match k with
  | 0 => ("RingDriver", "memory", "[I", true)
  | 1 => ("RingDriver", "outBox", "[I", true)
  | 2 => ("RingDriver", "inBox", "[I", true)
  | 3 => ("RingDriver", "transmitQueue", "LRingDriver$SlotQueue;", true)
  | 4 => ("RingDriver", "receiveQueue", "LRingDriver$SlotQueue;", true)
  | _ => ("RingDriver", "faultCount", "I", false)
def tyX1 : Nat → FieldType := fun k => match k with
  | 0 => .array .int
  | 1 => .array .int
  | 2 => .array .int
  | 3 => .object "RingDriver$SlotQueue"
  | 4 => .object "RingDriver$SlotQueue"
  | _ => .int
abbrev wsX10 : List Cond := u_ws RX1 TX1 6
theorem nmX1 : ∀ a, a < 6 → ∀ b, b < 6 → a ≠ b → (TX1 a).2.1 ≠ (TX1 b).2.1 := by decide +kernel
theorem tyX1_ok : ∀ k, k < 6 → parseFieldDescriptor (TX1 k).2.2.1 = some (tyX1 k) := by decide +kernel
abbrev cX1_init : ByteArray := prog_1_method_1_code
def yX1_init : MethodName := ⟨RX1, "<init>", "()V"⟩
abbrev cX1_deviceRead : ByteArray := prog_1_method_2_code
def yX1_deviceRead : MethodName := ⟨RX1, "deviceRead", "(I)I"⟩
abbrev cX1_deviceWrite : ByteArray := prog_1_method_3_code
def yX1_deviceWrite : MethodName := ⟨RX1, "deviceWrite", "(II)I"⟩
abbrev cX1_faults : ByteArray := prog_1_method_4_code
def yX1_faults : MethodName := ⟨RX1, "faults", "()I"⟩
abbrev cX1_load : ByteArray := prog_1_method_5_code
def yX1_load : MethodName := ⟨RX1, "load", "(II)Z"⟩
abbrev cX1_send : ByteArray := prog_1_method_6_code
def yX1_send : MethodName := ⟨RX1, "send", "(I)I"⟩
abbrev cX1_reclaim : ByteArray := prog_1_method_7_code
def yX1_reclaim : MethodName := ⟨RX1, "reclaim", "()I"⟩
abbrev cX1_revoke : ByteArray := prog_1_method_8_code
def yX1_revoke : MethodName := ⟨RX1, "revoke", "()I"⟩
abbrev cX1_post : ByteArray := prog_1_method_9_code
def yX1_post : MethodName := ⟨RX1, "post", "()I"⟩
abbrev cX1_receive : ByteArray := prog_1_method_10_code
def yX1_receive : MethodName := ⟨RX1, "receive", "()I"⟩
abbrev cX1_taken : ByteArray := prog_1_method_11_code
def yX1_taken : MethodName := ⟨RX1, "taken", "(I)I"⟩
abbrev cX1_withdraw : ByteArray := prog_1_method_12_code
def yX1_withdraw : MethodName := ⟨RX1, "withdraw", "()I"⟩
abbrev cX1_sending : ByteArray := prog_1_method_13_code
def yX1_sending : MethodName := ⟨RX1, "sending", "()I"⟩
abbrev cX1_receiving : ByteArray := prog_1_method_14_code
def yX1_receiving : MethodName := ⟨RX1, "receiving", "()I"⟩
abbrev cX1_fault : ByteArray := prog_1_method_15_code
def yX1_fault : MethodName := ⟨RX1, "fault", "()I"⟩
abbrev cX1_isOpen : ByteArray := prog_1_method_16_code
def yX1_isOpen : MethodName := ⟨RX1, "isOpen", "(ILRingDriver$SlotQueue;)Z"⟩
abbrev cX1_isFrameLength : ByteArray := prog_1_method_17_code
def yX1_isFrameLength : MethodName := ⟨RX1, "isFrameLength", "(I)Z"⟩
abbrev cX1_isGivenBack : ByteArray := prog_1_method_18_code
def yX1_isGivenBack : MethodName := ⟨RX1, "isGivenBack", "(LRingDriver$SlotQueue;I)Z"⟩
abbrev cX1_postNext : ByteArray := prog_1_method_19_code
def yX1_postNext : MethodName := ⟨RX1, "postNext", "(LRingDriver$SlotQueue;I)I"⟩
abbrev cX1_fillBuffer : ByteArray := prog_1_method_20_code
def yX1_fillBuffer : MethodName := ⟨RX1, "fillBuffer", "(II)V"⟩
abbrev cX1_fillDescriptor : ByteArray := prog_1_method_21_code
def yX1_fillDescriptor : MethodName := ⟨RX1, "fillDescriptor", "(III)V"⟩
abbrev cX1_closeAllBehind : ByteArray := prog_1_method_22_code
def yX1_closeAllBehind : MethodName := ⟨RX1, "closeAllBehind", "(LRingDriver$SlotQueue;I)I"⟩
def RX2 : String := "RingDriverModel"
def TX2 : u_T := fun k => match k with
  | 0 => ("RingDriverModel", "memory", "[B", true)
  | 1 => ("RingDriverModel", "readable", "[Z", true)
  | 2 => ("RingDriverModel", "writable", "[Z", true)
  | 3 => ("RingDriverModel", "outBox", "[B", true)
  | 4 => ("RingDriverModel", "inBox", "[B", true)
  | 5 => ("RingDriverModel", "faults", "I", false)
  | 6 => ("RingDriverModel", "t", "I", false)
  | 7 => ("RingDriverModel", "n", "I", false)
  | 8 => ("RingDriverModel", "\x72", "I", false)
  | _ => ("RingDriverModel", "m", "I", false)
def tyX2 : Nat → FieldType := fun k => match k with
  | 0 => .array .byte
  | 1 => .array .boolean
  | 2 => .array .boolean
  | 3 => .array .byte
  | 4 => .array .byte
  | 5 => .int
  | 6 => .int
  | 7 => .int
  | 8 => .int
  | _ => .int
abbrev wsX20 : List Cond := u_ws RX2 TX2 10
theorem nmX2 : ∀ a, a < 10 → ∀ b, b < 10 → a ≠ b → (TX2 a).2.1 ≠ (TX2 b).2.1 := by decide +kernel
theorem tyX2_ok : ∀ k, k < 10 → parseFieldDescriptor (TX2 k).2.2.1 = some (tyX2 k) := by decide +kernel
abbrev cX2_init : ByteArray := prog_4_method_1_code
def yX2_init : MethodName := ⟨RX2, "<init>", "()V"⟩
abbrev cX2_deviceRead : ByteArray := prog_4_method_2_code
def yX2_deviceRead : MethodName := ⟨RX2, "deviceRead", "(I)I"⟩
abbrev cX2_deviceWrite : ByteArray := prog_4_method_3_code
def yX2_deviceWrite : MethodName := ⟨RX2, "deviceWrite", "(II)I"⟩
abbrev cX2_faults : ByteArray := prog_4_method_4_code
def yX2_faults : MethodName := ⟨RX2, "faults", "()I"⟩
abbrev cX2_load : ByteArray := prog_4_method_5_code
def yX2_load : MethodName := ⟨RX2, "load", "(II)Z"⟩
abbrev cX2_describe : ByteArray := prog_4_method_6_code
def yX2_describe : MethodName := ⟨RX2, "describe", "(III)V"⟩
abbrev cX2_send : ByteArray := prog_4_method_7_code
def yX2_send : MethodName := ⟨RX2, "send", "(I)I"⟩
abbrev cX2_reclaim : ByteArray := prog_4_method_8_code
def yX2_reclaim : MethodName := ⟨RX2, "reclaim", "()I"⟩
abbrev cX2_revoke : ByteArray := prog_4_method_9_code
def yX2_revoke : MethodName := ⟨RX2, "revoke", "()I"⟩
abbrev cX2_post : ByteArray := prog_4_method_10_code
def yX2_post : MethodName := ⟨RX2, "post", "()I"⟩
abbrev cX2_receive : ByteArray := prog_4_method_11_code
def yX2_receive : MethodName := ⟨RX2, "receive", "()I"⟩
abbrev cX2_taken : ByteArray := prog_4_method_12_code
def yX2_taken : MethodName := ⟨RX2, "taken", "(I)I"⟩
abbrev cX2_withdraw : ByteArray := prog_4_method_13_code
def yX2_withdraw : MethodName := ⟨RX2, "withdraw", "()I"⟩
abbrev cX2_sending : ByteArray := prog_4_method_14_code
def yX2_sending : MethodName := ⟨RX2, "sending", "()I"⟩
abbrev cX2_receiving : ByteArray := prog_4_method_15_code
def yX2_receiving : MethodName := ⟨RX2, "receiving", "()I"⟩
def RL : String := "RingDriverLaw"
abbrev cL_law : ByteArray := code
def yL_law : MethodName := ⟨RL, "law", "([I)Z"⟩
def wsX0_init : List Cond := .code yX0_init cX0_init 3 none :: ([.methodLink RX0 3 objectInit, .instanceMethod objectInit, .code objectInit ⟨#[0xb1]⟩ 1 none, .fieldLink RX0 9 "RingDriver$SlotQueue" "ringStart" "I", .fieldLink RX0 15 "RingDriver$SlotQueue" "firstPage" "I", .fieldLink RX0 18 "RingDriver$SlotQueue" "oldest" "I", .fieldLink RX0 21 "RingDriver$SlotQueue" "posted" "I"] ++ wsX00)
def wsX0_size : List Cond := .code yX0_size cX0_size 1 (some .int) :: ([.fieldLink RX0 21 "RingDriver$SlotQueue" "posted" "I"] ++ wsX00)
def wsX0_slotAt : List Cond := .code yX0_slotAt cX0_slotAt 2 (some .int) :: ([.fieldLink RX0 18 "RingDriver$SlotQueue" "oldest" "I"] ++ wsX00)
def wsX0_pageAt : List Cond := .code yX0_pageAt cX0_pageAt 2 (some .int) :: ([.fieldLink RX0 15 "RingDriver$SlotQueue" "firstPage" "I", .methodLink RX0 24 yX0_slotAt, .instanceMethod yX0_slotAt, .selects RX0 yX0_slotAt yX0_slotAt, .initialized RX0, .code yX0_slotAt cX0_slotAt 2 (some .int), .fieldLink RX0 18 "RingDriver$SlotQueue" "oldest" "I"] ++ wsX00)
def wsX0_bufferAt : List Cond := .code yX0_bufferAt cX0_bufferAt 2 (some .int) :: ([.methodLink RX0 28 yX0_pageAt, .instanceMethod yX0_pageAt, .selects RX0 yX0_pageAt yX0_pageAt, .initialized RX0, .code yX0_pageAt cX0_pageAt 2 (some .int), .fieldLink RX0 15 "RingDriver$SlotQueue" "firstPage" "I", .methodLink RX0 24 yX0_slotAt, .instanceMethod yX0_slotAt, .selects RX0 yX0_slotAt yX0_slotAt, .code yX0_slotAt cX0_slotAt 2 (some .int), .fieldLink RX0 18 "RingDriver$SlotQueue" "oldest" "I"] ++ wsX00)
def wsX0_descriptorAt : List Cond := .code yX0_descriptorAt cX0_descriptorAt 2 (some .int) :: ([.fieldLink RX0 9 "RingDriver$SlotQueue" "ringStart" "I", .methodLink RX0 24 yX0_slotAt, .instanceMethod yX0_slotAt, .selects RX0 yX0_slotAt yX0_slotAt, .initialized RX0, .code yX0_slotAt cX0_slotAt 2 (some .int), .fieldLink RX0 18 "RingDriver$SlotQueue" "oldest" "I"] ++ wsX00)
def wsX0_hasPostedPage : List Cond := .code yX0_hasPostedPage cX0_hasPostedPage 3 (some .boolean) :: ([.fieldLink RX0 15 "RingDriver$SlotQueue" "firstPage" "I", .fieldLink RX0 18 "RingDriver$SlotQueue" "oldest" "I", .fieldLink RX0 21 "RingDriver$SlotQueue" "posted" "I"] ++ wsX00)
def wsX0_addNext : List Cond := .code yX0_addNext cX0_addNext 1 none :: ([.fieldLink RX0 21 "RingDriver$SlotQueue" "posted" "I"] ++ wsX00)
def wsX0_removeOldest : List Cond := .code yX0_removeOldest cX0_removeOldest 1 none :: ([.fieldLink RX0 18 "RingDriver$SlotQueue" "oldest" "I", .fieldLink RX0 21 "RingDriver$SlotQueue" "posted" "I", .methodLink RX0 24 yX0_slotAt, .instanceMethod yX0_slotAt, .selects RX0 yX0_slotAt yX0_slotAt, .initialized RX0, .code yX0_slotAt cX0_slotAt 2 (some .int)] ++ wsX00)
def wsX0_keepOldest : List Cond := .code yX0_keepOldest cX0_keepOldest 2 none :: ([.fieldLink RX0 21 "RingDriver$SlotQueue" "posted" "I"] ++ wsX00)
def wsX1_init : List Cond := .code yX1_init cX1_init 1 none :: ([.methodLink RX1 1 objectInit, .instanceMethod objectInit, .code objectInit ⟨#[0xb1]⟩ 1 none, .arrayClass .int, .fieldLink RX1 9 "RingDriver" "memory" "[I", .fieldLink RX1 13 "RingDriver" "outBox" "[I", .fieldLink RX1 16 "RingDriver" "inBox" "[I", .classLink RX1 19 RX0, .instantiable RX0 4, .initialized RX0, .fieldLink RX1 24 "RingDriver" "transmitQueue" "LRingDriver$SlotQueue;", .fieldLink RX1 28 "RingDriver" "receiveQueue" "LRingDriver$SlotQueue;", .fieldLink RX1 31 "RingDriver" "faultCount" "I", .methodLink RX1 21 yX0_init, .instanceMethod yX0_init, .code yX0_init cX0_init 3 none, .methodLink RX0 3 objectInit, .fieldLink RX0 9 "RingDriver$SlotQueue" "ringStart" "I", .fieldLink RX0 15 "RingDriver$SlotQueue" "firstPage" "I", .fieldLink RX0 18 "RingDriver$SlotQueue" "oldest" "I", .fieldLink RX0 21 "RingDriver$SlotQueue" "posted" "I"] ++ wsX10 ++ wsX00)
def wsX1_isOpen : List Cond := .code yX1_isOpen cX1_isOpen 2 (some .boolean) :: ([.methodLink RX1 74 yX0_hasPostedPage, .instanceMethod yX0_hasPostedPage, .selects RX0 yX0_hasPostedPage yX0_hasPostedPage, .initialized RX0, .code yX0_hasPostedPage cX0_hasPostedPage 3 (some .boolean), .fieldLink RX0 15 "RingDriver$SlotQueue" "firstPage" "I", .fieldLink RX0 18 "RingDriver$SlotQueue" "oldest" "I", .fieldLink RX0 21 "RingDriver$SlotQueue" "posted" "I"] ++ wsX00)
def wsX1_fault : List Cond := .code yX1_fault cX1_fault 1 (some .int) :: ([.fieldLink RX1 31 "RingDriver" "faultCount" "I"] ++ wsX10)
def wsX1_deviceRead : List Cond := .code yX1_deviceRead cX1_deviceRead 2 (some .int) :: ([.fieldLink RX1 24 "RingDriver" "transmitQueue" "LRingDriver$SlotQueue;", .fieldLink RX1 9 "RingDriver" "memory" "[I", .methodLink RX1 35 yX1_isOpen, .static yX1_isOpen, .initialized RX1, .code yX1_isOpen cX1_isOpen 2 (some .boolean), .methodLink RX1 74 yX0_hasPostedPage, .instanceMethod yX0_hasPostedPage, .selects RX0 yX0_hasPostedPage yX0_hasPostedPage, .initialized RX0, .code yX0_hasPostedPage cX0_hasPostedPage 3 (some .boolean), .fieldLink RX0 15 "RingDriver$SlotQueue" "firstPage" "I", .fieldLink RX0 18 "RingDriver$SlotQueue" "oldest" "I", .fieldLink RX0 21 "RingDriver$SlotQueue" "posted" "I", .methodLink RX1 39 yX1_fault, .instanceMethod yX1_fault, .selects RX1 yX1_fault yX1_fault, .code yX1_fault cX1_fault 1 (some .int), .fieldLink RX1 31 "RingDriver" "faultCount" "I"] ++ wsX10 ++ wsX00)
def wsX1_deviceWrite : List Cond := .code yX1_deviceWrite cX1_deviceWrite 3 (some .int) :: ([.fieldLink RX1 28 "RingDriver" "receiveQueue" "LRingDriver$SlotQueue;", .fieldLink RX1 9 "RingDriver" "memory" "[I", .methodLink RX1 35 yX1_isOpen, .static yX1_isOpen, .initialized RX1, .code yX1_isOpen cX1_isOpen 2 (some .boolean), .methodLink RX1 74 yX0_hasPostedPage, .instanceMethod yX0_hasPostedPage, .selects RX0 yX0_hasPostedPage yX0_hasPostedPage, .initialized RX0, .code yX0_hasPostedPage cX0_hasPostedPage 3 (some .boolean), .fieldLink RX0 15 "RingDriver$SlotQueue" "firstPage" "I", .fieldLink RX0 18 "RingDriver$SlotQueue" "oldest" "I", .fieldLink RX0 21 "RingDriver$SlotQueue" "posted" "I", .methodLink RX1 39 yX1_fault, .instanceMethod yX1_fault, .selects RX1 yX1_fault yX1_fault, .code yX1_fault cX1_fault 1 (some .int), .fieldLink RX1 31 "RingDriver" "faultCount" "I"] ++ wsX10 ++ wsX00)
def wsX1_faults : List Cond := .code yX1_faults cX1_faults 1 (some .int) :: ([.fieldLink RX1 31 "RingDriver" "faultCount" "I"] ++ wsX10)
def wsX1_load : List Cond := .code yX1_load cX1_load 3 (some .boolean) :: ([.fieldLink RX1 13 "RingDriver" "outBox" "[I"] ++ wsX10)
def wsX1_isFrameLength : List Cond := .code yX1_isFrameLength cX1_isFrameLength 1 (some .boolean) :: ([])
def wsX1_fillBuffer : List Cond := .code yX1_fillBuffer cX1_fillBuffer 4 none :: ([.fieldLink RX1 9 "RingDriver" "memory" "[I", .fieldLink RX1 13 "RingDriver" "outBox" "[I"] ++ wsX10)
def wsX1_fillDescriptor : List Cond := .code yX1_fillDescriptor cX1_fillDescriptor 5 none :: ([.fieldLink RX1 9 "RingDriver" "memory" "[I"] ++ wsX10)
def wsX1_postNext_r1 : List Cond := [Cond.methodLink RX1 71 yX0_size, Cond.instanceMethod yX0_size, Cond.selects RX0 yX0_size yX0_size, Cond.initialized RX0, Cond.code yX0_size cX0_size 1 (some .int), Cond.fieldLink RX0 21 "RingDriver$SlotQueue" "posted" "I", Cond.methodLink RX1 68 yX0_bufferAt, Cond.instanceMethod yX0_bufferAt, Cond.selects RX0 yX0_bufferAt yX0_bufferAt, Cond.code yX0_bufferAt cX0_bufferAt 2 (some .int), Cond.methodLink RX0 28 yX0_pageAt, Cond.instanceMethod yX0_pageAt, Cond.selects RX0 yX0_pageAt yX0_pageAt, Cond.code yX0_pageAt cX0_pageAt 2 (some .int), Cond.fieldLink RX0 15 "RingDriver$SlotQueue" "firstPage" "I", Cond.methodLink RX0 24 yX0_slotAt, Cond.instanceMethod yX0_slotAt, Cond.selects RX0 yX0_slotAt yX0_slotAt, Cond.code yX0_slotAt cX0_slotAt 2 (some .int), Cond.fieldLink RX0 18 "RingDriver$SlotQueue" "oldest" "I", Cond.methodLink RX1 77 yX1_fillBuffer, Cond.instanceMethod yX1_fillBuffer, Cond.selects RX1 yX1_fillBuffer yX1_fillBuffer, Cond.initialized RX1]
def wsX1_postNext_r2 : List Cond := [Cond.code yX1_fillBuffer cX1_fillBuffer 4 none, Cond.fieldLink RX1 9 "RingDriver" "memory" "[I", Cond.fieldLink RX1 13 "RingDriver" "outBox" "[I", Cond.methodLink RX1 64 yX0_descriptorAt, Cond.instanceMethod yX0_descriptorAt, Cond.selects RX0 yX0_descriptorAt yX0_descriptorAt, Cond.code yX0_descriptorAt cX0_descriptorAt 2 (some .int), Cond.fieldLink RX0 9 "RingDriver$SlotQueue" "ringStart" "I", Cond.methodLink RX1 80 yX0_pageAt, Cond.methodLink RX1 83 yX1_fillDescriptor, Cond.instanceMethod yX1_fillDescriptor, Cond.selects RX1 yX1_fillDescriptor yX1_fillDescriptor, Cond.code yX1_fillDescriptor cX1_fillDescriptor 5 none, Cond.methodLink RX1 87 yX0_addNext, Cond.instanceMethod yX0_addNext, Cond.selects RX0 yX0_addNext yX0_addNext, Cond.code yX0_addNext cX0_addNext 1 none, Cond.methodLink RX1 90 yX0_slotAt]
def wsX1_postNext : List Cond := .code yX1_postNext cX1_postNext 4 (some .int) :: ((wsX1_postNext_r1 ++ wsX1_postNext_r2) ++ wsX00 ++ wsX10)
def wsX1_send_r1 : List Cond := [Cond.fieldLink RX1 24 "RingDriver" "transmitQueue" "LRingDriver$SlotQueue;", Cond.methodLink RX1 43 yX1_isFrameLength, Cond.static yX1_isFrameLength, Cond.initialized RX1, Cond.code yX1_isFrameLength cX1_isFrameLength 1 (some .boolean), Cond.methodLink RX1 47 yX1_postNext, Cond.instanceMethod yX1_postNext, Cond.selects RX1 yX1_postNext yX1_postNext, Cond.code yX1_postNext cX1_postNext 4 (some .int), Cond.methodLink RX1 71 yX0_size, Cond.instanceMethod yX0_size, Cond.selects RX0 yX0_size yX0_size, Cond.initialized RX0, Cond.code yX0_size cX0_size 1 (some .int), Cond.fieldLink RX0 21 "RingDriver$SlotQueue" "posted" "I", Cond.methodLink RX1 68 yX0_bufferAt, Cond.instanceMethod yX0_bufferAt, Cond.selects RX0 yX0_bufferAt yX0_bufferAt, Cond.code yX0_bufferAt cX0_bufferAt 2 (some .int), Cond.methodLink RX0 28 yX0_pageAt, Cond.instanceMethod yX0_pageAt, Cond.selects RX0 yX0_pageAt yX0_pageAt, Cond.code yX0_pageAt cX0_pageAt 2 (some .int), Cond.fieldLink RX0 15 "RingDriver$SlotQueue" "firstPage" "I"]
def wsX1_send_r2 : List Cond := [Cond.methodLink RX0 24 yX0_slotAt, Cond.instanceMethod yX0_slotAt, Cond.selects RX0 yX0_slotAt yX0_slotAt, Cond.code yX0_slotAt cX0_slotAt 2 (some .int), Cond.fieldLink RX0 18 "RingDriver$SlotQueue" "oldest" "I", Cond.methodLink RX1 77 yX1_fillBuffer, Cond.instanceMethod yX1_fillBuffer, Cond.selects RX1 yX1_fillBuffer yX1_fillBuffer, Cond.code yX1_fillBuffer cX1_fillBuffer 4 none, Cond.fieldLink RX1 9 "RingDriver" "memory" "[I", Cond.fieldLink RX1 13 "RingDriver" "outBox" "[I", Cond.methodLink RX1 64 yX0_descriptorAt, Cond.instanceMethod yX0_descriptorAt, Cond.selects RX0 yX0_descriptorAt yX0_descriptorAt, Cond.code yX0_descriptorAt cX0_descriptorAt 2 (some .int), Cond.fieldLink RX0 9 "RingDriver$SlotQueue" "ringStart" "I", Cond.methodLink RX1 80 yX0_pageAt, Cond.methodLink RX1 83 yX1_fillDescriptor, Cond.instanceMethod yX1_fillDescriptor, Cond.selects RX1 yX1_fillDescriptor yX1_fillDescriptor, Cond.code yX1_fillDescriptor cX1_fillDescriptor 5 none, Cond.methodLink RX1 87 yX0_addNext, Cond.instanceMethod yX0_addNext, Cond.selects RX0 yX0_addNext yX0_addNext]
def wsX1_send_r3 : List Cond := [Cond.code yX0_addNext cX0_addNext 1 none, Cond.methodLink RX1 90 yX0_slotAt]
def wsX1_send : List Cond := .code yX1_send cX1_send 2 (some .int) :: ((wsX1_send_r1 ++ (wsX1_send_r2 ++ wsX1_send_r3)) ++ wsX10 ++ wsX00)
def wsX1_isGivenBack : List Cond := .code yX1_isGivenBack cX1_isGivenBack 3 (some .boolean) :: ([.fieldLink RX1 9 "RingDriver" "memory" "[I", .methodLink RX1 71 yX0_size, .instanceMethod yX0_size, .selects RX0 yX0_size yX0_size, .initialized RX0, .code yX0_size cX0_size 1 (some .int), .fieldLink RX0 21 "RingDriver$SlotQueue" "posted" "I", .methodLink RX1 64 yX0_descriptorAt, .instanceMethod yX0_descriptorAt, .selects RX0 yX0_descriptorAt yX0_descriptorAt, .code yX0_descriptorAt cX0_descriptorAt 2 (some .int), .fieldLink RX0 9 "RingDriver$SlotQueue" "ringStart" "I", .methodLink RX0 24 yX0_slotAt, .instanceMethod yX0_slotAt, .selects RX0 yX0_slotAt yX0_slotAt, .code yX0_slotAt cX0_slotAt 2 (some .int), .fieldLink RX0 18 "RingDriver$SlotQueue" "oldest" "I"] ++ wsX10 ++ wsX00)
def wsX1_reclaim_r1 : List Cond := [Cond.fieldLink RX1 24 "RingDriver" "transmitQueue" "LRingDriver$SlotQueue;", Cond.methodLink RX1 51 yX1_isGivenBack, Cond.instanceMethod yX1_isGivenBack, Cond.selects RX1 yX1_isGivenBack yX1_isGivenBack, Cond.initialized RX1, Cond.code yX1_isGivenBack cX1_isGivenBack 3 (some .boolean), Cond.fieldLink RX1 9 "RingDriver" "memory" "[I", Cond.methodLink RX1 71 yX0_size, Cond.instanceMethod yX0_size, Cond.selects RX0 yX0_size yX0_size, Cond.initialized RX0, Cond.code yX0_size cX0_size 1 (some .int), Cond.fieldLink RX0 21 "RingDriver$SlotQueue" "posted" "I", Cond.methodLink RX1 64 yX0_descriptorAt, Cond.instanceMethod yX0_descriptorAt, Cond.selects RX0 yX0_descriptorAt yX0_descriptorAt, Cond.code yX0_descriptorAt cX0_descriptorAt 2 (some .int), Cond.fieldLink RX0 9 "RingDriver$SlotQueue" "ringStart" "I", Cond.methodLink RX0 24 yX0_slotAt, Cond.instanceMethod yX0_slotAt, Cond.selects RX0 yX0_slotAt yX0_slotAt, Cond.code yX0_slotAt cX0_slotAt 2 (some .int), Cond.fieldLink RX0 18 "RingDriver$SlotQueue" "oldest" "I", Cond.methodLink RX1 55 yX0_removeOldest]
def wsX1_reclaim_r2 : List Cond := [Cond.instanceMethod yX0_removeOldest, Cond.selects RX0 yX0_removeOldest yX0_removeOldest, Cond.code yX0_removeOldest cX0_removeOldest 1 none]
def wsX1_reclaim : List Cond := .code yX1_reclaim cX1_reclaim 2 (some .int) :: ((wsX1_reclaim_r1 ++ wsX1_reclaim_r2) ++ wsX10 ++ wsX00)
def wsX1_closeAllBehind : List Cond := .code yX1_closeAllBehind cX1_closeAllBehind 5 (some .int) :: ([.fieldLink RX1 9 "RingDriver" "memory" "[I", .methodLink RX1 71 yX0_size, .instanceMethod yX0_size, .selects RX0 yX0_size yX0_size, .initialized RX0, .code yX0_size cX0_size 1 (some .int), .fieldLink RX0 21 "RingDriver$SlotQueue" "posted" "I", .methodLink RX1 64 yX0_descriptorAt, .instanceMethod yX0_descriptorAt, .selects RX0 yX0_descriptorAt yX0_descriptorAt, .code yX0_descriptorAt cX0_descriptorAt 2 (some .int), .fieldLink RX0 9 "RingDriver$SlotQueue" "ringStart" "I", .methodLink RX0 24 yX0_slotAt, .instanceMethod yX0_slotAt, .selects RX0 yX0_slotAt yX0_slotAt, .code yX0_slotAt cX0_slotAt 2 (some .int), .fieldLink RX0 18 "RingDriver$SlotQueue" "oldest" "I", .methodLink RX1 93 yX0_keepOldest, .instanceMethod yX0_keepOldest, .selects RX0 yX0_keepOldest yX0_keepOldest, .code yX0_keepOldest cX0_keepOldest 2 none] ++ wsX10 ++ wsX00)
def wsX1_revoke_r1 : List Cond := [Cond.fieldLink RX1 24 "RingDriver" "transmitQueue" "LRingDriver$SlotQueue;", Cond.methodLink RX1 58 yX1_reclaim, Cond.instanceMethod yX1_reclaim, Cond.selects RX1 yX1_reclaim yX1_reclaim, Cond.initialized RX1, Cond.code yX1_reclaim cX1_reclaim 2 (some .int), Cond.methodLink RX1 51 yX1_isGivenBack, Cond.instanceMethod yX1_isGivenBack, Cond.selects RX1 yX1_isGivenBack yX1_isGivenBack, Cond.code yX1_isGivenBack cX1_isGivenBack 3 (some .boolean), Cond.fieldLink RX1 9 "RingDriver" "memory" "[I", Cond.methodLink RX1 71 yX0_size, Cond.instanceMethod yX0_size, Cond.selects RX0 yX0_size yX0_size, Cond.initialized RX0, Cond.code yX0_size cX0_size 1 (some .int), Cond.fieldLink RX0 21 "RingDriver$SlotQueue" "posted" "I", Cond.methodLink RX1 64 yX0_descriptorAt, Cond.instanceMethod yX0_descriptorAt, Cond.selects RX0 yX0_descriptorAt yX0_descriptorAt, Cond.code yX0_descriptorAt cX0_descriptorAt 2 (some .int), Cond.fieldLink RX0 9 "RingDriver$SlotQueue" "ringStart" "I", Cond.methodLink RX0 24 yX0_slotAt, Cond.instanceMethod yX0_slotAt]
def wsX1_revoke_r2 : List Cond := [Cond.selects RX0 yX0_slotAt yX0_slotAt, Cond.code yX0_slotAt cX0_slotAt 2 (some .int), Cond.fieldLink RX0 18 "RingDriver$SlotQueue" "oldest" "I", Cond.methodLink RX1 55 yX0_removeOldest, Cond.instanceMethod yX0_removeOldest, Cond.selects RX0 yX0_removeOldest yX0_removeOldest, Cond.code yX0_removeOldest cX0_removeOldest 1 none, Cond.methodLink RX1 61 yX1_closeAllBehind, Cond.instanceMethod yX1_closeAllBehind, Cond.selects RX1 yX1_closeAllBehind yX1_closeAllBehind, Cond.code yX1_closeAllBehind cX1_closeAllBehind 5 (some .int), Cond.methodLink RX1 93 yX0_keepOldest, Cond.instanceMethod yX0_keepOldest, Cond.selects RX0 yX0_keepOldest yX0_keepOldest, Cond.code yX0_keepOldest cX0_keepOldest 2 none]
def wsX1_revoke : List Cond := .code yX1_revoke cX1_revoke 1 (some .int) :: ((wsX1_revoke_r1 ++ wsX1_revoke_r2) ++ wsX10 ++ wsX00)
def wsX1_post_r1 : List Cond := [Cond.fieldLink RX1 28 "RingDriver" "receiveQueue" "LRingDriver$SlotQueue;", Cond.methodLink RX1 47 yX1_postNext, Cond.instanceMethod yX1_postNext, Cond.selects RX1 yX1_postNext yX1_postNext, Cond.initialized RX1, Cond.code yX1_postNext cX1_postNext 4 (some .int), Cond.methodLink RX1 71 yX0_size, Cond.instanceMethod yX0_size, Cond.selects RX0 yX0_size yX0_size, Cond.initialized RX0, Cond.code yX0_size cX0_size 1 (some .int), Cond.fieldLink RX0 21 "RingDriver$SlotQueue" "posted" "I", Cond.methodLink RX1 68 yX0_bufferAt, Cond.instanceMethod yX0_bufferAt, Cond.selects RX0 yX0_bufferAt yX0_bufferAt, Cond.code yX0_bufferAt cX0_bufferAt 2 (some .int), Cond.methodLink RX0 28 yX0_pageAt, Cond.instanceMethod yX0_pageAt, Cond.selects RX0 yX0_pageAt yX0_pageAt, Cond.code yX0_pageAt cX0_pageAt 2 (some .int), Cond.fieldLink RX0 15 "RingDriver$SlotQueue" "firstPage" "I", Cond.methodLink RX0 24 yX0_slotAt, Cond.instanceMethod yX0_slotAt, Cond.selects RX0 yX0_slotAt yX0_slotAt]
def wsX1_post_r2 : List Cond := [Cond.code yX0_slotAt cX0_slotAt 2 (some .int), Cond.fieldLink RX0 18 "RingDriver$SlotQueue" "oldest" "I", Cond.methodLink RX1 77 yX1_fillBuffer, Cond.instanceMethod yX1_fillBuffer, Cond.selects RX1 yX1_fillBuffer yX1_fillBuffer, Cond.code yX1_fillBuffer cX1_fillBuffer 4 none, Cond.fieldLink RX1 9 "RingDriver" "memory" "[I", Cond.fieldLink RX1 13 "RingDriver" "outBox" "[I", Cond.methodLink RX1 64 yX0_descriptorAt, Cond.instanceMethod yX0_descriptorAt, Cond.selects RX0 yX0_descriptorAt yX0_descriptorAt, Cond.code yX0_descriptorAt cX0_descriptorAt 2 (some .int), Cond.fieldLink RX0 9 "RingDriver$SlotQueue" "ringStart" "I", Cond.methodLink RX1 80 yX0_pageAt, Cond.methodLink RX1 83 yX1_fillDescriptor, Cond.instanceMethod yX1_fillDescriptor, Cond.selects RX1 yX1_fillDescriptor yX1_fillDescriptor, Cond.code yX1_fillDescriptor cX1_fillDescriptor 5 none, Cond.methodLink RX1 87 yX0_addNext, Cond.instanceMethod yX0_addNext, Cond.selects RX0 yX0_addNext yX0_addNext, Cond.code yX0_addNext cX0_addNext 1 none, Cond.methodLink RX1 90 yX0_slotAt]
def wsX1_post : List Cond := .code yX1_post cX1_post 1 (some .int) :: ((wsX1_post_r1 ++ wsX1_post_r2) ++ wsX10 ++ wsX00)
def wsX1_receive_r1 : List Cond := [Cond.fieldLink RX1 28 "RingDriver" "receiveQueue" "LRingDriver$SlotQueue;", Cond.fieldLink RX1 9 "RingDriver" "memory" "[I", Cond.fieldLink RX1 16 "RingDriver" "inBox" "[I", Cond.methodLink RX1 51 yX1_isGivenBack, Cond.instanceMethod yX1_isGivenBack, Cond.selects RX1 yX1_isGivenBack yX1_isGivenBack, Cond.initialized RX1, Cond.code yX1_isGivenBack cX1_isGivenBack 3 (some .boolean), Cond.methodLink RX1 71 yX0_size, Cond.instanceMethod yX0_size, Cond.selects RX0 yX0_size yX0_size, Cond.initialized RX0, Cond.code yX0_size cX0_size 1 (some .int), Cond.fieldLink RX0 21 "RingDriver$SlotQueue" "posted" "I", Cond.methodLink RX1 64 yX0_descriptorAt, Cond.instanceMethod yX0_descriptorAt, Cond.selects RX0 yX0_descriptorAt yX0_descriptorAt, Cond.code yX0_descriptorAt cX0_descriptorAt 2 (some .int), Cond.fieldLink RX0 9 "RingDriver$SlotQueue" "ringStart" "I", Cond.methodLink RX0 24 yX0_slotAt, Cond.instanceMethod yX0_slotAt, Cond.selects RX0 yX0_slotAt yX0_slotAt, Cond.code yX0_slotAt cX0_slotAt 2 (some .int), Cond.fieldLink RX0 18 "RingDriver$SlotQueue" "oldest" "I"]
def wsX1_receive_r2 : List Cond := [Cond.methodLink RX1 68 yX0_bufferAt, Cond.instanceMethod yX0_bufferAt, Cond.selects RX0 yX0_bufferAt yX0_bufferAt, Cond.code yX0_bufferAt cX0_bufferAt 2 (some .int), Cond.methodLink RX0 28 yX0_pageAt, Cond.instanceMethod yX0_pageAt, Cond.selects RX0 yX0_pageAt yX0_pageAt, Cond.code yX0_pageAt cX0_pageAt 2 (some .int), Cond.fieldLink RX0 15 "RingDriver$SlotQueue" "firstPage" "I", Cond.methodLink RX1 55 yX0_removeOldest, Cond.instanceMethod yX0_removeOldest, Cond.selects RX0 yX0_removeOldest yX0_removeOldest, Cond.code yX0_removeOldest cX0_removeOldest 1 none, Cond.methodLink RX1 43 yX1_isFrameLength, Cond.static yX1_isFrameLength, Cond.code yX1_isFrameLength cX1_isFrameLength 1 (some .boolean)]
def wsX1_receive : List Cond := .code yX1_receive cX1_receive 4 (some .int) :: ((wsX1_receive_r1 ++ wsX1_receive_r2) ++ wsX10 ++ wsX00)
def wsX1_taken : List Cond := .code yX1_taken cX1_taken 2 (some .int) :: ([.fieldLink RX1 16 "RingDriver" "inBox" "[I"] ++ wsX10)
def wsX1_withdraw_r1 : List Cond := [Cond.fieldLink RX1 28 "RingDriver" "receiveQueue" "LRingDriver$SlotQueue;", Cond.methodLink RX1 51 yX1_isGivenBack, Cond.instanceMethod yX1_isGivenBack, Cond.selects RX1 yX1_isGivenBack yX1_isGivenBack, Cond.initialized RX1, Cond.code yX1_isGivenBack cX1_isGivenBack 3 (some .boolean), Cond.fieldLink RX1 9 "RingDriver" "memory" "[I", Cond.methodLink RX1 71 yX0_size, Cond.instanceMethod yX0_size, Cond.selects RX0 yX0_size yX0_size, Cond.initialized RX0, Cond.code yX0_size cX0_size 1 (some .int), Cond.fieldLink RX0 21 "RingDriver$SlotQueue" "posted" "I", Cond.methodLink RX1 64 yX0_descriptorAt, Cond.instanceMethod yX0_descriptorAt, Cond.selects RX0 yX0_descriptorAt yX0_descriptorAt, Cond.code yX0_descriptorAt cX0_descriptorAt 2 (some .int), Cond.fieldLink RX0 9 "RingDriver$SlotQueue" "ringStart" "I", Cond.methodLink RX0 24 yX0_slotAt, Cond.instanceMethod yX0_slotAt, Cond.selects RX0 yX0_slotAt yX0_slotAt, Cond.code yX0_slotAt cX0_slotAt 2 (some .int), Cond.fieldLink RX0 18 "RingDriver$SlotQueue" "oldest" "I", Cond.methodLink RX1 61 yX1_closeAllBehind]
def wsX1_withdraw_r2 : List Cond := [Cond.instanceMethod yX1_closeAllBehind, Cond.selects RX1 yX1_closeAllBehind yX1_closeAllBehind, Cond.code yX1_closeAllBehind cX1_closeAllBehind 5 (some .int), Cond.methodLink RX1 93 yX0_keepOldest, Cond.instanceMethod yX0_keepOldest, Cond.selects RX0 yX0_keepOldest yX0_keepOldest, Cond.code yX0_keepOldest cX0_keepOldest 2 none]
def wsX1_withdraw : List Cond := .code yX1_withdraw cX1_withdraw 2 (some .int) :: ((wsX1_withdraw_r1 ++ wsX1_withdraw_r2) ++ wsX10 ++ wsX00)
def wsX1_sending : List Cond := .code yX1_sending cX1_sending 1 (some .int) :: ([.fieldLink RX1 24 "RingDriver" "transmitQueue" "LRingDriver$SlotQueue;", .methodLink RX1 71 yX0_size, .instanceMethod yX0_size, .selects RX0 yX0_size yX0_size, .initialized RX0, .code yX0_size cX0_size 1 (some .int), .fieldLink RX0 21 "RingDriver$SlotQueue" "posted" "I"] ++ wsX10 ++ wsX00)
def wsX1_receiving : List Cond := .code yX1_receiving cX1_receiving 1 (some .int) :: ([.fieldLink RX1 28 "RingDriver" "receiveQueue" "LRingDriver$SlotQueue;", .methodLink RX1 71 yX0_size, .instanceMethod yX0_size, .selects RX0 yX0_size yX0_size, .initialized RX0, .code yX0_size cX0_size 1 (some .int), .fieldLink RX0 21 "RingDriver$SlotQueue" "posted" "I"] ++ wsX10 ++ wsX00)
def wsX2_init : List Cond := .code yX2_init cX2_init 2 none :: ([.methodLink RX2 1 objectInit, .instanceMethod objectInit, .code objectInit ⟨#[0xb1]⟩ 1 none, .arrayClass .byte, .fieldLink RX2 7 "RingDriverModel" "memory" "[B", .arrayClass .boolean, .fieldLink RX2 13 "RingDriverModel" "readable" "[Z", .fieldLink RX2 17 "RingDriverModel" "writable" "[Z", .fieldLink RX2 20 "RingDriverModel" "outBox" "[B", .fieldLink RX2 23 "RingDriverModel" "inBox" "[B"] ++ wsX20)
def wsX2_deviceRead : List Cond := .code yX2_deviceRead cX2_deviceRead 2 (some .int) :: ([.fieldLink RX2 13 "RingDriverModel" "readable" "[Z", .fieldLink RX2 26 "RingDriverModel" "faults" "I", .fieldLink RX2 7 "RingDriverModel" "memory" "[B"] ++ wsX20)
def wsX2_deviceWrite : List Cond := .code yX2_deviceWrite cX2_deviceWrite 3 (some .int) :: ([.fieldLink RX2 17 "RingDriverModel" "writable" "[Z", .fieldLink RX2 26 "RingDriverModel" "faults" "I", .fieldLink RX2 7 "RingDriverModel" "memory" "[B"] ++ wsX20)
def wsX2_faults : List Cond := .code yX2_faults cX2_faults 1 (some .int) :: ([.fieldLink RX2 26 "RingDriverModel" "faults" "I"] ++ wsX20)
def wsX2_load : List Cond := .code yX2_load cX2_load 3 (some .boolean) :: ([.fieldLink RX2 20 "RingDriverModel" "outBox" "[B"] ++ wsX20)
def wsX2_describe : List Cond := .code yX2_describe cX2_describe 5 none :: ([.fieldLink RX2 7 "RingDriverModel" "memory" "[B"] ++ wsX20)
def wsX2_send : List Cond := .code yX2_send cX2_send 4 (some .int) :: ([.fieldLink RX2 30 "RingDriverModel" "n" "I", .fieldLink RX2 33 "RingDriverModel" "t" "I", .fieldLink RX2 7 "RingDriverModel" "memory" "[B", .fieldLink RX2 20 "RingDriverModel" "outBox" "[B", .fieldLink RX2 13 "RingDriverModel" "readable" "[Z", .methodLink RX2 36 yX2_describe, .instanceMethod yX2_describe, .selects RX2 yX2_describe yX2_describe, .initialized RX2, .code yX2_describe cX2_describe 5 none] ++ wsX20)
def wsX2_reclaim : List Cond := .code yX2_reclaim cX2_reclaim 3 (some .int) :: ([.fieldLink RX2 30 "RingDriverModel" "n" "I", .fieldLink RX2 7 "RingDriverModel" "memory" "[B", .fieldLink RX2 33 "RingDriverModel" "t" "I", .fieldLink RX2 13 "RingDriverModel" "readable" "[Z"] ++ wsX20)
def wsX2_revoke : List Cond := .code yX2_revoke cX2_revoke 5 (some .int) :: ([.fieldLink RX2 30 "RingDriverModel" "n" "I", .fieldLink RX2 33 "RingDriverModel" "t" "I", .fieldLink RX2 13 "RingDriverModel" "readable" "[Z", .fieldLink RX2 7 "RingDriverModel" "memory" "[B", .methodLink RX2 40 yX2_reclaim, .instanceMethod yX2_reclaim, .selects RX2 yX2_reclaim yX2_reclaim, .initialized RX2, .code yX2_reclaim cX2_reclaim 3 (some .int)] ++ wsX20)
def wsX2_post : List Cond := .code yX2_post cX2_post 3 (some .int) :: ([.fieldLink RX2 44 "RingDriverModel" "m" "I", .fieldLink RX2 47 "RingDriverModel" "\x72" "I", .fieldLink RX2 7 "RingDriverModel" "memory" "[B", .fieldLink RX2 17 "RingDriverModel" "writable" "[Z", .methodLink RX2 36 yX2_describe, .instanceMethod yX2_describe, .selects RX2 yX2_describe yX2_describe, .initialized RX2, .code yX2_describe cX2_describe 5 none] ++ wsX20)
def wsX2_receive : List Cond := .code yX2_receive cX2_receive 4 (some .int) :: ([.fieldLink RX2 44 "RingDriverModel" "m" "I", .fieldLink RX2 7 "RingDriverModel" "memory" "[B", .fieldLink RX2 47 "RingDriverModel" "\x72" "I", .fieldLink RX2 17 "RingDriverModel" "writable" "[Z", .fieldLink RX2 23 "RingDriverModel" "inBox" "[B"] ++ wsX20)
def wsX2_taken : List Cond := .code yX2_taken cX2_taken 2 (some .int) :: ([.fieldLink RX2 23 "RingDriverModel" "inBox" "[B"] ++ wsX20)
def wsX2_withdraw : List Cond := .code yX2_withdraw cX2_withdraw 5 (some .int) :: ([.fieldLink RX2 44 "RingDriverModel" "m" "I", .fieldLink RX2 7 "RingDriverModel" "memory" "[B", .fieldLink RX2 47 "RingDriverModel" "\x72" "I", .fieldLink RX2 17 "RingDriverModel" "writable" "[Z"] ++ wsX20)
def wsX2_sending : List Cond := .code yX2_sending cX2_sending 1 (some .int) :: ([.fieldLink RX2 30 "RingDriverModel" "n" "I"] ++ wsX20)
def wsX2_receiving : List Cond := .code yX2_receiving cX2_receiving 1 (some .int) :: ([.fieldLink RX2 44 "RingDriverModel" "m" "I"] ++ wsX20)
def wsL_law_r1 : List Cond := [Cond.classLink RL 7 RX1, Cond.instantiable RX1 6, Cond.initialized RX1, Cond.classLink RL 10 RX2, Cond.instantiable RX2 10, Cond.initialized RX2, Cond.methodLink RL 9 yX1_init, Cond.instanceMethod yX1_init, Cond.code yX1_init cX1_init 1 none, Cond.methodLink RX1 1 objectInit, Cond.instanceMethod objectInit, Cond.code objectInit ⟨#[0xb1]⟩ 1 none, Cond.arrayClass .int, Cond.fieldLink RX1 9 "RingDriver" "memory" "[I", Cond.fieldLink RX1 13 "RingDriver" "outBox" "[I", Cond.fieldLink RX1 16 "RingDriver" "inBox" "[I", Cond.classLink RX1 19 RX0, Cond.instantiable RX0 4, Cond.initialized RX0, Cond.fieldLink RX1 24 "RingDriver" "transmitQueue" "LRingDriver$SlotQueue;", Cond.fieldLink RX1 28 "RingDriver" "receiveQueue" "LRingDriver$SlotQueue;", Cond.fieldLink RX1 31 "RingDriver" "faultCount" "I", Cond.methodLink RX1 21 yX0_init, Cond.instanceMethod yX0_init]
def wsL_law_r2 : List Cond := [Cond.code yX0_init cX0_init 3 none, Cond.methodLink RX0 3 objectInit, Cond.fieldLink RX0 9 "RingDriver$SlotQueue" "ringStart" "I", Cond.fieldLink RX0 15 "RingDriver$SlotQueue" "firstPage" "I", Cond.fieldLink RX0 18 "RingDriver$SlotQueue" "oldest" "I", Cond.fieldLink RX0 21 "RingDriver$SlotQueue" "posted" "I", Cond.methodLink RL 12 yX2_init, Cond.instanceMethod yX2_init, Cond.code yX2_init cX2_init 2 none, Cond.methodLink RX2 1 objectInit, Cond.arrayClass .byte, Cond.fieldLink RX2 7 "RingDriverModel" "memory" "[B", Cond.arrayClass .boolean, Cond.fieldLink RX2 13 "RingDriverModel" "readable" "[Z", Cond.fieldLink RX2 17 "RingDriverModel" "writable" "[Z", Cond.fieldLink RX2 20 "RingDriverModel" "outBox" "[B", Cond.fieldLink RX2 23 "RingDriverModel" "inBox" "[B", Cond.methodLink RL 13 yX1_deviceRead, Cond.instanceMethod yX1_deviceRead, Cond.selects RX1 yX1_deviceRead yX1_deviceRead, Cond.code yX1_deviceRead cX1_deviceRead 2 (some .int), Cond.methodLink RX1 35 yX1_isOpen, Cond.static yX1_isOpen, Cond.code yX1_isOpen cX1_isOpen 2 (some .boolean)]
def wsL_law_r3 : List Cond := [Cond.methodLink RX1 74 yX0_hasPostedPage, Cond.instanceMethod yX0_hasPostedPage, Cond.selects RX0 yX0_hasPostedPage yX0_hasPostedPage, Cond.code yX0_hasPostedPage cX0_hasPostedPage 3 (some .boolean), Cond.methodLink RX1 39 yX1_fault, Cond.instanceMethod yX1_fault, Cond.selects RX1 yX1_fault yX1_fault, Cond.code yX1_fault cX1_fault 1 (some .int), Cond.methodLink RL 17 yX2_deviceRead, Cond.instanceMethod yX2_deviceRead, Cond.selects RX2 yX2_deviceRead yX2_deviceRead, Cond.code yX2_deviceRead cX2_deviceRead 2 (some .int), Cond.fieldLink RX2 26 "RingDriverModel" "faults" "I", Cond.methodLink RL 18 yX1_deviceWrite, Cond.instanceMethod yX1_deviceWrite, Cond.selects RX1 yX1_deviceWrite yX1_deviceWrite, Cond.code yX1_deviceWrite cX1_deviceWrite 3 (some .int), Cond.methodLink RL 22 yX2_deviceWrite, Cond.instanceMethod yX2_deviceWrite, Cond.selects RX2 yX2_deviceWrite yX2_deviceWrite, Cond.code yX2_deviceWrite cX2_deviceWrite 3 (some .int), Cond.methodLink RL 23 yX1_faults, Cond.instanceMethod yX1_faults, Cond.selects RX1 yX1_faults yX1_faults]
def wsL_law_r4 : List Cond := [Cond.code yX1_faults cX1_faults 1 (some .int), Cond.methodLink RL 27 yX2_faults, Cond.instanceMethod yX2_faults, Cond.selects RX2 yX2_faults yX2_faults, Cond.code yX2_faults cX2_faults 1 (some .int), Cond.methodLink RL 28 yX1_load, Cond.instanceMethod yX1_load, Cond.selects RX1 yX1_load yX1_load, Cond.code yX1_load cX1_load 3 (some .boolean), Cond.methodLink RL 32 yX2_load, Cond.instanceMethod yX2_load, Cond.selects RX2 yX2_load yX2_load, Cond.code yX2_load cX2_load 3 (some .boolean), Cond.methodLink RL 33 yX1_send, Cond.instanceMethod yX1_send, Cond.selects RX1 yX1_send yX1_send, Cond.code yX1_send cX1_send 2 (some .int), Cond.methodLink RX1 43 yX1_isFrameLength, Cond.static yX1_isFrameLength, Cond.code yX1_isFrameLength cX1_isFrameLength 1 (some .boolean), Cond.methodLink RX1 47 yX1_postNext, Cond.instanceMethod yX1_postNext, Cond.selects RX1 yX1_postNext yX1_postNext, Cond.code yX1_postNext cX1_postNext 4 (some .int)]
def wsL_law_r5 : List Cond := [Cond.methodLink RX1 71 yX0_size, Cond.instanceMethod yX0_size, Cond.selects RX0 yX0_size yX0_size, Cond.code yX0_size cX0_size 1 (some .int), Cond.methodLink RX1 68 yX0_bufferAt, Cond.instanceMethod yX0_bufferAt, Cond.selects RX0 yX0_bufferAt yX0_bufferAt, Cond.code yX0_bufferAt cX0_bufferAt 2 (some .int), Cond.methodLink RX0 28 yX0_pageAt, Cond.instanceMethod yX0_pageAt, Cond.selects RX0 yX0_pageAt yX0_pageAt, Cond.code yX0_pageAt cX0_pageAt 2 (some .int), Cond.methodLink RX0 24 yX0_slotAt, Cond.instanceMethod yX0_slotAt, Cond.selects RX0 yX0_slotAt yX0_slotAt, Cond.code yX0_slotAt cX0_slotAt 2 (some .int), Cond.methodLink RX1 77 yX1_fillBuffer, Cond.instanceMethod yX1_fillBuffer, Cond.selects RX1 yX1_fillBuffer yX1_fillBuffer, Cond.code yX1_fillBuffer cX1_fillBuffer 4 none, Cond.methodLink RX1 64 yX0_descriptorAt, Cond.instanceMethod yX0_descriptorAt, Cond.selects RX0 yX0_descriptorAt yX0_descriptorAt, Cond.code yX0_descriptorAt cX0_descriptorAt 2 (some .int)]
def wsL_law_r6 : List Cond := [Cond.methodLink RX1 80 yX0_pageAt, Cond.methodLink RX1 83 yX1_fillDescriptor, Cond.instanceMethod yX1_fillDescriptor, Cond.selects RX1 yX1_fillDescriptor yX1_fillDescriptor, Cond.code yX1_fillDescriptor cX1_fillDescriptor 5 none, Cond.methodLink RX1 87 yX0_addNext, Cond.instanceMethod yX0_addNext, Cond.selects RX0 yX0_addNext yX0_addNext, Cond.code yX0_addNext cX0_addNext 1 none, Cond.methodLink RX1 90 yX0_slotAt, Cond.methodLink RL 36 yX2_send, Cond.instanceMethod yX2_send, Cond.selects RX2 yX2_send yX2_send, Cond.code yX2_send cX2_send 4 (some .int), Cond.fieldLink RX2 30 "RingDriverModel" "n" "I", Cond.fieldLink RX2 33 "RingDriverModel" "t" "I", Cond.methodLink RX2 36 yX2_describe, Cond.instanceMethod yX2_describe, Cond.selects RX2 yX2_describe yX2_describe, Cond.code yX2_describe cX2_describe 5 none, Cond.methodLink RL 37 yX1_reclaim, Cond.instanceMethod yX1_reclaim, Cond.selects RX1 yX1_reclaim yX1_reclaim, Cond.code yX1_reclaim cX1_reclaim 2 (some .int)]
def wsL_law_r7 : List Cond := [Cond.methodLink RX1 51 yX1_isGivenBack, Cond.instanceMethod yX1_isGivenBack, Cond.selects RX1 yX1_isGivenBack yX1_isGivenBack, Cond.code yX1_isGivenBack cX1_isGivenBack 3 (some .boolean), Cond.methodLink RX1 55 yX0_removeOldest, Cond.instanceMethod yX0_removeOldest, Cond.selects RX0 yX0_removeOldest yX0_removeOldest, Cond.code yX0_removeOldest cX0_removeOldest 1 none, Cond.methodLink RL 40 yX2_reclaim, Cond.instanceMethod yX2_reclaim, Cond.selects RX2 yX2_reclaim yX2_reclaim, Cond.code yX2_reclaim cX2_reclaim 3 (some .int), Cond.methodLink RL 41 yX1_revoke, Cond.instanceMethod yX1_revoke, Cond.selects RX1 yX1_revoke yX1_revoke, Cond.code yX1_revoke cX1_revoke 1 (some .int), Cond.methodLink RX1 58 yX1_reclaim, Cond.methodLink RX1 61 yX1_closeAllBehind, Cond.instanceMethod yX1_closeAllBehind, Cond.selects RX1 yX1_closeAllBehind yX1_closeAllBehind, Cond.code yX1_closeAllBehind cX1_closeAllBehind 5 (some .int), Cond.methodLink RX1 93 yX0_keepOldest, Cond.instanceMethod yX0_keepOldest, Cond.selects RX0 yX0_keepOldest yX0_keepOldest]
def wsL_law_r8 : List Cond := [Cond.code yX0_keepOldest cX0_keepOldest 2 none, Cond.methodLink RL 44 yX2_revoke, Cond.instanceMethod yX2_revoke, Cond.selects RX2 yX2_revoke yX2_revoke, Cond.code yX2_revoke cX2_revoke 5 (some .int), Cond.methodLink RX2 40 yX2_reclaim, Cond.methodLink RL 45 yX1_post, Cond.instanceMethod yX1_post, Cond.selects RX1 yX1_post yX1_post, Cond.code yX1_post cX1_post 1 (some .int), Cond.methodLink RL 48 yX2_post, Cond.instanceMethod yX2_post, Cond.selects RX2 yX2_post yX2_post, Cond.code yX2_post cX2_post 3 (some .int), Cond.fieldLink RX2 44 "RingDriverModel" "m" "I", Cond.fieldLink RX2 47 "RingDriverModel" "\x72" "I", Cond.methodLink RL 49 yX1_receive, Cond.instanceMethod yX1_receive, Cond.selects RX1 yX1_receive yX1_receive, Cond.code yX1_receive cX1_receive 4 (some .int), Cond.methodLink RL 52 yX2_receive, Cond.instanceMethod yX2_receive, Cond.selects RX2 yX2_receive yX2_receive, Cond.code yX2_receive cX2_receive 4 (some .int)]
def wsL_law_r9 : List Cond := [Cond.methodLink RL 53 yX1_taken, Cond.instanceMethod yX1_taken, Cond.selects RX1 yX1_taken yX1_taken, Cond.code yX1_taken cX1_taken 2 (some .int), Cond.methodLink RL 56 yX2_taken, Cond.instanceMethod yX2_taken, Cond.selects RX2 yX2_taken yX2_taken, Cond.code yX2_taken cX2_taken 2 (some .int), Cond.methodLink RL 57 yX1_withdraw, Cond.instanceMethod yX1_withdraw, Cond.selects RX1 yX1_withdraw yX1_withdraw, Cond.code yX1_withdraw cX1_withdraw 2 (some .int), Cond.methodLink RL 60 yX2_withdraw, Cond.instanceMethod yX2_withdraw, Cond.selects RX2 yX2_withdraw yX2_withdraw, Cond.code yX2_withdraw cX2_withdraw 5 (some .int), Cond.methodLink RL 61 yX1_sending, Cond.instanceMethod yX1_sending, Cond.selects RX1 yX1_sending yX1_sending, Cond.code yX1_sending cX1_sending 1 (some .int), Cond.methodLink RL 64 yX2_sending, Cond.instanceMethod yX2_sending, Cond.selects RX2 yX2_sending yX2_sending, Cond.code yX2_sending cX2_sending 1 (some .int)]
def wsL_law_r10 : List Cond := [Cond.methodLink RL 65 yX1_receiving, Cond.instanceMethod yX1_receiving, Cond.selects RX1 yX1_receiving yX1_receiving, Cond.code yX1_receiving cX1_receiving 1 (some .int), Cond.methodLink RL 68 yX2_receiving, Cond.instanceMethod yX2_receiving, Cond.selects RX2 yX2_receiving yX2_receiving, Cond.code yX2_receiving cX2_receiving 1 (some .int)]
def wsL_law : List Cond := (wsL_law_r1 ++ (wsL_law_r2 ++ (wsL_law_r3 ++ (wsL_law_r4 ++ (wsL_law_r5 ++ (wsL_law_r6 ++ (wsL_law_r7 ++ (wsL_law_r8 ++ (wsL_law_r9 ++ wsL_law_r10))))))))) ++ wsX10 ++ wsX20 ++ wsX00 ++ ([] : List Cond)
set_option maxRecDepth 20000 in
theorem wsL_law_in : ∀ w ∈ wsL_law, w ∈ lw_tbl := fun w h => (goodIn_p wsL_law [15, 18, 23, 183, 61, 64, 68, 72, 221, 76, 225, 80, 229, 84, 233, 88, 91, 95, 99, 103, 107, 111, 115, 119, 124, 128, 237, 241, 133, 137, 141, 245, 145, 150, 154, 249, 158, 254, 162, 258, 166, 262, 170, 266, 174, 270, 178, 274] (by decide +kernel) (by decide +kernel) w h).1
theorem inlX0 : ∀ w ∈ wsX00, w ∈ wsL_law := fun _ h => List.mem_append_left _ (List.mem_append_right _ h)
theorem inX0 : ∀ w ∈ wsX00, w ∈ lw_tbl := fun w h => wsL_law_in w (inlX0 w h)
theorem inlX1 : ∀ w ∈ wsX10, w ∈ wsL_law := fun _ h => List.mem_append_left _ (List.mem_append_left _ (List.mem_append_left _ (List.mem_append_right _ h)))
theorem inX1 : ∀ w ∈ wsX10, w ∈ lw_tbl := fun w h => wsL_law_in w (inlX1 w h)
theorem inlX2 : ∀ w ∈ wsX20, w ∈ wsL_law := fun _ h => List.mem_append_left _ (List.mem_append_left _ (List.mem_append_right _ h))
theorem inX2 : ∀ w ∈ wsX20, w ∈ lw_tbl := fun w h => wsL_law_in w (inlX2 w h)
theorem dX0_init_0 : decode cX0_init 0 = .ok (.aload_n 0, 1) := by decide +kernel
theorem dX0_init_1 : decode cX0_init 1 = .ok (.invokespecial 3, 3) := by decide +kernel
theorem dX0_init_4 : decode cX0_init 4 = .ok (.aload_n 0, 1) := by decide +kernel
theorem dX0_init_5 : decode cX0_init 5 = .ok (.iload_n 1, 1) := by decide +kernel
theorem dX0_init_6 : decode cX0_init 6 = .ok (.putfield 9, 3) := by decide +kernel
theorem dX0_init_9 : decode cX0_init 9 = .ok (.aload_n 0, 1) := by decide +kernel
theorem dX0_init_10 : decode cX0_init 10 = .ok (.iload_n 2, 1) := by decide +kernel
theorem dX0_init_11 : decode cX0_init 11 = .ok (.putfield 15, 3) := by decide +kernel
theorem dX0_init_14 : decode cX0_init 14 = .ok (.aload_n 0, 1) := by decide +kernel
theorem dX0_init_15 : decode cX0_init 15 = .ok (.iconst 0, 1) := by decide +kernel
theorem dX0_init_16 : decode cX0_init 16 = .ok (.putfield 18, 3) := by decide +kernel
theorem dX0_init_19 : decode cX0_init 19 = .ok (.aload_n 0, 1) := by decide +kernel
theorem dX0_init_20 : decode cX0_init 20 = .ok (.iconst 0, 1) := by decide +kernel
theorem dX0_init_21 : decode cX0_init 21 = .ok (.putfield 21, 3) := by decide +kernel
theorem dX0_init_24 : decode cX0_init 24 = .ok (.return_, 1) := by decide +kernel
theorem dX0_size_0 : decode cX0_size 0 = .ok (.aload_n 0, 1) := by decide +kernel
theorem dX0_size_1 : decode cX0_size 1 = .ok (.getfield 21, 3) := by decide +kernel
theorem dX0_size_4 : decode cX0_size 4 = .ok (.ireturn, 1) := by decide +kernel
theorem dX0_slotAt_0 : decode cX0_slotAt 0 = .ok (.aload_n 0, 1) := by decide +kernel
theorem dX0_slotAt_1 : decode cX0_slotAt 1 = .ok (.getfield 18, 3) := by decide +kernel
theorem dX0_slotAt_4 : decode cX0_slotAt 4 = .ok (.iload_n 1, 1) := by decide +kernel
theorem dX0_slotAt_5 : decode cX0_slotAt 5 = .ok (.iadd, 1) := by decide +kernel
theorem dX0_slotAt_6 : decode cX0_slotAt 6 = .ok (.bipush 7, 2) := by decide +kernel
theorem dX0_slotAt_8 : decode cX0_slotAt 8 = .ok (.iand, 1) := by decide +kernel
theorem dX0_slotAt_9 : decode cX0_slotAt 9 = .ok (.ireturn, 1) := by decide +kernel
set_option maxRecDepth 20000 in
theorem ggX0_pageAt_X0_slotAt : GoodIn wsX0_pageAt wsX0_slotAt := goodIn_r _ [6, 7, 8, 9, 10, 11] (by decide +kernel) (by decide +kernel)
set_option maxRecDepth 20000 in
theorem gX0_pageAt_X0_slotAt : GoodIn wsX0_pageAt (wsV RX0 24 RX0 yX0_slotAt wsX0_slotAt) := goodIn_app (goodIn_of _ (by decide +kernel)) ggX0_pageAt_X0_slotAt
theorem dX0_pageAt_0 : decode cX0_pageAt 0 = .ok (.aload_n 0, 1) := by decide +kernel
theorem dX0_pageAt_1 : decode cX0_pageAt 1 = .ok (.getfield 15, 3) := by decide +kernel
theorem dX0_pageAt_4 : decode cX0_pageAt 4 = .ok (.aload_n 0, 1) := by decide +kernel
theorem dX0_pageAt_5 : decode cX0_pageAt 5 = .ok (.iload_n 1, 1) := by decide +kernel
theorem dX0_pageAt_6 : decode cX0_pageAt 6 = .ok (.invokevirtual 24, 3) := by decide +kernel
theorem dX0_pageAt_9 : decode cX0_pageAt 9 = .ok (.iadd, 1) := by decide +kernel
theorem dX0_pageAt_10 : decode cX0_pageAt 10 = .ok (.ireturn, 1) := by decide +kernel
set_option maxRecDepth 20000 in
theorem ggX0_bufferAt_X0_pageAt : GoodIn wsX0_bufferAt wsX0_pageAt := goodIn_r _ [5, 6, 7, 8, 9, 4, 10, 11, 12, 13, 14, 15] (by decide +kernel) (by decide +kernel)
set_option maxRecDepth 20000 in
theorem gX0_bufferAt_X0_pageAt : GoodIn wsX0_bufferAt (wsV RX0 28 RX0 yX0_pageAt wsX0_pageAt) := goodIn_app (goodIn_of _ (by decide +kernel)) ggX0_bufferAt_X0_pageAt
theorem dX0_bufferAt_0 : decode cX0_bufferAt 0 = .ok (.bipush 16, 2) := by decide +kernel
theorem dX0_bufferAt_2 : decode cX0_bufferAt 2 = .ok (.aload_n 0, 1) := by decide +kernel
theorem dX0_bufferAt_3 : decode cX0_bufferAt 3 = .ok (.iload_n 1, 1) := by decide +kernel
theorem dX0_bufferAt_4 : decode cX0_bufferAt 4 = .ok (.invokevirtual 28, 3) := by decide +kernel
theorem dX0_bufferAt_7 : decode cX0_bufferAt 7 = .ok (.imul, 1) := by decide +kernel
theorem dX0_bufferAt_8 : decode cX0_bufferAt 8 = .ok (.ireturn, 1) := by decide +kernel
set_option maxRecDepth 20000 in
theorem ggX0_descriptorAt_X0_slotAt : GoodIn wsX0_descriptorAt wsX0_slotAt := goodIn_r _ [6, 7, 8, 9, 10, 11] (by decide +kernel) (by decide +kernel)
set_option maxRecDepth 20000 in
theorem gX0_descriptorAt_X0_slotAt : GoodIn wsX0_descriptorAt (wsV RX0 24 RX0 yX0_slotAt wsX0_slotAt) := goodIn_app (goodIn_of _ (by decide +kernel)) ggX0_descriptorAt_X0_slotAt
theorem dX0_descriptorAt_0 : decode cX0_descriptorAt 0 = .ok (.aload_n 0, 1) := by decide +kernel
theorem dX0_descriptorAt_1 : decode cX0_descriptorAt 1 = .ok (.getfield 9, 3) := by decide +kernel
theorem dX0_descriptorAt_4 : decode cX0_descriptorAt 4 = .ok (.bipush 8, 2) := by decide +kernel
theorem dX0_descriptorAt_6 : decode cX0_descriptorAt 6 = .ok (.aload_n 0, 1) := by decide +kernel
theorem dX0_descriptorAt_7 : decode cX0_descriptorAt 7 = .ok (.iload_n 1, 1) := by decide +kernel
theorem dX0_descriptorAt_8 : decode cX0_descriptorAt 8 = .ok (.invokevirtual 24, 3) := by decide +kernel
theorem dX0_descriptorAt_11 : decode cX0_descriptorAt 11 = .ok (.imul, 1) := by decide +kernel
theorem dX0_descriptorAt_12 : decode cX0_descriptorAt 12 = .ok (.iadd, 1) := by decide +kernel
theorem dX0_descriptorAt_13 : decode cX0_descriptorAt 13 = .ok (.ireturn, 1) := by decide +kernel
theorem dX0_hasPostedPage_0 : decode cX0_hasPostedPage 0 = .ok (.iload_n 1, 1) := by decide +kernel
theorem dX0_hasPostedPage_1 : decode cX0_hasPostedPage 1 = .ok (.aload_n 0, 1) := by decide +kernel
theorem dX0_hasPostedPage_2 : decode cX0_hasPostedPage 2 = .ok (.getfield 15, 3) := by decide +kernel
theorem dX0_hasPostedPage_5 : decode cX0_hasPostedPage 5 = .ok (.isub, 1) := by decide +kernel
theorem dX0_hasPostedPage_6 : decode cX0_hasPostedPage 6 = .ok (.istore_n 2, 1) := by decide +kernel
theorem dX0_hasPostedPage_7 : decode cX0_hasPostedPage 7 = .ok (.iload_n 2, 1) := by decide +kernel
theorem dX0_hasPostedPage_8 : decode cX0_hasPostedPage 8 = .ok (.ifCond .lt 29, 3) := by decide +kernel
theorem dX0_hasPostedPage_11 : decode cX0_hasPostedPage 11 = .ok (.iload_n 2, 1) := by decide +kernel
theorem dX0_hasPostedPage_12 : decode cX0_hasPostedPage 12 = .ok (.bipush 8, 2) := by decide +kernel
theorem dX0_hasPostedPage_14 : decode cX0_hasPostedPage 14 = .ok (.if_icmp .ge 23, 3) := by decide +kernel
theorem dX0_hasPostedPage_17 : decode cX0_hasPostedPage 17 = .ok (.iload_n 2, 1) := by decide +kernel
theorem dX0_hasPostedPage_18 : decode cX0_hasPostedPage 18 = .ok (.aload_n 0, 1) := by decide +kernel
theorem dX0_hasPostedPage_19 : decode cX0_hasPostedPage 19 = .ok (.getfield 18, 3) := by decide +kernel
theorem dX0_hasPostedPage_22 : decode cX0_hasPostedPage 22 = .ok (.isub, 1) := by decide +kernel
theorem dX0_hasPostedPage_23 : decode cX0_hasPostedPage 23 = .ok (.bipush 7, 2) := by decide +kernel
theorem dX0_hasPostedPage_25 : decode cX0_hasPostedPage 25 = .ok (.iand, 1) := by decide +kernel
theorem dX0_hasPostedPage_26 : decode cX0_hasPostedPage 26 = .ok (.aload_n 0, 1) := by decide +kernel
theorem dX0_hasPostedPage_27 : decode cX0_hasPostedPage 27 = .ok (.getfield 21, 3) := by decide +kernel
theorem dX0_hasPostedPage_30 : decode cX0_hasPostedPage 30 = .ok (.if_icmp .ge 7, 3) := by decide +kernel
theorem dX0_hasPostedPage_33 : decode cX0_hasPostedPage 33 = .ok (.iconst 1, 1) := by decide +kernel
theorem dX0_hasPostedPage_34 : decode cX0_hasPostedPage 34 = .ok (.goto 4, 3) := by decide +kernel
theorem dX0_hasPostedPage_37 : decode cX0_hasPostedPage 37 = .ok (.iconst 0, 1) := by decide +kernel
theorem dX0_hasPostedPage_38 : decode cX0_hasPostedPage 38 = .ok (.ireturn, 1) := by decide +kernel
theorem dX0_addNext_0 : decode cX0_addNext 0 = .ok (.aload_n 0, 1) := by decide +kernel
theorem dX0_addNext_1 : decode cX0_addNext 1 = .ok (.dup, 1) := by decide +kernel
theorem dX0_addNext_2 : decode cX0_addNext 2 = .ok (.getfield 21, 3) := by decide +kernel
theorem dX0_addNext_5 : decode cX0_addNext 5 = .ok (.iconst 1, 1) := by decide +kernel
theorem dX0_addNext_6 : decode cX0_addNext 6 = .ok (.iadd, 1) := by decide +kernel
theorem dX0_addNext_7 : decode cX0_addNext 7 = .ok (.putfield 21, 3) := by decide +kernel
theorem dX0_addNext_10 : decode cX0_addNext 10 = .ok (.return_, 1) := by decide +kernel
set_option maxRecDepth 20000 in
theorem ggX0_removeOldest_X0_slotAt : GoodIn wsX0_removeOldest wsX0_slotAt := goodIn_r _ [7, 1, 8, 9, 10, 11] (by decide +kernel) (by decide +kernel)
set_option maxRecDepth 20000 in
theorem gX0_removeOldest_X0_slotAt : GoodIn wsX0_removeOldest (wsV RX0 24 RX0 yX0_slotAt wsX0_slotAt) := goodIn_app (goodIn_of _ (by decide +kernel)) ggX0_removeOldest_X0_slotAt
theorem dX0_removeOldest_0 : decode cX0_removeOldest 0 = .ok (.aload_n 0, 1) := by decide +kernel
theorem dX0_removeOldest_1 : decode cX0_removeOldest 1 = .ok (.aload_n 0, 1) := by decide +kernel
theorem dX0_removeOldest_2 : decode cX0_removeOldest 2 = .ok (.iconst 1, 1) := by decide +kernel
theorem dX0_removeOldest_3 : decode cX0_removeOldest 3 = .ok (.invokevirtual 24, 3) := by decide +kernel
theorem dX0_removeOldest_6 : decode cX0_removeOldest 6 = .ok (.putfield 18, 3) := by decide +kernel
theorem dX0_removeOldest_9 : decode cX0_removeOldest 9 = .ok (.aload_n 0, 1) := by decide +kernel
theorem dX0_removeOldest_10 : decode cX0_removeOldest 10 = .ok (.dup, 1) := by decide +kernel
theorem dX0_removeOldest_11 : decode cX0_removeOldest 11 = .ok (.getfield 21, 3) := by decide +kernel
theorem dX0_removeOldest_14 : decode cX0_removeOldest 14 = .ok (.iconst 1, 1) := by decide +kernel
theorem dX0_removeOldest_15 : decode cX0_removeOldest 15 = .ok (.isub, 1) := by decide +kernel
theorem dX0_removeOldest_16 : decode cX0_removeOldest 16 = .ok (.putfield 21, 3) := by decide +kernel
theorem dX0_removeOldest_19 : decode cX0_removeOldest 19 = .ok (.return_, 1) := by decide +kernel
theorem dX0_keepOldest_0 : decode cX0_keepOldest 0 = .ok (.aload_n 0, 1) := by decide +kernel
theorem dX0_keepOldest_1 : decode cX0_keepOldest 1 = .ok (.iload_n 1, 1) := by decide +kernel
theorem dX0_keepOldest_2 : decode cX0_keepOldest 2 = .ok (.putfield 21, 3) := by decide +kernel
theorem dX0_keepOldest_5 : decode cX0_keepOldest 5 = .ok (.return_, 1) := by decide +kernel
set_option maxRecDepth 20000 in
theorem ggX1_init_X0_init : GoodIn wsX1_init wsX0_init := goodIn_r _ [16, 17, 2, 3, 18, 19, 20, 21, 28, 29, 30, 31] (by decide +kernel) (by decide +kernel)
set_option maxRecDepth 20000 in
theorem gX1_init_X0_init : GoodIn wsX1_init (wsX0_init) := ggX1_init_X0_init
theorem dX1_init_0 : decode cX1_init 0 = .ok (.aload_n 0, 1) := by decide +kernel
theorem dX1_init_1 : decode cX1_init 1 = .ok (.invokespecial 1, 3) := by decide +kernel
theorem dX1_init_4 : decode cX1_init 4 = .ok (.aload_n 0, 1) := by decide +kernel
theorem dX1_init_5 : decode cX1_init 5 = .ok (.sipush 384, 3) := by decide +kernel
theorem dX1_init_8 : decode cX1_init 8 = .ok (.newarray .int, 2) := by decide +kernel
theorem dX1_init_10 : decode cX1_init 10 = .ok (.putfield 9, 3) := by decide +kernel
theorem dX1_init_13 : decode cX1_init 13 = .ok (.aload_n 0, 1) := by decide +kernel
theorem dX1_init_14 : decode cX1_init 14 = .ok (.bipush 16, 2) := by decide +kernel
theorem dX1_init_16 : decode cX1_init 16 = .ok (.newarray .int, 2) := by decide +kernel
theorem dX1_init_18 : decode cX1_init 18 = .ok (.putfield 13, 3) := by decide +kernel
theorem dX1_init_21 : decode cX1_init 21 = .ok (.aload_n 0, 1) := by decide +kernel
theorem dX1_init_22 : decode cX1_init 22 = .ok (.bipush 16, 2) := by decide +kernel
theorem dX1_init_24 : decode cX1_init 24 = .ok (.newarray .int, 2) := by decide +kernel
theorem dX1_init_26 : decode cX1_init 26 = .ok (.putfield 16, 3) := by decide +kernel
theorem dX1_init_29 : decode cX1_init 29 = .ok (.aload_n 0, 1) := by decide +kernel
theorem dX1_init_30 : decode cX1_init 30 = .ok (.new 19, 3) := by decide +kernel
theorem dX1_init_33 : decode cX1_init 33 = .ok (.dup, 1) := by decide +kernel
theorem dX1_init_34 : decode cX1_init 34 = .ok (.iconst 0, 1) := by decide +kernel
theorem dX1_init_35 : decode cX1_init 35 = .ok (.bipush 8, 2) := by decide +kernel
theorem dX1_init_37 : decode cX1_init 37 = .ok (.invokespecial 21, 3) := by decide +kernel
theorem dX1_init_40 : decode cX1_init 40 = .ok (.putfield 24, 3) := by decide +kernel
theorem dX1_init_43 : decode cX1_init 43 = .ok (.aload_n 0, 1) := by decide +kernel
theorem dX1_init_44 : decode cX1_init 44 = .ok (.new 19, 3) := by decide +kernel
theorem dX1_init_47 : decode cX1_init 47 = .ok (.dup, 1) := by decide +kernel
theorem dX1_init_48 : decode cX1_init 48 = .ok (.bipush 64, 2) := by decide +kernel
theorem dX1_init_50 : decode cX1_init 50 = .ok (.bipush 16, 2) := by decide +kernel
theorem dX1_init_52 : decode cX1_init 52 = .ok (.invokespecial 21, 3) := by decide +kernel
theorem dX1_init_55 : decode cX1_init 55 = .ok (.putfield 28, 3) := by decide +kernel
theorem dX1_init_58 : decode cX1_init 58 = .ok (.aload_n 0, 1) := by decide +kernel
theorem dX1_init_59 : decode cX1_init 59 = .ok (.iconst 0, 1) := by decide +kernel
theorem dX1_init_60 : decode cX1_init 60 = .ok (.putfield 31, 3) := by decide +kernel
theorem dX1_init_63 : decode cX1_init 63 = .ok (.return_, 1) := by decide +kernel
set_option maxRecDepth 20000 in
theorem ggX1_deviceRead_X1_isOpen : GoodIn wsX1_deviceRead wsX1_isOpen := goodIn_r _ [6, 7, 8, 9, 10, 11, 12, 13, 14, 26, 27, 28, 29] (by decide +kernel) (by decide +kernel)
set_option maxRecDepth 20000 in
theorem gX1_deviceRead_X1_isOpen : GoodIn wsX1_deviceRead (va_wsS RX1 35 yX1_isOpen wsX1_isOpen) := goodIn_app (goodIn_of _ (by decide +kernel)) ggX1_deviceRead_X1_isOpen
set_option maxRecDepth 20000 in
theorem ggX1_deviceRead_X1_fault : GoodIn wsX1_deviceRead wsX1_fault := goodIn_r _ [18, 19, 20, 21, 22, 23, 24, 25] (by decide +kernel) (by decide +kernel)
set_option maxRecDepth 20000 in
theorem gX1_deviceRead_X1_fault : GoodIn wsX1_deviceRead (wsV RX1 39 RX1 yX1_fault wsX1_fault) := goodIn_app (goodIn_of _ (by decide +kernel)) ggX1_deviceRead_X1_fault
theorem dX1_deviceRead_0 : decode cX1_deviceRead 0 = .ok (.iload_n 1, 1) := by decide +kernel
theorem dX1_deviceRead_1 : decode cX1_deviceRead 1 = .ok (.ifCond .lt 21, 3) := by decide +kernel
theorem dX1_deviceRead_4 : decode cX1_deviceRead 4 = .ok (.iload_n 1, 1) := by decide +kernel
theorem dX1_deviceRead_5 : decode cX1_deviceRead 5 = .ok (.sipush 384, 3) := by decide +kernel
theorem dX1_deviceRead_8 : decode cX1_deviceRead 8 = .ok (.if_icmp .ge 14, 3) := by decide +kernel
theorem dX1_deviceRead_11 : decode cX1_deviceRead 11 = .ok (.iload_n 1, 1) := by decide +kernel
theorem dX1_deviceRead_12 : decode cX1_deviceRead 12 = .ok (.aload_n 0, 1) := by decide +kernel
theorem dX1_deviceRead_13 : decode cX1_deviceRead 13 = .ok (.getfield 24, 3) := by decide +kernel
theorem dX1_deviceRead_16 : decode cX1_deviceRead 16 = .ok (.invokestatic 35, 3) := by decide +kernel
theorem dX1_deviceRead_19 : decode cX1_deviceRead 19 = .ok (.ifCond .ne 8, 3) := by decide +kernel
theorem dX1_deviceRead_22 : decode cX1_deviceRead 22 = .ok (.aload_n 0, 1) := by decide +kernel
theorem dX1_deviceRead_23 : decode cX1_deviceRead 23 = .ok (.invokevirtual 39, 3) := by decide +kernel
theorem dX1_deviceRead_26 : decode cX1_deviceRead 26 = .ok (.ireturn, 1) := by decide +kernel
theorem dX1_deviceRead_27 : decode cX1_deviceRead 27 = .ok (.aload_n 0, 1) := by decide +kernel
theorem dX1_deviceRead_28 : decode cX1_deviceRead 28 = .ok (.getfield 9, 3) := by decide +kernel
theorem dX1_deviceRead_31 : decode cX1_deviceRead 31 = .ok (.iload_n 1, 1) := by decide +kernel
theorem dX1_deviceRead_32 : decode cX1_deviceRead 32 = .ok (.iaload, 1) := by decide +kernel
theorem dX1_deviceRead_33 : decode cX1_deviceRead 33 = .ok (.ireturn, 1) := by decide +kernel
set_option maxRecDepth 20000 in
theorem ggX1_deviceWrite_X1_isOpen : GoodIn wsX1_deviceWrite wsX1_isOpen := goodIn_r _ [6, 7, 8, 9, 10, 11, 12, 13, 14, 26, 27, 28, 29] (by decide +kernel) (by decide +kernel)
set_option maxRecDepth 20000 in
theorem gX1_deviceWrite_X1_isOpen : GoodIn wsX1_deviceWrite (va_wsS RX1 35 yX1_isOpen wsX1_isOpen) := goodIn_app (goodIn_of _ (by decide +kernel)) ggX1_deviceWrite_X1_isOpen
set_option maxRecDepth 20000 in
theorem ggX1_deviceWrite_X1_fault : GoodIn wsX1_deviceWrite wsX1_fault := goodIn_r _ [18, 19, 20, 21, 22, 23, 24, 25] (by decide +kernel) (by decide +kernel)
set_option maxRecDepth 20000 in
theorem gX1_deviceWrite_X1_fault : GoodIn wsX1_deviceWrite (wsV RX1 39 RX1 yX1_fault wsX1_fault) := goodIn_app (goodIn_of _ (by decide +kernel)) ggX1_deviceWrite_X1_fault
theorem dX1_deviceWrite_0 : decode cX1_deviceWrite 0 = .ok (.iload_n 1, 1) := by decide +kernel
theorem dX1_deviceWrite_1 : decode cX1_deviceWrite 1 = .ok (.ifCond .lt 21, 3) := by decide +kernel
theorem dX1_deviceWrite_4 : decode cX1_deviceWrite 4 = .ok (.iload_n 1, 1) := by decide +kernel
theorem dX1_deviceWrite_5 : decode cX1_deviceWrite 5 = .ok (.sipush 384, 3) := by decide +kernel
theorem dX1_deviceWrite_8 : decode cX1_deviceWrite 8 = .ok (.if_icmp .ge 14, 3) := by decide +kernel
theorem dX1_deviceWrite_11 : decode cX1_deviceWrite 11 = .ok (.iload_n 1, 1) := by decide +kernel
theorem dX1_deviceWrite_12 : decode cX1_deviceWrite 12 = .ok (.aload_n 0, 1) := by decide +kernel
theorem dX1_deviceWrite_13 : decode cX1_deviceWrite 13 = .ok (.getfield 28, 3) := by decide +kernel
theorem dX1_deviceWrite_16 : decode cX1_deviceWrite 16 = .ok (.invokestatic 35, 3) := by decide +kernel
theorem dX1_deviceWrite_19 : decode cX1_deviceWrite 19 = .ok (.ifCond .ne 8, 3) := by decide +kernel
theorem dX1_deviceWrite_22 : decode cX1_deviceWrite 22 = .ok (.aload_n 0, 1) := by decide +kernel
theorem dX1_deviceWrite_23 : decode cX1_deviceWrite 23 = .ok (.invokevirtual 39, 3) := by decide +kernel
theorem dX1_deviceWrite_26 : decode cX1_deviceWrite 26 = .ok (.ireturn, 1) := by decide +kernel
theorem dX1_deviceWrite_27 : decode cX1_deviceWrite 27 = .ok (.aload_n 0, 1) := by decide +kernel
theorem dX1_deviceWrite_28 : decode cX1_deviceWrite 28 = .ok (.getfield 9, 3) := by decide +kernel
theorem dX1_deviceWrite_31 : decode cX1_deviceWrite 31 = .ok (.iload_n 1, 1) := by decide +kernel
theorem dX1_deviceWrite_32 : decode cX1_deviceWrite 32 = .ok (.iload_n 2, 1) := by decide +kernel
theorem dX1_deviceWrite_33 : decode cX1_deviceWrite 33 = .ok (.sipush 255, 3) := by decide +kernel
theorem dX1_deviceWrite_36 : decode cX1_deviceWrite 36 = .ok (.iand, 1) := by decide +kernel
theorem dX1_deviceWrite_37 : decode cX1_deviceWrite 37 = .ok (.iastore, 1) := by decide +kernel
theorem dX1_deviceWrite_38 : decode cX1_deviceWrite 38 = .ok (.iconst 0, 1) := by decide +kernel
theorem dX1_deviceWrite_39 : decode cX1_deviceWrite 39 = .ok (.ireturn, 1) := by decide +kernel
theorem dX1_faults_0 : decode cX1_faults 0 = .ok (.aload_n 0, 1) := by decide +kernel
theorem dX1_faults_1 : decode cX1_faults 1 = .ok (.getfield 31, 3) := by decide +kernel
theorem dX1_faults_4 : decode cX1_faults 4 = .ok (.ireturn, 1) := by decide +kernel
theorem dX1_load_0 : decode cX1_load 0 = .ok (.iload_n 1, 1) := by decide +kernel
theorem dX1_load_1 : decode cX1_load 1 = .ok (.ifCond .lt 9, 3) := by decide +kernel
theorem dX1_load_4 : decode cX1_load 4 = .ok (.iload_n 1, 1) := by decide +kernel
theorem dX1_load_5 : decode cX1_load 5 = .ok (.bipush 16, 2) := by decide +kernel
theorem dX1_load_7 : decode cX1_load 7 = .ok (.if_icmp .lt 5, 3) := by decide +kernel
theorem dX1_load_10 : decode cX1_load 10 = .ok (.iconst 0, 1) := by decide +kernel
theorem dX1_load_11 : decode cX1_load 11 = .ok (.ireturn, 1) := by decide +kernel
theorem dX1_load_12 : decode cX1_load 12 = .ok (.aload_n 0, 1) := by decide +kernel
theorem dX1_load_13 : decode cX1_load 13 = .ok (.getfield 13, 3) := by decide +kernel
theorem dX1_load_16 : decode cX1_load 16 = .ok (.iload_n 1, 1) := by decide +kernel
theorem dX1_load_17 : decode cX1_load 17 = .ok (.iload_n 2, 1) := by decide +kernel
theorem dX1_load_18 : decode cX1_load 18 = .ok (.sipush 255, 3) := by decide +kernel
theorem dX1_load_21 : decode cX1_load 21 = .ok (.iand, 1) := by decide +kernel
theorem dX1_load_22 : decode cX1_load 22 = .ok (.iastore, 1) := by decide +kernel
theorem dX1_load_23 : decode cX1_load 23 = .ok (.iconst 1, 1) := by decide +kernel
theorem dX1_load_24 : decode cX1_load 24 = .ok (.ireturn, 1) := by decide +kernel
set_option maxRecDepth 20000 in
theorem ggX1_send_X1_isFrameLength : GoodIn wsX1_send wsX1_isFrameLength := goodIn_r _ [5] (by decide +kernel) (by decide +kernel)
set_option maxRecDepth 20000 in
theorem gX1_send_X1_isFrameLength : GoodIn wsX1_send (va_wsS RX1 43 yX1_isFrameLength wsX1_isFrameLength) := goodIn_app (goodIn_of _ (by decide +kernel)) ggX1_send_X1_isFrameLength
set_option maxRecDepth 20000 in
theorem ggX1_send_X1_postNext : GoodIn wsX1_send wsX1_postNext := goodIn_r _ [9, 10, 11, 12, 13, 14, 15, 16, 17, 18, 19, 20, 21, 22, 23, 24, 25, 26, 27, 28, 29, 30, 31, 32, 4, 33, 34, 35, 36, 37, 38, 39, 40, 41, 42, 43, 44, 45, 46, 47, 48, 49, 50, 57, 58, 59, 60, 51, 52, 53, 54, 55, 56] (by decide +kernel) (by decide +kernel)
set_option maxRecDepth 20000 in
theorem gX1_send_X1_postNext : GoodIn wsX1_send (wsV RX1 47 RX1 yX1_postNext wsX1_postNext) := goodIn_app (goodIn_of _ (by decide +kernel)) ggX1_send_X1_postNext
theorem dX1_send_0 : decode cX1_send 0 = .ok (.iload_n 1, 1) := by decide +kernel
theorem dX1_send_1 : decode cX1_send 1 = .ok (.invokestatic 43, 3) := by decide +kernel
theorem dX1_send_4 : decode cX1_send 4 = .ok (.ifCond .ne 6, 3) := by decide +kernel
theorem dX1_send_7 : decode cX1_send 7 = .ok (.bipush (-2), 2) := by decide +kernel
theorem dX1_send_9 : decode cX1_send 9 = .ok (.ireturn, 1) := by decide +kernel
theorem dX1_send_10 : decode cX1_send 10 = .ok (.aload_n 0, 1) := by decide +kernel
theorem dX1_send_11 : decode cX1_send 11 = .ok (.aload_n 0, 1) := by decide +kernel
theorem dX1_send_12 : decode cX1_send 12 = .ok (.getfield 24, 3) := by decide +kernel
theorem dX1_send_15 : decode cX1_send 15 = .ok (.iload_n 1, 1) := by decide +kernel
theorem dX1_send_16 : decode cX1_send 16 = .ok (.invokevirtual 47, 3) := by decide +kernel
theorem dX1_send_19 : decode cX1_send 19 = .ok (.ireturn, 1) := by decide +kernel
set_option maxRecDepth 20000 in
theorem ggX1_reclaim_X1_isGivenBack : GoodIn wsX1_reclaim wsX1_isGivenBack := goodIn_r _ [6, 7, 8, 9, 10, 11, 12, 13, 14, 15, 16, 17, 18, 19, 20, 21, 22, 23, 28, 29, 30, 31, 32, 33, 34, 35, 36, 37] (by decide +kernel) (by decide +kernel)
set_option maxRecDepth 20000 in
theorem gX1_reclaim_X1_isGivenBack : GoodIn wsX1_reclaim (wsV RX1 51 RX1 yX1_isGivenBack wsX1_isGivenBack) := goodIn_app (goodIn_of _ (by decide +kernel)) ggX1_reclaim_X1_isGivenBack
set_option maxRecDepth 20000 in
theorem ggX1_reclaim_X0_removeOldest : GoodIn wsX1_reclaim wsX0_removeOldest := goodIn_r _ [27, 23, 13, 19, 20, 21, 11, 22, 34, 35, 36, 37] (by decide +kernel) (by decide +kernel)
set_option maxRecDepth 20000 in
theorem gX1_reclaim_X0_removeOldest : GoodIn wsX1_reclaim (wsV RX1 55 RX0 yX0_removeOldest wsX0_removeOldest) := goodIn_app (goodIn_of _ (by decide +kernel)) ggX1_reclaim_X0_removeOldest
theorem dX1_reclaim_0 : decode cX1_reclaim 0 = .ok (.iconst 0, 1) := by decide +kernel
theorem dX1_reclaim_1 : decode cX1_reclaim 1 = .ok (.istore_n 1, 1) := by decide +kernel
theorem dX1_reclaim_2 : decode cX1_reclaim 2 = .ok (.iload_n 1, 1) := by decide +kernel
theorem dX1_reclaim_3 : decode cX1_reclaim 3 = .ok (.bipush 8, 2) := by decide +kernel
theorem dX1_reclaim_5 : decode cX1_reclaim 5 = .ok (.if_icmp .ge 28, 3) := by decide +kernel
theorem dX1_reclaim_8 : decode cX1_reclaim 8 = .ok (.aload_n 0, 1) := by decide +kernel
theorem dX1_reclaim_9 : decode cX1_reclaim 9 = .ok (.aload_n 0, 1) := by decide +kernel
theorem dX1_reclaim_10 : decode cX1_reclaim 10 = .ok (.getfield 24, 3) := by decide +kernel
theorem dX1_reclaim_13 : decode cX1_reclaim 13 = .ok (.iconst 0, 1) := by decide +kernel
theorem dX1_reclaim_14 : decode cX1_reclaim 14 = .ok (.invokevirtual 51, 3) := by decide +kernel
theorem dX1_reclaim_17 : decode cX1_reclaim 17 = .ok (.ifCond .eq 16, 3) := by decide +kernel
theorem dX1_reclaim_20 : decode cX1_reclaim 20 = .ok (.aload_n 0, 1) := by decide +kernel
theorem dX1_reclaim_21 : decode cX1_reclaim 21 = .ok (.getfield 24, 3) := by decide +kernel
theorem dX1_reclaim_24 : decode cX1_reclaim 24 = .ok (.invokevirtual 55, 3) := by decide +kernel
theorem dX1_reclaim_27 : decode cX1_reclaim 27 = .ok (.iinc 1 1, 3) := by decide +kernel
theorem dX1_reclaim_30 : decode cX1_reclaim 30 = .ok (.goto (-28), 3) := by decide +kernel
theorem dX1_reclaim_33 : decode cX1_reclaim 33 = .ok (.iload_n 1, 1) := by decide +kernel
theorem dX1_reclaim_34 : decode cX1_reclaim 34 = .ok (.ireturn, 1) := by decide +kernel
set_option maxRecDepth 20000 in
theorem ggX1_revoke_X1_reclaim : GoodIn wsX1_revoke wsX1_reclaim := goodIn_r _ [6, 1, 7, 8, 9, 5, 10, 11, 12, 13, 14, 15, 16, 17, 18, 19, 20, 21, 22, 23, 24, 25, 26, 27, 28, 29, 30, 31, 40, 41, 42, 43, 44, 45, 46, 47, 48, 49] (by decide +kernel) (by decide +kernel)
set_option maxRecDepth 20000 in
theorem gX1_revoke_X1_reclaim : GoodIn wsX1_revoke (wsV RX1 58 RX1 yX1_reclaim wsX1_reclaim) := goodIn_app (goodIn_of _ (by decide +kernel)) ggX1_revoke_X1_reclaim
set_option maxRecDepth 20000 in
theorem ggX1_revoke_X1_closeAllBehind : GoodIn wsX1_revoke wsX1_closeAllBehind := goodIn_r _ [35, 11, 12, 13, 14, 15, 16, 17, 18, 19, 20, 21, 22, 23, 24, 25, 26, 27, 36, 37, 38, 39, 40, 41, 42, 43, 44, 45, 46, 47, 48, 49] (by decide +kernel) (by decide +kernel)
set_option maxRecDepth 20000 in
theorem gX1_revoke_X1_closeAllBehind : GoodIn wsX1_revoke (wsV RX1 61 RX1 yX1_closeAllBehind wsX1_closeAllBehind) := goodIn_app (goodIn_of _ (by decide +kernel)) ggX1_revoke_X1_closeAllBehind
theorem dX1_revoke_0 : decode cX1_revoke 0 = .ok (.aload_n 0, 1) := by decide +kernel
theorem dX1_revoke_1 : decode cX1_revoke 1 = .ok (.invokevirtual 58, 3) := by decide +kernel
theorem dX1_revoke_4 : decode cX1_revoke 4 = .ok (.pop, 1) := by decide +kernel
theorem dX1_revoke_5 : decode cX1_revoke 5 = .ok (.aload_n 0, 1) := by decide +kernel
theorem dX1_revoke_6 : decode cX1_revoke 6 = .ok (.aload_n 0, 1) := by decide +kernel
theorem dX1_revoke_7 : decode cX1_revoke 7 = .ok (.getfield 24, 3) := by decide +kernel
theorem dX1_revoke_10 : decode cX1_revoke 10 = .ok (.iconst 0, 1) := by decide +kernel
theorem dX1_revoke_11 : decode cX1_revoke 11 = .ok (.invokevirtual 61, 3) := by decide +kernel
theorem dX1_revoke_14 : decode cX1_revoke 14 = .ok (.ireturn, 1) := by decide +kernel
set_option maxRecDepth 20000 in
theorem ggX1_post_X1_postNext : GoodIn wsX1_post wsX1_postNext := goodIn_r _ [6, 7, 8, 9, 10, 11, 12, 13, 14, 15, 16, 17, 18, 19, 20, 21, 22, 23, 24, 25, 26, 27, 28, 29, 5, 30, 31, 32, 33, 34, 35, 36, 37, 38, 39, 40, 41, 42, 43, 44, 45, 46, 47, 54, 55, 56, 57, 48, 49, 50, 51, 52, 53] (by decide +kernel) (by decide +kernel)
set_option maxRecDepth 20000 in
theorem gX1_post_X1_postNext : GoodIn wsX1_post (wsV RX1 47 RX1 yX1_postNext wsX1_postNext) := goodIn_app (goodIn_of _ (by decide +kernel)) ggX1_post_X1_postNext
theorem dX1_post_0 : decode cX1_post 0 = .ok (.aload_n 0, 1) := by decide +kernel
theorem dX1_post_1 : decode cX1_post 1 = .ok (.aload_n 0, 1) := by decide +kernel
theorem dX1_post_2 : decode cX1_post 2 = .ok (.getfield 28, 3) := by decide +kernel
theorem dX1_post_5 : decode cX1_post 5 = .ok (.iconst 0, 1) := by decide +kernel
theorem dX1_post_6 : decode cX1_post 6 = .ok (.invokevirtual 47, 3) := by decide +kernel
theorem dX1_post_9 : decode cX1_post 9 = .ok (.ireturn, 1) := by decide +kernel
set_option maxRecDepth 20000 in
theorem ggX1_receive_X1_isGivenBack : GoodIn wsX1_receive wsX1_isGivenBack := goodIn_r _ [8, 2, 9, 10, 11, 12, 13, 14, 15, 16, 17, 18, 19, 20, 21, 22, 23, 24, 41, 42, 43, 44, 45, 46, 47, 48, 49, 50] (by decide +kernel) (by decide +kernel)
set_option maxRecDepth 20000 in
theorem gX1_receive_X1_isGivenBack : GoodIn wsX1_receive (wsV RX1 51 RX1 yX1_isGivenBack wsX1_isGivenBack) := goodIn_app (goodIn_of _ (by decide +kernel)) ggX1_receive_X1_isGivenBack
set_option maxRecDepth 20000 in
theorem ggX1_receive_X0_descriptorAt : GoodIn wsX1_receive wsX0_descriptorAt := goodIn_r _ [18, 19, 20, 21, 22, 12, 23, 24, 47, 48, 49, 50] (by decide +kernel) (by decide +kernel)
set_option maxRecDepth 20000 in
theorem gX1_receive_X0_descriptorAt : GoodIn wsX1_receive (wsV RX1 64 RX0 yX0_descriptorAt wsX0_descriptorAt) := goodIn_app (goodIn_of _ (by decide +kernel)) ggX1_receive_X0_descriptorAt
set_option maxRecDepth 20000 in
theorem ggX1_receive_X0_bufferAt : GoodIn wsX1_receive wsX0_bufferAt := goodIn_r _ [28, 29, 30, 31, 12, 32, 33, 20, 21, 22, 23, 24, 47, 48, 49, 50] (by decide +kernel) (by decide +kernel)
set_option maxRecDepth 20000 in
theorem gX1_receive_X0_bufferAt : GoodIn wsX1_receive (wsV RX1 68 RX0 yX0_bufferAt wsX0_bufferAt) := goodIn_app (goodIn_of _ (by decide +kernel)) ggX1_receive_X0_bufferAt
set_option maxRecDepth 20000 in
theorem ggX1_receive_X0_removeOldest : GoodIn wsX1_receive wsX0_removeOldest := goodIn_r _ [37, 24, 14, 20, 21, 22, 12, 23, 47, 48, 49, 50] (by decide +kernel) (by decide +kernel)
set_option maxRecDepth 20000 in
theorem gX1_receive_X0_removeOldest : GoodIn wsX1_receive (wsV RX1 55 RX0 yX0_removeOldest wsX0_removeOldest) := goodIn_app (goodIn_of _ (by decide +kernel)) ggX1_receive_X0_removeOldest
set_option maxRecDepth 20000 in
theorem ggX1_receive_X1_isFrameLength : GoodIn wsX1_receive wsX1_isFrameLength := goodIn_r _ [40] (by decide +kernel) (by decide +kernel)
set_option maxRecDepth 20000 in
theorem gX1_receive_X1_isFrameLength : GoodIn wsX1_receive (va_wsS RX1 43 yX1_isFrameLength wsX1_isFrameLength) := goodIn_app (goodIn_of _ (by decide +kernel)) ggX1_receive_X1_isFrameLength
theorem dX1_receive_0 : decode cX1_receive 0 = .ok (.aload_n 0, 1) := by decide +kernel
theorem dX1_receive_1 : decode cX1_receive 1 = .ok (.aload_n 0, 1) := by decide +kernel
theorem dX1_receive_2 : decode cX1_receive 2 = .ok (.getfield 28, 3) := by decide +kernel
theorem dX1_receive_5 : decode cX1_receive 5 = .ok (.iconst 0, 1) := by decide +kernel
theorem dX1_receive_6 : decode cX1_receive 6 = .ok (.invokevirtual 51, 3) := by decide +kernel
theorem dX1_receive_9 : decode cX1_receive 9 = .ok (.ifCond .ne 5, 3) := by decide +kernel
theorem dX1_receive_12 : decode cX1_receive 12 = .ok (.iconst (-1), 1) := by decide +kernel
theorem dX1_receive_13 : decode cX1_receive 13 = .ok (.ireturn, 1) := by decide +kernel
theorem dX1_receive_14 : decode cX1_receive 14 = .ok (.aload_n 0, 1) := by decide +kernel
theorem dX1_receive_15 : decode cX1_receive 15 = .ok (.getfield 9, 3) := by decide +kernel
theorem dX1_receive_18 : decode cX1_receive 18 = .ok (.aload_n 0, 1) := by decide +kernel
theorem dX1_receive_19 : decode cX1_receive 19 = .ok (.getfield 28, 3) := by decide +kernel
theorem dX1_receive_22 : decode cX1_receive 22 = .ok (.iconst 0, 1) := by decide +kernel
theorem dX1_receive_23 : decode cX1_receive 23 = .ok (.invokevirtual 64, 3) := by decide +kernel
theorem dX1_receive_26 : decode cX1_receive 26 = .ok (.iconst 1, 1) := by decide +kernel
theorem dX1_receive_27 : decode cX1_receive 27 = .ok (.iadd, 1) := by decide +kernel
theorem dX1_receive_28 : decode cX1_receive 28 = .ok (.iaload, 1) := by decide +kernel
theorem dX1_receive_29 : decode cX1_receive 29 = .ok (.istore_n 1, 1) := by decide +kernel
theorem dX1_receive_30 : decode cX1_receive 30 = .ok (.aload_n 0, 1) := by decide +kernel
theorem dX1_receive_31 : decode cX1_receive 31 = .ok (.getfield 28, 3) := by decide +kernel
theorem dX1_receive_34 : decode cX1_receive 34 = .ok (.iconst 0, 1) := by decide +kernel
theorem dX1_receive_35 : decode cX1_receive 35 = .ok (.invokevirtual 68, 3) := by decide +kernel
theorem dX1_receive_38 : decode cX1_receive 38 = .ok (.istore_n 2, 1) := by decide +kernel
theorem dX1_receive_39 : decode cX1_receive 39 = .ok (.aload_n 0, 1) := by decide +kernel
theorem dX1_receive_40 : decode cX1_receive 40 = .ok (.getfield 28, 3) := by decide +kernel
theorem dX1_receive_43 : decode cX1_receive 43 = .ok (.invokevirtual 55, 3) := by decide +kernel
theorem dX1_receive_46 : decode cX1_receive 46 = .ok (.iload_n 1, 1) := by decide +kernel
theorem dX1_receive_47 : decode cX1_receive 47 = .ok (.invokestatic 43, 3) := by decide +kernel
theorem dX1_receive_50 : decode cX1_receive 50 = .ok (.ifCond .ne 6, 3) := by decide +kernel
theorem dX1_receive_53 : decode cX1_receive 53 = .ok (.bipush (-3), 2) := by decide +kernel
theorem dX1_receive_55 : decode cX1_receive 55 = .ok (.ireturn, 1) := by decide +kernel
theorem dX1_receive_56 : decode cX1_receive 56 = .ok (.iconst 0, 1) := by decide +kernel
theorem dX1_receive_57 : decode cX1_receive 57 = .ok (.istore_n 3, 1) := by decide +kernel
theorem dX1_receive_58 : decode cX1_receive 58 = .ok (.iload_n 3, 1) := by decide +kernel
theorem dX1_receive_59 : decode cX1_receive 59 = .ok (.iload_n 1, 1) := by decide +kernel
theorem dX1_receive_60 : decode cX1_receive 60 = .ok (.if_icmp .ge 23, 3) := by decide +kernel
theorem dX1_receive_63 : decode cX1_receive 63 = .ok (.aload_n 0, 1) := by decide +kernel
theorem dX1_receive_64 : decode cX1_receive 64 = .ok (.getfield 16, 3) := by decide +kernel
theorem dX1_receive_67 : decode cX1_receive 67 = .ok (.iload_n 3, 1) := by decide +kernel
theorem dX1_receive_68 : decode cX1_receive 68 = .ok (.aload_n 0, 1) := by decide +kernel
theorem dX1_receive_69 : decode cX1_receive 69 = .ok (.getfield 9, 3) := by decide +kernel
theorem dX1_receive_72 : decode cX1_receive 72 = .ok (.iload_n 2, 1) := by decide +kernel
theorem dX1_receive_73 : decode cX1_receive 73 = .ok (.iload_n 3, 1) := by decide +kernel
theorem dX1_receive_74 : decode cX1_receive 74 = .ok (.iadd, 1) := by decide +kernel
theorem dX1_receive_75 : decode cX1_receive 75 = .ok (.iaload, 1) := by decide +kernel
theorem dX1_receive_76 : decode cX1_receive 76 = .ok (.iastore, 1) := by decide +kernel
theorem dX1_receive_77 : decode cX1_receive 77 = .ok (.iinc 3 1, 3) := by decide +kernel
theorem dX1_receive_80 : decode cX1_receive 80 = .ok (.goto (-22), 3) := by decide +kernel
theorem dX1_receive_83 : decode cX1_receive 83 = .ok (.iload_n 1, 1) := by decide +kernel
theorem dX1_receive_84 : decode cX1_receive 84 = .ok (.ireturn, 1) := by decide +kernel
theorem dX1_taken_0 : decode cX1_taken 0 = .ok (.iload_n 1, 1) := by decide +kernel
theorem dX1_taken_1 : decode cX1_taken 1 = .ok (.ifCond .lt 9, 3) := by decide +kernel
theorem dX1_taken_4 : decode cX1_taken 4 = .ok (.iload_n 1, 1) := by decide +kernel
theorem dX1_taken_5 : decode cX1_taken 5 = .ok (.bipush 16, 2) := by decide +kernel
theorem dX1_taken_7 : decode cX1_taken 7 = .ok (.if_icmp .lt 5, 3) := by decide +kernel
theorem dX1_taken_10 : decode cX1_taken 10 = .ok (.iconst (-1), 1) := by decide +kernel
theorem dX1_taken_11 : decode cX1_taken 11 = .ok (.ireturn, 1) := by decide +kernel
theorem dX1_taken_12 : decode cX1_taken 12 = .ok (.aload_n 0, 1) := by decide +kernel
theorem dX1_taken_13 : decode cX1_taken 13 = .ok (.getfield 16, 3) := by decide +kernel
theorem dX1_taken_16 : decode cX1_taken 16 = .ok (.iload_n 1, 1) := by decide +kernel
theorem dX1_taken_17 : decode cX1_taken 17 = .ok (.iaload, 1) := by decide +kernel
theorem dX1_taken_18 : decode cX1_taken 18 = .ok (.ireturn, 1) := by decide +kernel
set_option maxRecDepth 20000 in
theorem ggX1_withdraw_X1_isGivenBack : GoodIn wsX1_withdraw wsX1_isGivenBack := goodIn_r _ [6, 7, 8, 9, 10, 11, 12, 13, 14, 15, 16, 17, 18, 19, 20, 21, 22, 23, 32, 33, 34, 35, 36, 37, 38, 39, 40, 41] (by decide +kernel) (by decide +kernel)
set_option maxRecDepth 20000 in
theorem gX1_withdraw_X1_isGivenBack : GoodIn wsX1_withdraw (wsV RX1 51 RX1 yX1_isGivenBack wsX1_isGivenBack) := goodIn_app (goodIn_of _ (by decide +kernel)) ggX1_withdraw_X1_isGivenBack
set_option maxRecDepth 20000 in
theorem ggX1_withdraw_X1_closeAllBehind : GoodIn wsX1_withdraw wsX1_closeAllBehind := goodIn_r _ [27, 7, 8, 9, 10, 11, 12, 13, 14, 15, 16, 17, 18, 19, 20, 21, 22, 23, 28, 29, 30, 31, 32, 33, 34, 35, 36, 37, 38, 39, 40, 41] (by decide +kernel) (by decide +kernel)
set_option maxRecDepth 20000 in
theorem gX1_withdraw_X1_closeAllBehind : GoodIn wsX1_withdraw (wsV RX1 61 RX1 yX1_closeAllBehind wsX1_closeAllBehind) := goodIn_app (goodIn_of _ (by decide +kernel)) ggX1_withdraw_X1_closeAllBehind
theorem dX1_withdraw_0 : decode cX1_withdraw 0 = .ok (.iconst 0, 1) := by decide +kernel
theorem dX1_withdraw_1 : decode cX1_withdraw 1 = .ok (.istore_n 1, 1) := by decide +kernel
theorem dX1_withdraw_2 : decode cX1_withdraw 2 = .ok (.iload_n 1, 1) := by decide +kernel
theorem dX1_withdraw_3 : decode cX1_withdraw 3 = .ok (.bipush 8, 2) := by decide +kernel
theorem dX1_withdraw_5 : decode cX1_withdraw 5 = .ok (.if_icmp .ge 21, 3) := by decide +kernel
theorem dX1_withdraw_8 : decode cX1_withdraw 8 = .ok (.aload_n 0, 1) := by decide +kernel
theorem dX1_withdraw_9 : decode cX1_withdraw 9 = .ok (.aload_n 0, 1) := by decide +kernel
theorem dX1_withdraw_10 : decode cX1_withdraw 10 = .ok (.getfield 28, 3) := by decide +kernel
theorem dX1_withdraw_13 : decode cX1_withdraw 13 = .ok (.iload_n 1, 1) := by decide +kernel
theorem dX1_withdraw_14 : decode cX1_withdraw 14 = .ok (.invokevirtual 51, 3) := by decide +kernel
theorem dX1_withdraw_17 : decode cX1_withdraw 17 = .ok (.ifCond .eq 9, 3) := by decide +kernel
theorem dX1_withdraw_20 : decode cX1_withdraw 20 = .ok (.iinc 1 1, 3) := by decide +kernel
theorem dX1_withdraw_23 : decode cX1_withdraw 23 = .ok (.goto (-21), 3) := by decide +kernel
theorem dX1_withdraw_26 : decode cX1_withdraw 26 = .ok (.aload_n 0, 1) := by decide +kernel
theorem dX1_withdraw_27 : decode cX1_withdraw 27 = .ok (.aload_n 0, 1) := by decide +kernel
theorem dX1_withdraw_28 : decode cX1_withdraw 28 = .ok (.getfield 28, 3) := by decide +kernel
theorem dX1_withdraw_31 : decode cX1_withdraw 31 = .ok (.iload_n 1, 1) := by decide +kernel
theorem dX1_withdraw_32 : decode cX1_withdraw 32 = .ok (.invokevirtual 61, 3) := by decide +kernel
theorem dX1_withdraw_35 : decode cX1_withdraw 35 = .ok (.ireturn, 1) := by decide +kernel
set_option maxRecDepth 20000 in
theorem ggX1_sending_X0_size : GoodIn wsX1_sending wsX0_size := goodIn_r _ [6, 7, 14, 15, 16, 17] (by decide +kernel) (by decide +kernel)
set_option maxRecDepth 20000 in
theorem gX1_sending_X0_size : GoodIn wsX1_sending (wsV RX1 71 RX0 yX0_size wsX0_size) := goodIn_app (goodIn_of _ (by decide +kernel)) ggX1_sending_X0_size
theorem dX1_sending_0 : decode cX1_sending 0 = .ok (.aload_n 0, 1) := by decide +kernel
theorem dX1_sending_1 : decode cX1_sending 1 = .ok (.getfield 24, 3) := by decide +kernel
theorem dX1_sending_4 : decode cX1_sending 4 = .ok (.invokevirtual 71, 3) := by decide +kernel
theorem dX1_sending_7 : decode cX1_sending 7 = .ok (.ireturn, 1) := by decide +kernel
set_option maxRecDepth 20000 in
theorem ggX1_receiving_X0_size : GoodIn wsX1_receiving wsX0_size := goodIn_r _ [6, 7, 14, 15, 16, 17] (by decide +kernel) (by decide +kernel)
set_option maxRecDepth 20000 in
theorem gX1_receiving_X0_size : GoodIn wsX1_receiving (wsV RX1 71 RX0 yX0_size wsX0_size) := goodIn_app (goodIn_of _ (by decide +kernel)) ggX1_receiving_X0_size
theorem dX1_receiving_0 : decode cX1_receiving 0 = .ok (.aload_n 0, 1) := by decide +kernel
theorem dX1_receiving_1 : decode cX1_receiving 1 = .ok (.getfield 28, 3) := by decide +kernel
theorem dX1_receiving_4 : decode cX1_receiving 4 = .ok (.invokevirtual 71, 3) := by decide +kernel
theorem dX1_receiving_7 : decode cX1_receiving 7 = .ok (.ireturn, 1) := by decide +kernel
theorem dX1_fault_0 : decode cX1_fault 0 = .ok (.aload_n 0, 1) := by decide +kernel
theorem dX1_fault_1 : decode cX1_fault 1 = .ok (.dup, 1) := by decide +kernel
theorem dX1_fault_2 : decode cX1_fault 2 = .ok (.getfield 31, 3) := by decide +kernel
theorem dX1_fault_5 : decode cX1_fault 5 = .ok (.iconst 1, 1) := by decide +kernel
theorem dX1_fault_6 : decode cX1_fault 6 = .ok (.iadd, 1) := by decide +kernel
theorem dX1_fault_7 : decode cX1_fault 7 = .ok (.putfield 31, 3) := by decide +kernel
theorem dX1_fault_10 : decode cX1_fault 10 = .ok (.iconst (-1), 1) := by decide +kernel
theorem dX1_fault_11 : decode cX1_fault 11 = .ok (.ireturn, 1) := by decide +kernel
set_option maxRecDepth 20000 in
theorem ggX1_isOpen_X0_hasPostedPage : GoodIn wsX1_isOpen wsX0_hasPostedPage := goodIn_r _ [5, 6, 7, 8, 9, 10, 11, 12] (by decide +kernel) (by decide +kernel)
set_option maxRecDepth 20000 in
theorem gX1_isOpen_X0_hasPostedPage : GoodIn wsX1_isOpen (wsV RX1 74 RX0 yX0_hasPostedPage wsX0_hasPostedPage) := goodIn_app (goodIn_of _ (by decide +kernel)) ggX1_isOpen_X0_hasPostedPage
theorem dX1_isOpen_0 : decode cX1_isOpen 0 = .ok (.iload_n 0, 1) := by decide +kernel
theorem dX1_isOpen_1 : decode cX1_isOpen 1 = .ok (.sipush 128, 3) := by decide +kernel
theorem dX1_isOpen_4 : decode cX1_isOpen 4 = .ok (.if_icmp .lt 14, 3) := by decide +kernel
theorem dX1_isOpen_7 : decode cX1_isOpen 7 = .ok (.aload_n 1, 1) := by decide +kernel
theorem dX1_isOpen_8 : decode cX1_isOpen 8 = .ok (.iload_n 0, 1) := by decide +kernel
theorem dX1_isOpen_9 : decode cX1_isOpen 9 = .ok (.bipush 16, 2) := by decide +kernel
theorem dX1_isOpen_11 : decode cX1_isOpen 11 = .ok (.idiv, 1) := by decide +kernel
theorem dX1_isOpen_12 : decode cX1_isOpen 12 = .ok (.invokevirtual 74, 3) := by decide +kernel
theorem dX1_isOpen_15 : decode cX1_isOpen 15 = .ok (.ifCond .eq 7, 3) := by decide +kernel
theorem dX1_isOpen_18 : decode cX1_isOpen 18 = .ok (.iconst 1, 1) := by decide +kernel
theorem dX1_isOpen_19 : decode cX1_isOpen 19 = .ok (.goto 4, 3) := by decide +kernel
theorem dX1_isOpen_22 : decode cX1_isOpen 22 = .ok (.iconst 0, 1) := by decide +kernel
theorem dX1_isOpen_23 : decode cX1_isOpen 23 = .ok (.ireturn, 1) := by decide +kernel
theorem dX1_isFrameLength_0 : decode cX1_isFrameLength 0 = .ok (.iload_n 0, 1) := by decide +kernel
theorem dX1_isFrameLength_1 : decode cX1_isFrameLength 1 = .ok (.iconst 1, 1) := by decide +kernel
theorem dX1_isFrameLength_2 : decode cX1_isFrameLength 2 = .ok (.if_icmp .lt 13, 3) := by decide +kernel
theorem dX1_isFrameLength_5 : decode cX1_isFrameLength 5 = .ok (.iload_n 0, 1) := by decide +kernel
theorem dX1_isFrameLength_6 : decode cX1_isFrameLength 6 = .ok (.bipush 16, 2) := by decide +kernel
theorem dX1_isFrameLength_8 : decode cX1_isFrameLength 8 = .ok (.if_icmp .gt 7, 3) := by decide +kernel
theorem dX1_isFrameLength_11 : decode cX1_isFrameLength 11 = .ok (.iconst 1, 1) := by decide +kernel
theorem dX1_isFrameLength_12 : decode cX1_isFrameLength 12 = .ok (.goto 4, 3) := by decide +kernel
theorem dX1_isFrameLength_15 : decode cX1_isFrameLength 15 = .ok (.iconst 0, 1) := by decide +kernel
theorem dX1_isFrameLength_16 : decode cX1_isFrameLength 16 = .ok (.ireturn, 1) := by decide +kernel
set_option maxRecDepth 20000 in
theorem ggX1_isGivenBack_X0_size : GoodIn wsX1_isGivenBack wsX0_size := goodIn_r _ [6, 7, 24, 25, 26, 27] (by decide +kernel) (by decide +kernel)
set_option maxRecDepth 20000 in
theorem gX1_isGivenBack_X0_size : GoodIn wsX1_isGivenBack (wsV RX1 71 RX0 yX0_size wsX0_size) := goodIn_app (goodIn_of _ (by decide +kernel)) ggX1_isGivenBack_X0_size
set_option maxRecDepth 20000 in
theorem ggX1_isGivenBack_X0_descriptorAt : GoodIn wsX1_isGivenBack wsX0_descriptorAt := goodIn_r _ [11, 12, 13, 14, 15, 5, 16, 17, 24, 25, 26, 27] (by decide +kernel) (by decide +kernel)
set_option maxRecDepth 20000 in
theorem gX1_isGivenBack_X0_descriptorAt : GoodIn wsX1_isGivenBack (wsV RX1 64 RX0 yX0_descriptorAt wsX0_descriptorAt) := goodIn_app (goodIn_of _ (by decide +kernel)) ggX1_isGivenBack_X0_descriptorAt
theorem dX1_isGivenBack_0 : decode cX1_isGivenBack 0 = .ok (.iload_n 2, 1) := by decide +kernel
theorem dX1_isGivenBack_1 : decode cX1_isGivenBack 1 = .ok (.aload_n 1, 1) := by decide +kernel
theorem dX1_isGivenBack_2 : decode cX1_isGivenBack 2 = .ok (.invokevirtual 71, 3) := by decide +kernel
theorem dX1_isGivenBack_5 : decode cX1_isGivenBack 5 = .ok (.if_icmp .ge 22, 3) := by decide +kernel
theorem dX1_isGivenBack_8 : decode cX1_isGivenBack 8 = .ok (.aload_n 0, 1) := by decide +kernel
theorem dX1_isGivenBack_9 : decode cX1_isGivenBack 9 = .ok (.getfield 9, 3) := by decide +kernel
theorem dX1_isGivenBack_12 : decode cX1_isGivenBack 12 = .ok (.aload_n 1, 1) := by decide +kernel
theorem dX1_isGivenBack_13 : decode cX1_isGivenBack 13 = .ok (.iload_n 2, 1) := by decide +kernel
theorem dX1_isGivenBack_14 : decode cX1_isGivenBack 14 = .ok (.invokevirtual 64, 3) := by decide +kernel
theorem dX1_isGivenBack_17 : decode cX1_isGivenBack 17 = .ok (.iconst 2, 1) := by decide +kernel
theorem dX1_isGivenBack_18 : decode cX1_isGivenBack 18 = .ok (.iadd, 1) := by decide +kernel
theorem dX1_isGivenBack_19 : decode cX1_isGivenBack 19 = .ok (.iaload, 1) := by decide +kernel
theorem dX1_isGivenBack_20 : decode cX1_isGivenBack 20 = .ok (.ifCond .ne 7, 3) := by decide +kernel
theorem dX1_isGivenBack_23 : decode cX1_isGivenBack 23 = .ok (.iconst 1, 1) := by decide +kernel
theorem dX1_isGivenBack_24 : decode cX1_isGivenBack 24 = .ok (.goto 4, 3) := by decide +kernel
theorem dX1_isGivenBack_27 : decode cX1_isGivenBack 27 = .ok (.iconst 0, 1) := by decide +kernel
theorem dX1_isGivenBack_28 : decode cX1_isGivenBack 28 = .ok (.ireturn, 1) := by decide +kernel
set_option maxRecDepth 20000 in
theorem ggX1_postNext_X0_size : GoodIn wsX1_postNext wsX0_size := goodIn_r _ [5, 6, 43, 44, 45, 46] (by decide +kernel) (by decide +kernel)
set_option maxRecDepth 20000 in
theorem gX1_postNext_X0_size : GoodIn wsX1_postNext (wsV RX1 71 RX0 yX0_size wsX0_size) := goodIn_app (goodIn_of _ (by decide +kernel)) ggX1_postNext_X0_size
set_option maxRecDepth 20000 in
theorem ggX1_postNext_X0_bufferAt : GoodIn wsX1_postNext wsX0_bufferAt := goodIn_r _ [10, 11, 12, 13, 4, 14, 15, 16, 17, 18, 19, 20, 43, 44, 45, 46] (by decide +kernel) (by decide +kernel)
set_option maxRecDepth 20000 in
theorem gX1_postNext_X0_bufferAt : GoodIn wsX1_postNext (wsV RX1 68 RX0 yX0_bufferAt wsX0_bufferAt) := goodIn_app (goodIn_of _ (by decide +kernel)) ggX1_postNext_X0_bufferAt
set_option maxRecDepth 20000 in
theorem ggX1_postNext_X1_fillBuffer : GoodIn wsX1_postNext wsX1_fillBuffer := goodIn_r _ [25, 26, 27, 47, 48, 49, 50, 51, 52] (by decide +kernel) (by decide +kernel)
set_option maxRecDepth 20000 in
theorem gX1_postNext_X1_fillBuffer : GoodIn wsX1_postNext (wsV RX1 77 RX1 yX1_fillBuffer wsX1_fillBuffer) := goodIn_app (goodIn_of _ (by decide +kernel)) ggX1_postNext_X1_fillBuffer
set_option maxRecDepth 20000 in
theorem ggX1_postNext_X0_descriptorAt : GoodIn wsX1_postNext wsX0_descriptorAt := goodIn_r _ [31, 32, 16, 17, 18, 4, 19, 20, 43, 44, 45, 46] (by decide +kernel) (by decide +kernel)
set_option maxRecDepth 20000 in
theorem gX1_postNext_X0_descriptorAt : GoodIn wsX1_postNext (wsV RX1 64 RX0 yX0_descriptorAt wsX0_descriptorAt) := goodIn_app (goodIn_of _ (by decide +kernel)) ggX1_postNext_X0_descriptorAt
set_option maxRecDepth 20000 in
theorem ggX1_postNext_X0_pageAt : GoodIn wsX1_postNext wsX0_pageAt := goodIn_r _ [14, 15, 16, 17, 18, 4, 19, 20, 43, 44, 45, 46] (by decide +kernel) (by decide +kernel)
set_option maxRecDepth 20000 in
theorem gX1_postNext_X0_pageAt : GoodIn wsX1_postNext (wsV RX1 80 RX0 yX0_pageAt wsX0_pageAt) := goodIn_app (goodIn_of _ (by decide +kernel)) ggX1_postNext_X0_pageAt
set_option maxRecDepth 20000 in
theorem ggX1_postNext_X1_fillDescriptor : GoodIn wsX1_postNext wsX1_fillDescriptor := goodIn_r _ [37, 26, 47, 48, 49, 50, 51, 52] (by decide +kernel) (by decide +kernel)
set_option maxRecDepth 20000 in
theorem gX1_postNext_X1_fillDescriptor : GoodIn wsX1_postNext (wsV RX1 83 RX1 yX1_fillDescriptor wsX1_fillDescriptor) := goodIn_app (goodIn_of _ (by decide +kernel)) ggX1_postNext_X1_fillDescriptor
set_option maxRecDepth 20000 in
theorem ggX1_postNext_X0_addNext : GoodIn wsX1_postNext wsX0_addNext := goodIn_r _ [41, 6, 43, 44, 45, 46] (by decide +kernel) (by decide +kernel)
set_option maxRecDepth 20000 in
theorem gX1_postNext_X0_addNext : GoodIn wsX1_postNext (wsV RX1 87 RX0 yX0_addNext wsX0_addNext) := goodIn_app (goodIn_of _ (by decide +kernel)) ggX1_postNext_X0_addNext
set_option maxRecDepth 20000 in
theorem ggX1_postNext_X0_slotAt : GoodIn wsX1_postNext wsX0_slotAt := goodIn_r _ [19, 20, 43, 44, 45, 46] (by decide +kernel) (by decide +kernel)
set_option maxRecDepth 20000 in
theorem gX1_postNext_X0_slotAt : GoodIn wsX1_postNext (wsV RX1 90 RX0 yX0_slotAt wsX0_slotAt) := goodIn_app (goodIn_of _ (by decide +kernel)) ggX1_postNext_X0_slotAt
theorem dX1_postNext_0 : decode cX1_postNext 0 = .ok (.aload_n 1, 1) := by decide +kernel
theorem dX1_postNext_1 : decode cX1_postNext 1 = .ok (.invokevirtual 71, 3) := by decide +kernel
theorem dX1_postNext_4 : decode cX1_postNext 4 = .ok (.istore_n 3, 1) := by decide +kernel
theorem dX1_postNext_5 : decode cX1_postNext 5 = .ok (.iload_n 3, 1) := by decide +kernel
theorem dX1_postNext_6 : decode cX1_postNext 6 = .ok (.bipush 8, 2) := by decide +kernel
theorem dX1_postNext_8 : decode cX1_postNext 8 = .ok (.if_icmp .lt 5, 3) := by decide +kernel
theorem dX1_postNext_11 : decode cX1_postNext 11 = .ok (.iconst (-1), 1) := by decide +kernel
theorem dX1_postNext_12 : decode cX1_postNext 12 = .ok (.ireturn, 1) := by decide +kernel
theorem dX1_postNext_13 : decode cX1_postNext 13 = .ok (.aload_n 0, 1) := by decide +kernel
theorem dX1_postNext_14 : decode cX1_postNext 14 = .ok (.aload_n 1, 1) := by decide +kernel
theorem dX1_postNext_15 : decode cX1_postNext 15 = .ok (.iload_n 3, 1) := by decide +kernel
theorem dX1_postNext_16 : decode cX1_postNext 16 = .ok (.invokevirtual 68, 3) := by decide +kernel
theorem dX1_postNext_19 : decode cX1_postNext 19 = .ok (.iload_n 2, 1) := by decide +kernel
theorem dX1_postNext_20 : decode cX1_postNext 20 = .ok (.invokevirtual 77, 3) := by decide +kernel
theorem dX1_postNext_23 : decode cX1_postNext 23 = .ok (.aload_n 0, 1) := by decide +kernel
theorem dX1_postNext_24 : decode cX1_postNext 24 = .ok (.aload_n 1, 1) := by decide +kernel
theorem dX1_postNext_25 : decode cX1_postNext 25 = .ok (.iload_n 3, 1) := by decide +kernel
theorem dX1_postNext_26 : decode cX1_postNext 26 = .ok (.invokevirtual 64, 3) := by decide +kernel
theorem dX1_postNext_29 : decode cX1_postNext 29 = .ok (.aload_n 1, 1) := by decide +kernel
theorem dX1_postNext_30 : decode cX1_postNext 30 = .ok (.iload_n 3, 1) := by decide +kernel
theorem dX1_postNext_31 : decode cX1_postNext 31 = .ok (.invokevirtual 80, 3) := by decide +kernel
theorem dX1_postNext_34 : decode cX1_postNext 34 = .ok (.iload_n 2, 1) := by decide +kernel
theorem dX1_postNext_35 : decode cX1_postNext 35 = .ok (.invokevirtual 83, 3) := by decide +kernel
theorem dX1_postNext_38 : decode cX1_postNext 38 = .ok (.aload_n 1, 1) := by decide +kernel
theorem dX1_postNext_39 : decode cX1_postNext 39 = .ok (.invokevirtual 87, 3) := by decide +kernel
theorem dX1_postNext_42 : decode cX1_postNext 42 = .ok (.aload_n 1, 1) := by decide +kernel
theorem dX1_postNext_43 : decode cX1_postNext 43 = .ok (.iload_n 3, 1) := by decide +kernel
theorem dX1_postNext_44 : decode cX1_postNext 44 = .ok (.invokevirtual 90, 3) := by decide +kernel
theorem dX1_postNext_47 : decode cX1_postNext 47 = .ok (.ireturn, 1) := by decide +kernel
theorem dX1_fillBuffer_0 : decode cX1_fillBuffer 0 = .ok (.iconst 0, 1) := by decide +kernel
theorem dX1_fillBuffer_1 : decode cX1_fillBuffer 1 = .ok (.istore_n 3, 1) := by decide +kernel
theorem dX1_fillBuffer_2 : decode cX1_fillBuffer 2 = .ok (.iload_n 3, 1) := by decide +kernel
theorem dX1_fillBuffer_3 : decode cX1_fillBuffer 3 = .ok (.bipush 16, 2) := by decide +kernel
theorem dX1_fillBuffer_5 : decode cX1_fillBuffer 5 = .ok (.if_icmp .ge 32, 3) := by decide +kernel
theorem dX1_fillBuffer_8 : decode cX1_fillBuffer 8 = .ok (.aload_n 0, 1) := by decide +kernel
theorem dX1_fillBuffer_9 : decode cX1_fillBuffer 9 = .ok (.getfield 9, 3) := by decide +kernel
theorem dX1_fillBuffer_12 : decode cX1_fillBuffer 12 = .ok (.iload_n 1, 1) := by decide +kernel
theorem dX1_fillBuffer_13 : decode cX1_fillBuffer 13 = .ok (.iload_n 3, 1) := by decide +kernel
theorem dX1_fillBuffer_14 : decode cX1_fillBuffer 14 = .ok (.iadd, 1) := by decide +kernel
theorem dX1_fillBuffer_15 : decode cX1_fillBuffer 15 = .ok (.iload_n 3, 1) := by decide +kernel
theorem dX1_fillBuffer_16 : decode cX1_fillBuffer 16 = .ok (.iload_n 2, 1) := by decide +kernel
theorem dX1_fillBuffer_17 : decode cX1_fillBuffer 17 = .ok (.if_icmp .ge 12, 3) := by decide +kernel
theorem dX1_fillBuffer_20 : decode cX1_fillBuffer 20 = .ok (.aload_n 0, 1) := by decide +kernel
theorem dX1_fillBuffer_21 : decode cX1_fillBuffer 21 = .ok (.getfield 13, 3) := by decide +kernel
theorem dX1_fillBuffer_24 : decode cX1_fillBuffer 24 = .ok (.iload_n 3, 1) := by decide +kernel
theorem dX1_fillBuffer_25 : decode cX1_fillBuffer 25 = .ok (.iaload, 1) := by decide +kernel
theorem dX1_fillBuffer_26 : decode cX1_fillBuffer 26 = .ok (.goto 4, 3) := by decide +kernel
theorem dX1_fillBuffer_29 : decode cX1_fillBuffer 29 = .ok (.iconst 0, 1) := by decide +kernel
theorem dX1_fillBuffer_30 : decode cX1_fillBuffer 30 = .ok (.iastore, 1) := by decide +kernel
theorem dX1_fillBuffer_31 : decode cX1_fillBuffer 31 = .ok (.iinc 3 1, 3) := by decide +kernel
theorem dX1_fillBuffer_34 : decode cX1_fillBuffer 34 = .ok (.goto (-32), 3) := by decide +kernel
theorem dX1_fillBuffer_37 : decode cX1_fillBuffer 37 = .ok (.return_, 1) := by decide +kernel
theorem dX1_fillDescriptor_0 : decode cX1_fillDescriptor 0 = .ok (.aload_n 0, 1) := by decide +kernel
theorem dX1_fillDescriptor_1 : decode cX1_fillDescriptor 1 = .ok (.getfield 9, 3) := by decide +kernel
theorem dX1_fillDescriptor_4 : decode cX1_fillDescriptor 4 = .ok (.iload_n 1, 1) := by decide +kernel
theorem dX1_fillDescriptor_5 : decode cX1_fillDescriptor 5 = .ok (.iload_n 2, 1) := by decide +kernel
theorem dX1_fillDescriptor_6 : decode cX1_fillDescriptor 6 = .ok (.iastore, 1) := by decide +kernel
theorem dX1_fillDescriptor_7 : decode cX1_fillDescriptor 7 = .ok (.aload_n 0, 1) := by decide +kernel
theorem dX1_fillDescriptor_8 : decode cX1_fillDescriptor 8 = .ok (.getfield 9, 3) := by decide +kernel
theorem dX1_fillDescriptor_11 : decode cX1_fillDescriptor 11 = .ok (.iload_n 1, 1) := by decide +kernel
theorem dX1_fillDescriptor_12 : decode cX1_fillDescriptor 12 = .ok (.iconst 1, 1) := by decide +kernel
theorem dX1_fillDescriptor_13 : decode cX1_fillDescriptor 13 = .ok (.iadd, 1) := by decide +kernel
theorem dX1_fillDescriptor_14 : decode cX1_fillDescriptor 14 = .ok (.iload_n 3, 1) := by decide +kernel
theorem dX1_fillDescriptor_15 : decode cX1_fillDescriptor 15 = .ok (.iastore, 1) := by decide +kernel
theorem dX1_fillDescriptor_16 : decode cX1_fillDescriptor 16 = .ok (.aload_n 0, 1) := by decide +kernel
theorem dX1_fillDescriptor_17 : decode cX1_fillDescriptor 17 = .ok (.getfield 9, 3) := by decide +kernel
theorem dX1_fillDescriptor_20 : decode cX1_fillDescriptor 20 = .ok (.iload_n 1, 1) := by decide +kernel
theorem dX1_fillDescriptor_21 : decode cX1_fillDescriptor 21 = .ok (.iconst 2, 1) := by decide +kernel
theorem dX1_fillDescriptor_22 : decode cX1_fillDescriptor 22 = .ok (.iadd, 1) := by decide +kernel
theorem dX1_fillDescriptor_23 : decode cX1_fillDescriptor 23 = .ok (.iconst 1, 1) := by decide +kernel
theorem dX1_fillDescriptor_24 : decode cX1_fillDescriptor 24 = .ok (.iastore, 1) := by decide +kernel
theorem dX1_fillDescriptor_25 : decode cX1_fillDescriptor 25 = .ok (.iconst 3, 1) := by decide +kernel
theorem dX1_fillDescriptor_26 : decode cX1_fillDescriptor 26 = .ok (.istore 4, 2) := by decide +kernel
theorem dX1_fillDescriptor_28 : decode cX1_fillDescriptor 28 = .ok (.iload 4, 2) := by decide +kernel
theorem dX1_fillDescriptor_30 : decode cX1_fillDescriptor 30 = .ok (.bipush 8, 2) := by decide +kernel
theorem dX1_fillDescriptor_32 : decode cX1_fillDescriptor 32 = .ok (.if_icmp .ge 19, 3) := by decide +kernel
theorem dX1_fillDescriptor_35 : decode cX1_fillDescriptor 35 = .ok (.aload_n 0, 1) := by decide +kernel
theorem dX1_fillDescriptor_36 : decode cX1_fillDescriptor 36 = .ok (.getfield 9, 3) := by decide +kernel
theorem dX1_fillDescriptor_39 : decode cX1_fillDescriptor 39 = .ok (.iload_n 1, 1) := by decide +kernel
theorem dX1_fillDescriptor_40 : decode cX1_fillDescriptor 40 = .ok (.iload 4, 2) := by decide +kernel
theorem dX1_fillDescriptor_42 : decode cX1_fillDescriptor 42 = .ok (.iadd, 1) := by decide +kernel
theorem dX1_fillDescriptor_43 : decode cX1_fillDescriptor 43 = .ok (.iconst 0, 1) := by decide +kernel
theorem dX1_fillDescriptor_44 : decode cX1_fillDescriptor 44 = .ok (.iastore, 1) := by decide +kernel
theorem dX1_fillDescriptor_45 : decode cX1_fillDescriptor 45 = .ok (.iinc 4 1, 3) := by decide +kernel
theorem dX1_fillDescriptor_48 : decode cX1_fillDescriptor 48 = .ok (.goto (-20), 3) := by decide +kernel
theorem dX1_fillDescriptor_51 : decode cX1_fillDescriptor 51 = .ok (.return_, 1) := by decide +kernel
set_option maxRecDepth 20000 in
theorem ggX1_closeAllBehind_X0_size : GoodIn wsX1_closeAllBehind wsX0_size := goodIn_r _ [6, 7, 28, 29, 30, 31] (by decide +kernel) (by decide +kernel)
set_option maxRecDepth 20000 in
theorem gX1_closeAllBehind_X0_size : GoodIn wsX1_closeAllBehind (wsV RX1 71 RX0 yX0_size wsX0_size) := goodIn_app (goodIn_of _ (by decide +kernel)) ggX1_closeAllBehind_X0_size
set_option maxRecDepth 20000 in
theorem ggX1_closeAllBehind_X0_descriptorAt : GoodIn wsX1_closeAllBehind wsX0_descriptorAt := goodIn_r _ [11, 12, 13, 14, 15, 5, 16, 17, 28, 29, 30, 31] (by decide +kernel) (by decide +kernel)
set_option maxRecDepth 20000 in
theorem gX1_closeAllBehind_X0_descriptorAt : GoodIn wsX1_closeAllBehind (wsV RX1 64 RX0 yX0_descriptorAt wsX0_descriptorAt) := goodIn_app (goodIn_of _ (by decide +kernel)) ggX1_closeAllBehind_X0_descriptorAt
set_option maxRecDepth 20000 in
theorem ggX1_closeAllBehind_X0_keepOldest : GoodIn wsX1_closeAllBehind wsX0_keepOldest := goodIn_r _ [21, 7, 28, 29, 30, 31] (by decide +kernel) (by decide +kernel)
set_option maxRecDepth 20000 in
theorem gX1_closeAllBehind_X0_keepOldest : GoodIn wsX1_closeAllBehind (wsV RX1 93 RX0 yX0_keepOldest wsX0_keepOldest) := goodIn_app (goodIn_of _ (by decide +kernel)) ggX1_closeAllBehind_X0_keepOldest
theorem dX1_closeAllBehind_0 : decode cX1_closeAllBehind 0 = .ok (.aload_n 1, 1) := by decide +kernel
theorem dX1_closeAllBehind_1 : decode cX1_closeAllBehind 1 = .ok (.invokevirtual 71, 3) := by decide +kernel
theorem dX1_closeAllBehind_4 : decode cX1_closeAllBehind 4 = .ok (.istore_n 3, 1) := by decide +kernel
theorem dX1_closeAllBehind_5 : decode cX1_closeAllBehind 5 = .ok (.iload_n 2, 1) := by decide +kernel
theorem dX1_closeAllBehind_6 : decode cX1_closeAllBehind 6 = .ok (.istore 4, 2) := by decide +kernel
theorem dX1_closeAllBehind_8 : decode cX1_closeAllBehind 8 = .ok (.iload 4, 2) := by decide +kernel
theorem dX1_closeAllBehind_10 : decode cX1_closeAllBehind 10 = .ok (.iload_n 3, 1) := by decide +kernel
theorem dX1_closeAllBehind_11 : decode cX1_closeAllBehind 11 = .ok (.if_icmp .ge 23, 3) := by decide +kernel
theorem dX1_closeAllBehind_14 : decode cX1_closeAllBehind 14 = .ok (.aload_n 0, 1) := by decide +kernel
theorem dX1_closeAllBehind_15 : decode cX1_closeAllBehind 15 = .ok (.getfield 9, 3) := by decide +kernel
theorem dX1_closeAllBehind_18 : decode cX1_closeAllBehind 18 = .ok (.aload_n 1, 1) := by decide +kernel
theorem dX1_closeAllBehind_19 : decode cX1_closeAllBehind 19 = .ok (.iload 4, 2) := by decide +kernel
theorem dX1_closeAllBehind_21 : decode cX1_closeAllBehind 21 = .ok (.invokevirtual 64, 3) := by decide +kernel
theorem dX1_closeAllBehind_24 : decode cX1_closeAllBehind 24 = .ok (.iconst 2, 1) := by decide +kernel
theorem dX1_closeAllBehind_25 : decode cX1_closeAllBehind 25 = .ok (.iadd, 1) := by decide +kernel
theorem dX1_closeAllBehind_26 : decode cX1_closeAllBehind 26 = .ok (.iconst 0, 1) := by decide +kernel
theorem dX1_closeAllBehind_27 : decode cX1_closeAllBehind 27 = .ok (.iastore, 1) := by decide +kernel
theorem dX1_closeAllBehind_28 : decode cX1_closeAllBehind 28 = .ok (.iinc 4 1, 3) := by decide +kernel
theorem dX1_closeAllBehind_31 : decode cX1_closeAllBehind 31 = .ok (.goto (-23), 3) := by decide +kernel
theorem dX1_closeAllBehind_34 : decode cX1_closeAllBehind 34 = .ok (.aload_n 1, 1) := by decide +kernel
theorem dX1_closeAllBehind_35 : decode cX1_closeAllBehind 35 = .ok (.iload_n 2, 1) := by decide +kernel
theorem dX1_closeAllBehind_36 : decode cX1_closeAllBehind 36 = .ok (.invokevirtual 93, 3) := by decide +kernel
theorem dX1_closeAllBehind_39 : decode cX1_closeAllBehind 39 = .ok (.iload_n 3, 1) := by decide +kernel
theorem dX1_closeAllBehind_40 : decode cX1_closeAllBehind 40 = .ok (.iload_n 2, 1) := by decide +kernel
theorem dX1_closeAllBehind_41 : decode cX1_closeAllBehind 41 = .ok (.isub, 1) := by decide +kernel
theorem dX1_closeAllBehind_42 : decode cX1_closeAllBehind 42 = .ok (.ireturn, 1) := by decide +kernel
abbrev vwCl : List vw_C := [(RX0, TX0, 4), (RX1, TX1, 6), (RX2, TX2, 10)]
