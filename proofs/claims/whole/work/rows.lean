section
-- ===== PART A: goes FIRST, ahead of the names: the tables' words, and 'selects' of the private methods out of them =====
/-- a private method of a class that the tables say can be made, by its rows of tables_1 -/
def lw_okq (q : MethodName × Nat) : Prop := (q.1.cls ≠ "java/lang/invoke/MethodHandle" ∧ q.1.cls ≠ "java/lang/invoke/VarHandle") ∧ Cond.instantiable q.1.cls q.2 ∈ tables_1 ∧ Cond.privateMethod q.1 ∈ tables_1 ∧ Cond.instanceMethod q.1 ∈ tables_1
theorem lw_p0 : lw_okq (⟨"WideHash", "openAs", "(I)V"⟩, 7) := ⟨⟨by decide +kernel, by decide +kernel⟩, List.mem_of_getElem? (i := 7) (by decide +kernel), List.mem_of_getElem? (i := 93) (by decide +kernel), List.mem_of_getElem? (i := 94) (by decide +kernel)⟩
theorem lw_p1 : lw_okq (⟨"WideHash", "take", "(I)V"⟩, 7) := ⟨⟨by decide +kernel, by decide +kernel⟩, List.mem_of_getElem? (i := 7) (by decide +kernel), List.mem_of_getElem? (i := 115) (by decide +kernel), List.mem_of_getElem? (i := 116) (by decide +kernel)⟩
theorem lw_p2 : lw_okq (⟨"WideHash$Sip", "mixGroup", "()V"⟩, 4) := ⟨⟨by decide +kernel, by decide +kernel⟩, List.mem_of_getElem? (i := 35) (by decide +kernel), List.mem_of_getElem? (i := 126) (by decide +kernel), List.mem_of_getElem? (i := 127) (by decide +kernel)⟩
theorem lw_p3 : lw_okq (⟨"WideHash$Sip", "mixRound", "()V"⟩, 4) := ⟨⟨by decide +kernel, by decide +kernel⟩, List.mem_of_getElem? (i := 35) (by decide +kernel), List.mem_of_getElem? (i := 130) (by decide +kernel), List.mem_of_getElem? (i := 131) (by decide +kernel)⟩
theorem lw_p4 : lw_okq (⟨"WideHash$Sip", "mixPair", "(III)V"⟩, 4) := ⟨⟨by decide +kernel, by decide +kernel⟩, List.mem_of_getElem? (i := 35) (by decide +kernel), List.mem_of_getElem? (i := 134) (by decide +kernel), List.mem_of_getElem? (i := 135) (by decide +kernel)⟩
theorem lw_p5 : lw_okq (⟨"WideHash$Sip", "turnLeft", "(II)V"⟩, 4) := ⟨⟨by decide +kernel, by decide +kernel⟩, List.mem_of_getElem? (i := 35) (by decide +kernel), List.mem_of_getElem? (i := 144) (by decide +kernel), List.mem_of_getElem? (i := 145) (by decide +kernel)⟩
theorem lw_p6 : lw_okq (⟨"WideHash$Sha", "mixBlock", "()V"⟩, 4) := ⟨⟨by decide +kernel, by decide +kernel⟩, List.mem_of_getElem? (i := 15) (by decide +kernel), List.mem_of_getElem? (i := 156) (by decide +kernel), List.mem_of_getElem? (i := 157) (by decide +kernel)⟩
theorem lw_p7 : lw_okq (⟨"WideHash$Sha", "extend", "(I)V"⟩, 4) := ⟨⟨by decide +kernel, by decide +kernel⟩, List.mem_of_getElem? (i := 15) (by decide +kernel), List.mem_of_getElem? (i := 160) (by decide +kernel), List.mem_of_getElem? (i := 161) (by decide +kernel)⟩
theorem lw_p8 : lw_okq (⟨"WideHash$Sha", "mixRound", "(I)V"⟩, 4) := ⟨⟨by decide +kernel, by decide +kernel⟩, List.mem_of_getElem? (i := 15) (by decide +kernel), List.mem_of_getElem? (i := 167) (by decide +kernel), List.mem_of_getElem? (i := 168) (by decide +kernel)⟩
theorem lw_p9 : lw_okq (⟨"WideHash$Sha", "chosen", "(I)I"⟩, 4) := ⟨⟨by decide +kernel, by decide +kernel⟩, List.mem_of_getElem? (i := 15) (by decide +kernel), List.mem_of_getElem? (i := 174) (by decide +kernel), List.mem_of_getElem? (i := 175) (by decide +kernel)⟩
theorem lw_p10 : lw_okq (⟨"WideHash$Sha", "majority", "(I)I"⟩, 4) := ⟨⟨by decide +kernel, by decide +kernel⟩, List.mem_of_getElem? (i := 15) (by decide +kernel), List.mem_of_getElem? (i := 180) (by decide +kernel), List.mem_of_getElem? (i := 181) (by decide +kernel)⟩
theorem lw_p11 : lw_okq (⟨"WideHashModel", "rootOf", "(IZ)J"⟩, 17) := ⟨⟨by decide +kernel, by decide +kernel⟩, List.mem_of_getElem? (i := 245) (by decide +kernel), List.mem_of_getElem? (i := 254) (by decide +kernel), List.mem_of_getElem? (i := 255) (by decide +kernel)⟩
theorem lw_p12 : lw_okq (⟨"WideHashModel", "isBelow", "(IZ)Z"⟩, 17) := ⟨⟨by decide +kernel, by decide +kernel⟩, List.mem_of_getElem? (i := 245) (by decide +kernel), List.mem_of_getElem? (i := 258) (by decide +kernel), List.mem_of_getElem? (i := 259) (by decide +kernel)⟩
theorem lw_p13 : lw_okq (⟨"WideHashModel", "begin", "(I)V"⟩, 17) := ⟨⟨by decide +kernel, by decide +kernel⟩, List.mem_of_getElem? (i := 245) (by decide +kernel), List.mem_of_getElem? (i := 350) (by decide +kernel), List.mem_of_getElem? (i := 351) (by decide +kernel)⟩
theorem lw_p14 : lw_okq (⟨"WideHashModel", "isOpen", "()Z"⟩, 17) := ⟨⟨by decide +kernel, by decide +kernel⟩, List.mem_of_getElem? (i := 245) (by decide +kernel), List.mem_of_getElem? (i := 370) (by decide +kernel), List.mem_of_getElem? (i := 371) (by decide +kernel)⟩
theorem lw_p15 : lw_okq (⟨"WideHashModel", "take", "(I)V"⟩, 17) := ⟨⟨by decide +kernel, by decide +kernel⟩, List.mem_of_getElem? (i := 245) (by decide +kernel), List.mem_of_getElem? (i := 374) (by decide +kernel), List.mem_of_getElem? (i := 375) (by decide +kernel)⟩
def lw_privs_1 : List (MethodName × Nat) := [(⟨"WideHash", "openAs", "(I)V"⟩, 7), (⟨"WideHash", "take", "(I)V"⟩, 7), (⟨"WideHash$Sip", "mixGroup", "()V"⟩, 4), (⟨"WideHash$Sip", "mixRound", "()V"⟩, 4), (⟨"WideHash$Sip", "mixPair", "(III)V"⟩, 4), (⟨"WideHash$Sip", "turnLeft", "(II)V"⟩, 4), (⟨"WideHash$Sha", "mixBlock", "()V"⟩, 4), (⟨"WideHash$Sha", "extend", "(I)V"⟩, 4), (⟨"WideHash$Sha", "mixRound", "(I)V"⟩, 4), (⟨"WideHash$Sha", "chosen", "(I)I"⟩, 4), (⟨"WideHash$Sha", "majority", "(I)I"⟩, 4), (⟨"WideHashModel", "rootOf", "(IZ)J"⟩, 17), (⟨"WideHashModel", "isBelow", "(IZ)Z"⟩, 17), (⟨"WideHashModel", "begin", "(I)V"⟩, 17), (⟨"WideHashModel", "isOpen", "()Z"⟩, 17), (⟨"WideHashModel", "take", "(I)V"⟩, 17)]
theorem lw_r1 : ∀ q ∈ lw_privs_1, lw_okq q := List.forall_mem_cons.mpr ⟨lw_p0, List.forall_mem_cons.mpr ⟨lw_p1, List.forall_mem_cons.mpr ⟨lw_p2, List.forall_mem_cons.mpr ⟨lw_p3, List.forall_mem_cons.mpr ⟨lw_p4, List.forall_mem_cons.mpr ⟨lw_p5, List.forall_mem_cons.mpr ⟨lw_p6, List.forall_mem_cons.mpr ⟨lw_p7, List.forall_mem_cons.mpr ⟨lw_p8, List.forall_mem_cons.mpr ⟨lw_p9, List.forall_mem_cons.mpr ⟨lw_p10, List.forall_mem_cons.mpr ⟨lw_p11, List.forall_mem_cons.mpr ⟨lw_p12, List.forall_mem_cons.mpr ⟨lw_p13, List.forall_mem_cons.mpr ⟨lw_p14, List.forall_mem_cons.mpr ⟨lw_p15, fun _ h => absurd h List.not_mem_nil⟩⟩⟩⟩⟩⟩⟩⟩⟩⟩⟩⟩⟩⟩⟩⟩
theorem lw_p16 : lw_okq (⟨"WideHashModel", "sipBlock", "()V"⟩, 17) := ⟨⟨by decide +kernel, by decide +kernel⟩, List.mem_of_getElem? (i := 245) (by decide +kernel), List.mem_of_getElem? (i := 378) (by decide +kernel), List.mem_of_getElem? (i := 379) (by decide +kernel)⟩
theorem lw_p17 : lw_okq (⟨"WideHashModel", "sipRounds", "(I)V"⟩, 17) := ⟨⟨by decide +kernel, by decide +kernel⟩, List.mem_of_getElem? (i := 245) (by decide +kernel), List.mem_of_getElem? (i := 382) (by decide +kernel), List.mem_of_getElem? (i := 383) (by decide +kernel)⟩
theorem lw_p18 : lw_okq (⟨"WideHashModel", "shaBlock", "()V"⟩, 17) := ⟨⟨by decide +kernel, by decide +kernel⟩, List.mem_of_getElem? (i := 245) (by decide +kernel), List.mem_of_getElem? (i := 389) (by decide +kernel), List.mem_of_getElem? (i := 390) (by decide +kernel)⟩
def lw_privs_2 : List (MethodName × Nat) := [(⟨"WideHashModel", "sipBlock", "()V"⟩, 17), (⟨"WideHashModel", "sipRounds", "(I)V"⟩, 17), (⟨"WideHashModel", "shaBlock", "()V"⟩, 17)]
theorem lw_r2 : ∀ q ∈ lw_privs_2, lw_okq q := List.forall_mem_cons.mpr ⟨lw_p16, List.forall_mem_cons.mpr ⟨lw_p17, List.forall_mem_cons.mpr ⟨lw_p18, fun _ h => absurd h List.not_mem_nil⟩⟩⟩
def lw_privs : List (MethodName × Nat) := lw_privs_1 ++ (lw_privs_2)
def lw_tbl : List Cond := k2_sels lw_privs ++ tables_1
theorem lw_privs_ok : ∀ q ∈ lw_privs, lw_okq q := by
  show ∀ q ∈ lw_privs_1 ++ (lw_privs_2), lw_okq q
  exact List.forall_mem_append.mpr ⟨lw_r1, lw_r2⟩
end
section
/-! ===== BEGIN words of one list among another's, by their places ===== -/
theorem goodIn_r {big : List Cond} (ws : List Cond) (ps : List Nat) (hp : ws = ps.filterMap (fun i => big[i]?)) (h : ws.all goodWord = true) : GoodIn big ws := by
  intro w hw
  have h1 := List.all_eq_true.mp h w hw
  rw [hp] at hw
  obtain ⟨i, -, hi⟩ := List.mem_filterMap.mp hw
  have hm : w ∈ big := by first | exact List.mem_of_getElem? hi | exact List.getElem?_mem hi
  exact ⟨hm, good_of_word h1⟩
theorem goodIn_app {big a b : List Cond} (ha : GoodIn big a) (hb : GoodIn big b) : GoodIn big (a ++ b) := fun w h => (List.mem_append.mp h).elim (ha w) (hb w)
theorem goodIn_ca {big a b : List Cond} {c : Cond} (ha : GoodIn big (c :: a)) (hb : GoodIn big b) : GoodIn big (c :: (a ++ b)) := fun w h => (List.mem_cons.mp h).elim (fun e => ha w (List.mem_cons.mpr (Or.inl e))) (fun h => (List.mem_append.mp h).elim (fun h => ha w (List.mem_cons.mpr (Or.inr h))) (hb w))
theorem goodIn_sub {big ws : List Cond} (hm : ∀ w ∈ ws, w ∈ big) (h : ws.all goodWord = true) : GoodIn big ws := fun w hw => ⟨hm w hw, good_of_word (List.all_eq_true.mp h w hw)⟩
/-! ===== END ===== -/

/-! ===== BEGIN printed: names, fields, word lists, decode rows ===== -/
def RX0 : String := "WideHash$Sha"
def TX0 : u_T := fun k => match k with
  | 0 => ("WideHash$Sha", "total", "[I", true)
  | 1 => ("WideHash$Sha", "letters", "[I", true)
  | 2 => ("WideHash$Sha", "schedule", "[I", true)
  | _ => ("WideHash$Sha", "filled", "I", false)
def tyX0 : Nat → FieldType := fun k => match k with
  | 0 => .array .int
  | 1 => .array .int
  | 2 => .array .int
  | _ => .int
abbrev wsX00 : List Cond := u_ws RX0 TX0 4
theorem nmX0 : ∀ a, a < 4 → ∀ b, b < 4 → a ≠ b → (TX0 a).2.1 ≠ (TX0 b).2.1 := by decide +kernel
theorem tyX0_ok : ∀ k, k < 4 → parseFieldDescriptor (TX0 k).2.2.1 = some (tyX0 k) := by decide +kernel
abbrev cX0_init : ByteArray := prog_2_method_1_code
def yX0_init : MethodName := ⟨RX0, "<init>", "()V"⟩
abbrev cX0_begin : ByteArray := prog_2_method_2_code
def yX0_begin : MethodName := ⟨RX0, "begin", "(Z)V"⟩
abbrev cX0_take : ByteArray := prog_2_method_3_code
def yX0_take : MethodName := ⟨RX0, "take", "(I)V"⟩
abbrev cX0_end : ByteArray := prog_2_method_4_code
def yX0_end : MethodName := ⟨RX0, "end", "(I)V"⟩
abbrev cX0_wordAt : ByteArray := prog_2_method_5_code
def yX0_wordAt : MethodName := ⟨RX0, "wordAt", "(I)I"⟩
abbrev cX0_mixBlock : ByteArray := prog_2_method_6_code
def yX0_mixBlock : MethodName := ⟨RX0, "mixBlock", "()V"⟩
abbrev cX0_extend : ByteArray := prog_2_method_7_code
def yX0_extend : MethodName := ⟨RX0, "extend", "(I)V"⟩
abbrev cX0_mixRound : ByteArray := prog_2_method_8_code
def yX0_mixRound : MethodName := ⟨RX0, "mixRound", "(I)V"⟩
abbrev cX0_chosen : ByteArray := prog_2_method_9_code
def yX0_chosen : MethodName := ⟨RX0, "chosen", "(I)I"⟩
abbrev cX0_majority : ByteArray := prog_2_method_10_code
def yX0_majority : MethodName := ⟨RX0, "majority", "(I)I"⟩
abbrev cX0_turnsOfA : ByteArray := prog_2_method_11_code
def yX0_turnsOfA : MethodName := ⟨RX0, "turnsOfA", "(II)I"⟩
abbrev cX0_turnsOfE : ByteArray := prog_2_method_12_code
def yX0_turnsOfE : MethodName := ⟨RX0, "turnsOfE", "(II)I"⟩
def RX1 : String := "WideHash$Sip"
def TX1 : u_T := fun k => match k with
  | 0 => ("WideHash$Sip", "v", "[I", true)
  | 1 => ("WideHash$Sip", "groupHigh", "I", false)
  | 2 => ("WideHash$Sip", "groupLow", "I", false)
  | _ => ("WideHash$Sip", "filled", "I", false)
def tyX1 : Nat → FieldType := fun k => match k with
  | 0 => .array .int
  | 1 => .int
  | 2 => .int
  | _ => .int
abbrev wsX10 : List Cond := u_ws RX1 TX1 4
theorem nmX1 : ∀ a, a < 4 → ∀ b, b < 4 → a ≠ b → (TX1 a).2.1 ≠ (TX1 b).2.1 := by decide +kernel
theorem tyX1_ok : ∀ k, k < 4 → parseFieldDescriptor (TX1 k).2.2.1 = some (tyX1 k) := by decide +kernel
abbrev cX1_init : ByteArray := prog_3_method_1_code
def yX1_init : MethodName := ⟨RX1, "<init>", "()V"⟩
abbrev cX1_begin : ByteArray := prog_3_method_2_code
def yX1_begin : MethodName := ⟨RX1, "begin", "([I)V"⟩
abbrev cX1_take : ByteArray := prog_3_method_3_code
def yX1_take : MethodName := ⟨RX1, "take", "(I)V"⟩
abbrev cX1_end : ByteArray := prog_3_method_4_code
def yX1_end : MethodName := ⟨RX1, "end", "(I)V"⟩
abbrev cX1_wordAt : ByteArray := prog_3_method_5_code
def yX1_wordAt : MethodName := ⟨RX1, "wordAt", "(I)I"⟩
abbrev cX1_mixGroup : ByteArray := prog_3_method_6_code
def yX1_mixGroup : MethodName := ⟨RX1, "mixGroup", "()V"⟩
abbrev cX1_mixRound : ByteArray := prog_3_method_7_code
def yX1_mixRound : MethodName := ⟨RX1, "mixRound", "()V"⟩
abbrev cX1_mixPair : ByteArray := prog_3_method_8_code
def yX1_mixPair : MethodName := ⟨RX1, "mixPair", "(III)V"⟩
abbrev cX1_turnLeft : ByteArray := prog_3_method_9_code
def yX1_turnLeft : MethodName := ⟨RX1, "turnLeft", "(II)V"⟩
def RX2 : String := "WideHash"
def TX2 : u_T := fun k => match k with
  | 0 => ("WideHash", "sha", "LWideHash$Sha;", true)
  | 1 => ("WideHash", "sip", "LWideHash$Sip;", true)
  | 2 => ("WideHash", "key", "[I", true)
  | 3 => ("WideHash", "ready", "Z", false)
  | 4 => ("WideHash", "open", "Z", false)
  | 5 => ("WideHash", "kind", "I", false)
  | _ => ("WideHash", "count", "I", false)
def tyX2 : Nat → FieldType := fun k => match k with
  | 0 => .object "WideHash$Sha"
  | 1 => .object "WideHash$Sip"
  | 2 => .array .int
  | 3 => .boolean
  | 4 => .boolean
  | 5 => .int
  | _ => .int
abbrev wsX20 : List Cond := u_ws RX2 TX2 7
theorem nmX2 : ∀ a, a < 7 → ∀ b, b < 7 → a ≠ b → (TX2 a).2.1 ≠ (TX2 b).2.1 := by decide +kernel
theorem tyX2_ok : ∀ k, k < 7 → parseFieldDescriptor (TX2 k).2.2.1 = some (tyX2 k) := by decide +kernel
abbrev cX2_init : ByteArray := prog_1_method_1_code
def yX2_init : MethodName := ⟨RX2, "<init>", "()V"⟩
abbrev cX2_init_ : ByteArray := prog_1_method_2_code
def yX2_init_ : MethodName := ⟨RX2, "init", "()V"⟩
abbrev cX2_beginSha : ByteArray := prog_1_method_3_code
def yX2_beginSha : MethodName := ⟨RX2, "beginSha", "(I)Z"⟩
abbrev cX2_sipKey : ByteArray := prog_1_method_4_code
def yX2_sipKey : MethodName := ⟨RX2, "sipKey", "(II)Z"⟩
abbrev cX2_beginSip : ByteArray := prog_1_method_5_code
def yX2_beginSip : MethodName := ⟨RX2, "beginSip", "()Z"⟩
abbrev cX2_update : ByteArray := prog_1_method_6_code
def yX2_update : MethodName := ⟨RX2, "update", "(I)Z"⟩
abbrev cX2_updates : ByteArray := prog_1_method_7_code
def yX2_updates : MethodName := ⟨RX2, "updates", "(III)Z"⟩
abbrev cX2_close : ByteArray := prog_1_method_8_code
def yX2_close : MethodName := ⟨RX2, "close", "()Z"⟩
abbrev cX2_word : ByteArray := prog_1_method_9_code
def yX2_word : MethodName := ⟨RX2, "word", "(I)I"⟩
abbrev cX2_length : ByteArray := prog_1_method_10_code
def yX2_length : MethodName := ⟨RX2, "length", "()I"⟩
abbrev cX2_state : ByteArray := prog_1_method_11_code
def yX2_state : MethodName := ⟨RX2, "state", "()I"⟩
abbrev cX2_add64Lo : ByteArray := prog_1_method_12_code
def yX2_add64Lo : MethodName := ⟨RX2, "add64Lo", "(IIII)I"⟩
abbrev cX2_add64Hi : ByteArray := prog_1_method_13_code
def yX2_add64Hi : MethodName := ⟨RX2, "add64Hi", "(IIII)I"⟩
abbrev cX2_rotr64Hi : ByteArray := prog_1_method_14_code
def yX2_rotr64Hi : MethodName := ⟨RX2, "rotr64Hi", "(III)I"⟩
abbrev cX2_rotr64Lo : ByteArray := prog_1_method_15_code
def yX2_rotr64Lo : MethodName := ⟨RX2, "rotr64Lo", "(III)I"⟩
abbrev cX2_openAs : ByteArray := prog_1_method_16_code
def yX2_openAs : MethodName := ⟨RX2, "openAs", "(I)V"⟩
abbrev cX2_take : ByteArray := prog_1_method_17_code
def yX2_take : MethodName := ⟨RX2, "take", "(I)V"⟩
abbrev cX2_wordsOf : ByteArray := prog_1_method_18_code
def yX2_wordsOf : MethodName := ⟨RX2, "wordsOf", "(I)I"⟩
abbrev cX2_carry : ByteArray := prog_1_method_19_code
def yX2_carry : MethodName := ⟨RX2, "carry", "(II)I"⟩
abbrev cX2_addTo : ByteArray := prog_1_method_20_code
def yX2_addTo : MethodName := ⟨RX2, "addTo", "([IIII)V"⟩
abbrev cX2_moved : ByteArray := prog_1_method_21_code
def yX2_moved : MethodName := ⟨RX2, "moved", "(III)I"⟩
abbrev cX2_turned : ByteArray := prog_1_method_22_code
def yX2_turned : MethodName := ⟨RX2, "turned", "(III)I"⟩
def RX3 : String := "WideHashModel"
def TX3 : u_T := fun k => match k with
  | 0 => ("WideHashModel", "ready", "Z", false)
  | 1 => ("WideHashModel", "mode", "I", false)
  | 2 => ("WideHashModel", "closed", "Z", false)
  | 3 => ("WideHashModel", "length", "I", false)
  | 4 => ("WideHashModel", "halves", "[I", true)
  | 5 => ("WideHashModel", "p", "J", false)
  | 6 => ("WideHashModel", "q", "J", false)
  | 7 => ("WideHashModel", "rest", "[I", true)
  | 8 => ("WideHashModel", "held", "I", false)
  | 9 => ("WideHashModel", "state", "[J", true)
  | 10 => ("WideHashModel", "cubes", "[J", true)
  | 11 => ("WideHashModel", "squares", "[J", true)
  | 12 => ("WideHashModel", "w", "[J", true)
  | 13 => ("WideHashModel", "\x72", "[J", true)
  | 14 => ("WideHashModel", "root", "[J", true)
  | 15 => ("WideHashModel", "square", "[J", true)
  | _ => ("WideHashModel", "cube", "[J", true)
def tyX3 : Nat → FieldType := fun k => match k with
  | 0 => .boolean
  | 1 => .int
  | 2 => .boolean
  | 3 => .int
  | 4 => .array .int
  | 5 => .long
  | 6 => .long
  | 7 => .array .int
  | 8 => .int
  | 9 => .array .long
  | 10 => .array .long
  | 11 => .array .long
  | 12 => .array .long
  | 13 => .array .long
  | 14 => .array .long
  | 15 => .array .long
  | _ => .array .long
abbrev wsX30 : List Cond := u_ws RX3 TX3 17
theorem nmX3 : ∀ a, a < 17 → ∀ b, b < 17 → a ≠ b → (TX3 a).2.1 ≠ (TX3 b).2.1 := by decide +kernel
theorem tyX3_ok : ∀ k, k < 17 → parseFieldDescriptor (TX3 k).2.2.1 = some (tyX3 k) := by decide +kernel
abbrev cX3_init : ByteArray := prog_5_method_1_code
def yX3_init : MethodName := ⟨RX3, "<init>", "()V"⟩
abbrev cX3_isPrime : ByteArray := prog_5_method_3_code
def yX3_isPrime : MethodName := ⟨RX3, "isPrime", "(I)Z"⟩
abbrev cX3_multiply : ByteArray := prog_5_method_4_code
def yX3_multiply : MethodName := ⟨RX3, "multiply", "([JI[JI[J)V"⟩
abbrev cX3_isBelow : ByteArray := prog_5_method_5_code
def yX3_isBelow : MethodName := ⟨RX3, "isBelow", "(IZ)Z"⟩
abbrev cX3_rootOf : ByteArray := prog_5_method_6_code
def yX3_rootOf : MethodName := ⟨RX3, "rootOf", "(IZ)J"⟩
abbrev cX3_of : ByteArray := prog_5_method_7_code
def yX3_of : MethodName := ⟨RX3, "of", "(II)J"⟩
abbrev cX3_right : ByteArray := prog_5_method_8_code
def yX3_right : MethodName := ⟨RX3, "right", "(JI)J"⟩
abbrev cX3_left : ByteArray := prog_5_method_9_code
def yX3_left : MethodName := ⟨RX3, "left", "(JI)J"⟩
abbrev cX3_add64Lo : ByteArray := prog_5_method_10_code
def yX3_add64Lo : MethodName := ⟨RX3, "add64Lo", "(IIII)I"⟩
abbrev cX3_add64Hi : ByteArray := prog_5_method_11_code
def yX3_add64Hi : MethodName := ⟨RX3, "add64Hi", "(IIII)I"⟩
abbrev cX3_rotr64Hi : ByteArray := prog_5_method_12_code
def yX3_rotr64Hi : MethodName := ⟨RX3, "rotr64Hi", "(III)I"⟩
abbrev cX3_rotr64Lo : ByteArray := prog_5_method_13_code
def yX3_rotr64Lo : MethodName := ⟨RX3, "rotr64Lo", "(III)I"⟩
abbrev cX3_shaBlock : ByteArray := prog_5_method_14_code
def yX3_shaBlock : MethodName := ⟨RX3, "shaBlock", "()V"⟩
abbrev cX3_sipRounds : ByteArray := prog_5_method_15_code
def yX3_sipRounds : MethodName := ⟨RX3, "sipRounds", "(I)V"⟩
abbrev cX3_sipBlock : ByteArray := prog_5_method_16_code
def yX3_sipBlock : MethodName := ⟨RX3, "sipBlock", "()V"⟩
abbrev cX3_init_ : ByteArray := prog_5_method_17_code
def yX3_init_ : MethodName := ⟨RX3, "init", "()V"⟩
abbrev cX3_begin : ByteArray := prog_5_method_18_code
def yX3_begin : MethodName := ⟨RX3, "begin", "(I)V"⟩
abbrev cX3_beginSha : ByteArray := prog_5_method_19_code
def yX3_beginSha : MethodName := ⟨RX3, "beginSha", "(I)Z"⟩
abbrev cX3_sipKey : ByteArray := prog_5_method_20_code
def yX3_sipKey : MethodName := ⟨RX3, "sipKey", "(II)Z"⟩
abbrev cX3_beginSip : ByteArray := prog_5_method_21_code
def yX3_beginSip : MethodName := ⟨RX3, "beginSip", "()Z"⟩
abbrev cX3_take : ByteArray := prog_5_method_22_code
def yX3_take : MethodName := ⟨RX3, "take", "(I)V"⟩
abbrev cX3_isOpen : ByteArray := prog_5_method_23_code
def yX3_isOpen : MethodName := ⟨RX3, "isOpen", "()Z"⟩
abbrev cX3_update : ByteArray := prog_5_method_24_code
def yX3_update : MethodName := ⟨RX3, "update", "(I)Z"⟩
abbrev cX3_updates : ByteArray := prog_5_method_25_code
def yX3_updates : MethodName := ⟨RX3, "updates", "(III)Z"⟩
abbrev cX3_close : ByteArray := prog_5_method_26_code
def yX3_close : MethodName := ⟨RX3, "close", "()Z"⟩
abbrev cX3_word : ByteArray := prog_5_method_27_code
def yX3_word : MethodName := ⟨RX3, "word", "(I)I"⟩
abbrev cX3_length : ByteArray := prog_5_method_28_code
def yX3_length : MethodName := ⟨RX3, "length", "()I"⟩
abbrev cX3_state : ByteArray := prog_5_method_29_code
def yX3_state : MethodName := ⟨RX3, "state", "()I"⟩
def RJ10 : String := "java/lang/System"
def TJ10 : u_T := fun k => match k with
  | _ => ("", "", "", false)
def tyJ10 : Nat → FieldType := fun k => match k with
  | _ => .int
abbrev wsJ100 : List Cond := u_ws RJ10 TJ10 0
theorem nmJ10 : ∀ a, a < 0 → ∀ b, b < 0 → a ≠ b → (TJ10 a).2.1 ≠ (TJ10 b).2.1 := by decide +kernel
theorem tyJ10_ok : ∀ k, k < 0 → parseFieldDescriptor (TJ10 k).2.2.1 = some (tyJ10 k) := by decide +kernel
def RL : String := "WideHashLaw"
abbrev cL_law : ByteArray := code
def yL_law : MethodName := ⟨RL, "law", "([I)Z"⟩
def wsX0_init : List Cond := .code yX0_init cX0_init 1 none :: ([.methodLink RX0 1 objectInit, .instanceMethod objectInit, .code objectInit ⟨#[0xb1]⟩ 1 none, .arrayClass .int, .fieldLink RX0 9 "WideHash$Sha" "total" "[I", .fieldLink RX0 13 "WideHash$Sha" "letters" "[I", .fieldLink RX0 16 "WideHash$Sha" "schedule" "[I", .fieldLink RX0 19 "WideHash$Sha" "filled" "I"] ++ wsX00)
def wsX0_begin : List Cond := .code yX0_begin cX0_begin 2 none :: ([.fieldLink RX0 23 "WideHash$Sha" "SQUARE_ROOTS" "[I", .fieldLink RX0 9 "WideHash$Sha" "total" "[I", .methodLink RX0 26 arraycopyName, .native arraycopyName, .static arraycopyName, .initialized "java/lang/System", .fieldLink RX0 19 "WideHash$Sha" "filled" "I"] ++ wsX00)
def wsX2_moved : List Cond := .code yX2_moved cX2_moved 3 (some .int) :: ([])
def wsX2_turned : List Cond := .code yX2_turned cX2_turned 4 (some .int) :: ([.methodLink RX2 77 yX2_moved, .static yX2_moved, .initialized RX2, .code yX2_moved cX2_moved 3 (some .int)])
def wsX2_carry : List Cond := .code yX2_carry cX2_carry 2 (some .int) :: ([])
def wsX2_addTo : List Cond := .code yX2_addTo cX2_addTo 4 none :: ([.methodLink RX2 67 yX2_carry, .static yX2_carry, .initialized RX2, .code yX2_carry cX2_carry 2 (some .int)])
def wsX0_extend : List Cond := .code yX0_extend cX0_extend 6 none :: ([.fieldLink RX0 16 "WideHash$Sha" "schedule" "[I", .static yX2_turned, .initialized RX2, .code yX2_turned cX2_turned 4 (some .int), .methodLink RX2 77 yX2_moved, .static yX2_moved, .code yX2_moved cX2_moved 3 (some .int), .static yX2_addTo, .code yX2_addTo cX2_addTo 4 none, .methodLink RX2 67 yX2_carry, .static yX2_carry, .code yX2_carry cX2_carry 2 (some .int)] ++ wsX00)
def wsX0_turnsOfE : List Cond := .code yX0_turnsOfE cX0_turnsOfE 2 (some .int) :: ([.static yX2_turned, .initialized RX2, .code yX2_turned cX2_turned 4 (some .int), .methodLink RX2 77 yX2_moved, .static yX2_moved, .code yX2_moved cX2_moved 3 (some .int)])
def wsX0_chosen : List Cond := .code yX0_chosen cX0_chosen 3 (some .int) :: ([.fieldLink RX0 13 "WideHash$Sha" "letters" "[I"] ++ wsX00)
def wsX0_majority : List Cond := .code yX0_majority cX0_majority 5 (some .int) :: ([.fieldLink RX0 13 "WideHash$Sha" "letters" "[I"] ++ wsX00)
def wsX0_turnsOfA : List Cond := .code yX0_turnsOfA cX0_turnsOfA 2 (some .int) :: ([.static yX2_turned, .initialized RX2, .code yX2_turned cX2_turned 4 (some .int), .methodLink RX2 77 yX2_moved, .static yX2_moved, .code yX2_moved cX2_moved 3 (some .int)])
def wsX0_mixRound_r1 : List Cond := [Cond.fieldLink RX0 13 "WideHash$Sha" "letters" "[I", Cond.fieldLink RX0 66 "WideHash$Sha" "CUBE_ROOTS" "[I", Cond.fieldLink RX0 16 "WideHash$Sha" "schedule" "[I", Cond.methodLink RX0 26 arraycopyName, Cond.native arraycopyName, Cond.static arraycopyName, Cond.initialized "java/lang/System", Cond.methodLink RX0 58 yX0_turnsOfE, Cond.static yX0_turnsOfE, Cond.initialized RX0, Cond.code yX0_turnsOfE cX0_turnsOfE 2 (some .int), Cond.static yX2_turned, Cond.initialized RX2, Cond.code yX2_turned cX2_turned 4 (some .int), Cond.methodLink RX2 77 yX2_moved, Cond.static yX2_moved, Cond.code yX2_moved cX2_moved 3 (some .int), Cond.static yX2_addTo, Cond.code yX2_addTo cX2_addTo 4 none, Cond.methodLink RX2 67 yX2_carry, Cond.static yX2_carry, Cond.code yX2_carry cX2_carry 2 (some .int), Cond.methodLink RX0 62 yX0_chosen, Cond.instanceMethod yX0_chosen]
def wsX0_mixRound_r2 : List Cond := [Cond.selects RX0 yX0_chosen yX0_chosen, Cond.code yX0_chosen cX0_chosen 3 (some .int), Cond.methodLink RX0 69 yX0_majority, Cond.instanceMethod yX0_majority, Cond.selects RX0 yX0_majority yX0_majority, Cond.code yX0_majority cX0_majority 5 (some .int), Cond.methodLink RX0 72 yX0_turnsOfA, Cond.static yX0_turnsOfA, Cond.code yX0_turnsOfA cX0_turnsOfA 2 (some .int)]
def wsX0_mixRound : List Cond := .code yX0_mixRound cX0_mixRound 6 none :: ((wsX0_mixRound_r1 ++ wsX0_mixRound_r2) ++ wsX00)
def wsX0_mixBlock_r1 : List Cond := [Cond.fieldLink RX0 9 "WideHash$Sha" "total" "[I", Cond.fieldLink RX0 13 "WideHash$Sha" "letters" "[I", Cond.methodLink RX0 26 arraycopyName, Cond.native arraycopyName, Cond.static arraycopyName, Cond.initialized "java/lang/System", Cond.methodLink RX0 39 yX0_extend, Cond.instanceMethod yX0_extend, Cond.selects RX0 yX0_extend yX0_extend, Cond.initialized RX0, Cond.code yX0_extend cX0_extend 6 none, Cond.fieldLink RX0 16 "WideHash$Sha" "schedule" "[I", Cond.static yX2_turned, Cond.initialized RX2, Cond.code yX2_turned cX2_turned 4 (some .int), Cond.methodLink RX2 77 yX2_moved, Cond.static yX2_moved, Cond.code yX2_moved cX2_moved 3 (some .int), Cond.static yX2_addTo, Cond.code yX2_addTo cX2_addTo 4 none, Cond.methodLink RX2 67 yX2_carry, Cond.static yX2_carry, Cond.code yX2_carry cX2_carry 2 (some .int), Cond.methodLink RX0 42 yX0_mixRound]
def wsX0_mixBlock_r2 : List Cond := [Cond.instanceMethod yX0_mixRound, Cond.selects RX0 yX0_mixRound yX0_mixRound, Cond.code yX0_mixRound cX0_mixRound 6 none, Cond.fieldLink RX0 66 "WideHash$Sha" "CUBE_ROOTS" "[I", Cond.methodLink RX0 58 yX0_turnsOfE, Cond.static yX0_turnsOfE, Cond.code yX0_turnsOfE cX0_turnsOfE 2 (some .int), Cond.methodLink RX0 62 yX0_chosen, Cond.instanceMethod yX0_chosen, Cond.selects RX0 yX0_chosen yX0_chosen, Cond.code yX0_chosen cX0_chosen 3 (some .int), Cond.methodLink RX0 69 yX0_majority, Cond.instanceMethod yX0_majority, Cond.selects RX0 yX0_majority yX0_majority, Cond.code yX0_majority cX0_majority 5 (some .int), Cond.methodLink RX0 72 yX0_turnsOfA, Cond.static yX0_turnsOfA, Cond.code yX0_turnsOfA cX0_turnsOfA 2 (some .int)]
def wsX0_mixBlock : List Cond := .code yX0_mixBlock cX0_mixBlock 2 none :: ((wsX0_mixBlock_r1 ++ wsX0_mixBlock_r2) ++ wsX00)
def wsX0_take_r1 : List Cond := [Cond.fieldLink RX0 19 "WideHash$Sha" "filled" "I", Cond.fieldLink RX0 16 "WideHash$Sha" "schedule" "[I", Cond.methodLink RX0 32 yX0_mixBlock, Cond.instanceMethod yX0_mixBlock, Cond.selects RX0 yX0_mixBlock yX0_mixBlock, Cond.initialized RX0, Cond.code yX0_mixBlock cX0_mixBlock 2 none, Cond.fieldLink RX0 9 "WideHash$Sha" "total" "[I", Cond.fieldLink RX0 13 "WideHash$Sha" "letters" "[I", Cond.methodLink RX0 26 arraycopyName, Cond.native arraycopyName, Cond.static arraycopyName, Cond.initialized "java/lang/System", Cond.methodLink RX0 39 yX0_extend, Cond.instanceMethod yX0_extend, Cond.selects RX0 yX0_extend yX0_extend, Cond.code yX0_extend cX0_extend 6 none, Cond.static yX2_turned, Cond.initialized RX2, Cond.code yX2_turned cX2_turned 4 (some .int), Cond.methodLink RX2 77 yX2_moved, Cond.static yX2_moved, Cond.code yX2_moved cX2_moved 3 (some .int), Cond.static yX2_addTo]
def wsX0_take_r2 : List Cond := [Cond.code yX2_addTo cX2_addTo 4 none, Cond.methodLink RX2 67 yX2_carry, Cond.static yX2_carry, Cond.code yX2_carry cX2_carry 2 (some .int), Cond.methodLink RX0 42 yX0_mixRound, Cond.instanceMethod yX0_mixRound, Cond.selects RX0 yX0_mixRound yX0_mixRound, Cond.code yX0_mixRound cX0_mixRound 6 none, Cond.fieldLink RX0 66 "WideHash$Sha" "CUBE_ROOTS" "[I", Cond.methodLink RX0 58 yX0_turnsOfE, Cond.static yX0_turnsOfE, Cond.code yX0_turnsOfE cX0_turnsOfE 2 (some .int), Cond.methodLink RX0 62 yX0_chosen, Cond.instanceMethod yX0_chosen, Cond.selects RX0 yX0_chosen yX0_chosen, Cond.code yX0_chosen cX0_chosen 3 (some .int), Cond.methodLink RX0 69 yX0_majority, Cond.instanceMethod yX0_majority, Cond.selects RX0 yX0_majority yX0_majority, Cond.code yX0_majority cX0_majority 5 (some .int), Cond.methodLink RX0 72 yX0_turnsOfA, Cond.static yX0_turnsOfA, Cond.code yX0_turnsOfA cX0_turnsOfA 2 (some .int)]
def wsX0_take : List Cond := .code yX0_take cX0_take 3 none :: ((wsX0_take_r1 ++ wsX0_take_r2) ++ wsX00)
def wsX0_end_r1 : List Cond := [Cond.fieldLink RX0 16 "WideHash$Sha" "schedule" "[I", Cond.methodLink RX0 35 yX0_take, Cond.instanceMethod yX0_take, Cond.selects RX0 yX0_take yX0_take, Cond.initialized RX0, Cond.code yX0_take cX0_take 3 none, Cond.fieldLink RX0 19 "WideHash$Sha" "filled" "I", Cond.methodLink RX0 32 yX0_mixBlock, Cond.instanceMethod yX0_mixBlock, Cond.selects RX0 yX0_mixBlock yX0_mixBlock, Cond.code yX0_mixBlock cX0_mixBlock 2 none, Cond.fieldLink RX0 9 "WideHash$Sha" "total" "[I", Cond.fieldLink RX0 13 "WideHash$Sha" "letters" "[I", Cond.methodLink RX0 26 arraycopyName, Cond.native arraycopyName, Cond.static arraycopyName, Cond.initialized "java/lang/System", Cond.methodLink RX0 39 yX0_extend, Cond.instanceMethod yX0_extend, Cond.selects RX0 yX0_extend yX0_extend, Cond.code yX0_extend cX0_extend 6 none, Cond.static yX2_turned, Cond.initialized RX2, Cond.code yX2_turned cX2_turned 4 (some .int)]
def wsX0_end_r2 : List Cond := [Cond.methodLink RX2 77 yX2_moved, Cond.static yX2_moved, Cond.code yX2_moved cX2_moved 3 (some .int), Cond.static yX2_addTo, Cond.code yX2_addTo cX2_addTo 4 none, Cond.methodLink RX2 67 yX2_carry, Cond.static yX2_carry, Cond.code yX2_carry cX2_carry 2 (some .int), Cond.methodLink RX0 42 yX0_mixRound, Cond.instanceMethod yX0_mixRound, Cond.selects RX0 yX0_mixRound yX0_mixRound, Cond.code yX0_mixRound cX0_mixRound 6 none, Cond.fieldLink RX0 66 "WideHash$Sha" "CUBE_ROOTS" "[I", Cond.methodLink RX0 58 yX0_turnsOfE, Cond.static yX0_turnsOfE, Cond.code yX0_turnsOfE cX0_turnsOfE 2 (some .int), Cond.methodLink RX0 62 yX0_chosen, Cond.instanceMethod yX0_chosen, Cond.selects RX0 yX0_chosen yX0_chosen, Cond.code yX0_chosen cX0_chosen 3 (some .int), Cond.methodLink RX0 69 yX0_majority, Cond.instanceMethod yX0_majority, Cond.selects RX0 yX0_majority yX0_majority, Cond.code yX0_majority cX0_majority 5 (some .int)]
def wsX0_end_r3 : List Cond := [Cond.methodLink RX0 72 yX0_turnsOfA, Cond.static yX0_turnsOfA, Cond.code yX0_turnsOfA cX0_turnsOfA 2 (some .int)]
def wsX0_end : List Cond := .code yX0_end cX0_end 4 none :: ((wsX0_end_r1 ++ (wsX0_end_r2 ++ wsX0_end_r3)) ++ wsX00)
def wsX0_wordAt : List Cond := .code yX0_wordAt cX0_wordAt 2 (some .int) :: ([.fieldLink RX0 9 "WideHash$Sha" "total" "[I"] ++ wsX00)
def wsX1_init : List Cond := .code yX1_init cX1_init 1 none :: ([.methodLink RX1 1 objectInit, .instanceMethod objectInit, .code objectInit ⟨#[0xb1]⟩ 1 none, .arrayClass .int, .fieldLink RX1 7 "WideHash$Sip" "v" "[I", .fieldLink RX1 13 "WideHash$Sip" "groupHigh" "I", .fieldLink RX1 17 "WideHash$Sip" "groupLow" "I", .fieldLink RX1 20 "WideHash$Sip" "filled" "I"] ++ wsX10)
def wsX1_begin : List Cond := .code yX1_begin cX1_begin 4 none :: ([.fieldLink RX1 7 "WideHash$Sip" "v" "[I", .fieldLink RX1 23 "WideHash$Sip" "FIRST" "[I", .fieldLink RX1 20 "WideHash$Sip" "filled" "I"] ++ wsX10)
def wsX1_turnLeft : List Cond := .code yX1_turnLeft cX1_turnLeft 5 none :: ([.fieldLink RX1 7 "WideHash$Sip" "v" "[I", .static yX2_turned, .initialized RX2, .code yX2_turned cX2_turned 4 (some .int), .methodLink RX2 77 yX2_moved, .static yX2_moved, .code yX2_moved cX2_moved 3 (some .int)] ++ wsX10)
def wsX1_mixPair : List Cond := .code yX1_mixPair cX1_mixPair 4 none :: ([.fieldLink RX1 7 "WideHash$Sip" "v" "[I", .static yX2_addTo, .initialized RX2, .code yX2_addTo cX2_addTo 4 none, .methodLink RX2 67 yX2_carry, .static yX2_carry, .code yX2_carry cX2_carry 2 (some .int), .methodLink RX1 46 yX1_turnLeft, .instanceMethod yX1_turnLeft, .selects RX1 yX1_turnLeft yX1_turnLeft, .initialized RX1, .code yX1_turnLeft cX1_turnLeft 5 none, .static yX2_turned, .code yX2_turned cX2_turned 4 (some .int), .methodLink RX2 77 yX2_moved, .static yX2_moved, .code yX2_moved cX2_moved 3 (some .int)] ++ wsX10)
def wsX1_mixRound : List Cond := .code yX1_mixRound cX1_mixRound 1 none :: ([.methodLink RX1 42 yX1_mixPair, .instanceMethod yX1_mixPair, .selects RX1 yX1_mixPair yX1_mixPair, .initialized RX1, .code yX1_mixPair cX1_mixPair 4 none, .fieldLink RX1 7 "WideHash$Sip" "v" "[I", .static yX2_addTo, .initialized RX2, .code yX2_addTo cX2_addTo 4 none, .methodLink RX2 67 yX2_carry, .static yX2_carry, .code yX2_carry cX2_carry 2 (some .int), .methodLink RX1 46 yX1_turnLeft, .instanceMethod yX1_turnLeft, .selects RX1 yX1_turnLeft yX1_turnLeft, .code yX1_turnLeft cX1_turnLeft 5 none, .static yX2_turned, .code yX2_turned cX2_turned 4 (some .int), .methodLink RX2 77 yX2_moved, .static yX2_moved, .code yX2_moved cX2_moved 3 (some .int)] ++ wsX10)
def wsX1_mixGroup_r1 : List Cond := [Cond.fieldLink RX1 7 "WideHash$Sip" "v" "[I", Cond.fieldLink RX1 13 "WideHash$Sip" "groupHigh" "I", Cond.fieldLink RX1 17 "WideHash$Sip" "groupLow" "I", Cond.methodLink RX1 39 yX1_mixRound, Cond.instanceMethod yX1_mixRound, Cond.selects RX1 yX1_mixRound yX1_mixRound, Cond.initialized RX1, Cond.code yX1_mixRound cX1_mixRound 1 none, Cond.methodLink RX1 42 yX1_mixPair, Cond.instanceMethod yX1_mixPair, Cond.selects RX1 yX1_mixPair yX1_mixPair, Cond.code yX1_mixPair cX1_mixPair 4 none, Cond.static yX2_addTo, Cond.initialized RX2, Cond.code yX2_addTo cX2_addTo 4 none, Cond.methodLink RX2 67 yX2_carry, Cond.static yX2_carry, Cond.code yX2_carry cX2_carry 2 (some .int), Cond.methodLink RX1 46 yX1_turnLeft, Cond.instanceMethod yX1_turnLeft, Cond.selects RX1 yX1_turnLeft yX1_turnLeft, Cond.code yX1_turnLeft cX1_turnLeft 5 none, Cond.static yX2_turned, Cond.code yX2_turned cX2_turned 4 (some .int)]
def wsX1_mixGroup_r2 : List Cond := [Cond.methodLink RX2 77 yX2_moved, Cond.static yX2_moved, Cond.code yX2_moved cX2_moved 3 (some .int)]
def wsX1_mixGroup : List Cond := .code yX1_mixGroup cX1_mixGroup 1 none :: ((wsX1_mixGroup_r1 ++ wsX1_mixGroup_r2) ++ wsX10)
def wsX1_take_r1 : List Cond := [Cond.fieldLink RX1 13 "WideHash$Sip" "groupHigh" "I", Cond.fieldLink RX1 17 "WideHash$Sip" "groupLow" "I", Cond.fieldLink RX1 20 "WideHash$Sip" "filled" "I", Cond.static yX2_moved, Cond.initialized RX2, Cond.code yX2_moved cX2_moved 3 (some .int), Cond.methodLink RX1 32 yX1_mixGroup, Cond.instanceMethod yX1_mixGroup, Cond.selects RX1 yX1_mixGroup yX1_mixGroup, Cond.initialized RX1, Cond.code yX1_mixGroup cX1_mixGroup 1 none, Cond.fieldLink RX1 7 "WideHash$Sip" "v" "[I", Cond.methodLink RX1 39 yX1_mixRound, Cond.instanceMethod yX1_mixRound, Cond.selects RX1 yX1_mixRound yX1_mixRound, Cond.code yX1_mixRound cX1_mixRound 1 none, Cond.methodLink RX1 42 yX1_mixPair, Cond.instanceMethod yX1_mixPair, Cond.selects RX1 yX1_mixPair yX1_mixPair, Cond.code yX1_mixPair cX1_mixPair 4 none, Cond.static yX2_addTo, Cond.code yX2_addTo cX2_addTo 4 none, Cond.methodLink RX2 67 yX2_carry, Cond.static yX2_carry]
def wsX1_take_r2 : List Cond := [Cond.code yX2_carry cX2_carry 2 (some .int), Cond.methodLink RX1 46 yX1_turnLeft, Cond.instanceMethod yX1_turnLeft, Cond.selects RX1 yX1_turnLeft yX1_turnLeft, Cond.code yX1_turnLeft cX1_turnLeft 5 none, Cond.static yX2_turned, Cond.code yX2_turned cX2_turned 4 (some .int), Cond.methodLink RX2 77 yX2_moved]
def wsX1_take : List Cond := .code yX1_take cX1_take 2 none :: ((wsX1_take_r1 ++ wsX1_take_r2) ++ wsX10)
def wsX1_end_r1 : List Cond := [Cond.fieldLink RX1 7 "WideHash$Sip" "v" "[I", Cond.methodLink RX1 35 yX1_take, Cond.instanceMethod yX1_take, Cond.selects RX1 yX1_take yX1_take, Cond.initialized RX1, Cond.code yX1_take cX1_take 2 none, Cond.fieldLink RX1 13 "WideHash$Sip" "groupHigh" "I", Cond.fieldLink RX1 17 "WideHash$Sip" "groupLow" "I", Cond.fieldLink RX1 20 "WideHash$Sip" "filled" "I", Cond.static yX2_moved, Cond.initialized RX2, Cond.code yX2_moved cX2_moved 3 (some .int), Cond.methodLink RX1 32 yX1_mixGroup, Cond.instanceMethod yX1_mixGroup, Cond.selects RX1 yX1_mixGroup yX1_mixGroup, Cond.code yX1_mixGroup cX1_mixGroup 1 none, Cond.methodLink RX1 39 yX1_mixRound, Cond.instanceMethod yX1_mixRound, Cond.selects RX1 yX1_mixRound yX1_mixRound, Cond.code yX1_mixRound cX1_mixRound 1 none, Cond.methodLink RX1 42 yX1_mixPair, Cond.instanceMethod yX1_mixPair, Cond.selects RX1 yX1_mixPair yX1_mixPair, Cond.code yX1_mixPair cX1_mixPair 4 none]
def wsX1_end_r2 : List Cond := [Cond.static yX2_addTo, Cond.code yX2_addTo cX2_addTo 4 none, Cond.methodLink RX2 67 yX2_carry, Cond.static yX2_carry, Cond.code yX2_carry cX2_carry 2 (some .int), Cond.methodLink RX1 46 yX1_turnLeft, Cond.instanceMethod yX1_turnLeft, Cond.selects RX1 yX1_turnLeft yX1_turnLeft, Cond.code yX1_turnLeft cX1_turnLeft 5 none, Cond.static yX2_turned, Cond.code yX2_turned cX2_turned 4 (some .int), Cond.methodLink RX2 77 yX2_moved]
def wsX1_end : List Cond := .code yX1_end cX1_end 4 none :: ((wsX1_end_r1 ++ wsX1_end_r2) ++ wsX10)
def wsX1_wordAt : List Cond := .code yX1_wordAt cX1_wordAt 2 (some .int) :: ([.fieldLink RX1 7 "WideHash$Sip" "v" "[I"] ++ wsX10)
def wsX2_init_r1 : List Cond := [Cond.methodLink RX2 1 objectInit, Cond.instanceMethod objectInit, Cond.code objectInit ⟨#[0xb1]⟩ 1 none, Cond.classLink RX2 7 RX0, Cond.instantiable RX0 4, Cond.initialized RX0, Cond.fieldLink RX2 10 "WideHash" "sha" "LWideHash$Sha;", Cond.classLink RX2 16 RX1, Cond.instantiable RX1 4, Cond.initialized RX1, Cond.fieldLink RX2 19 "WideHash" "sip" "LWideHash$Sip;", Cond.arrayClass .int, Cond.fieldLink RX2 23 "WideHash" "key" "[I", Cond.fieldLink RX2 27 "WideHash" "ready" "Z", Cond.fieldLink RX2 31 "WideHash" "open" "Z", Cond.fieldLink RX2 34 "WideHash" "kind" "I", Cond.fieldLink RX2 38 "WideHash" "count" "I", Cond.instanceMethod yX0_init, Cond.code yX0_init cX0_init 1 none, Cond.methodLink RX0 1 objectInit, Cond.fieldLink RX0 9 "WideHash$Sha" "total" "[I", Cond.fieldLink RX0 13 "WideHash$Sha" "letters" "[I", Cond.fieldLink RX0 16 "WideHash$Sha" "schedule" "[I", Cond.fieldLink RX0 19 "WideHash$Sha" "filled" "I"]
def wsX2_init_r2 : List Cond := [Cond.instanceMethod yX1_init, Cond.code yX1_init cX1_init 1 none, Cond.methodLink RX1 1 objectInit, Cond.fieldLink RX1 7 "WideHash$Sip" "v" "[I", Cond.fieldLink RX1 13 "WideHash$Sip" "groupHigh" "I", Cond.fieldLink RX1 17 "WideHash$Sip" "groupLow" "I", Cond.fieldLink RX1 20 "WideHash$Sip" "filled" "I"]
def wsX2_init : List Cond := .code yX2_init cX2_init 1 none :: ((wsX2_init_r1 ++ wsX2_init_r2) ++ wsX00 ++ wsX20 ++ wsX10)
def wsX2_init_ : List Cond := .code yX2_init_ cX2_init_ 1 none :: ([.fieldLink RX2 27 "WideHash" "ready" "Z"] ++ wsX20)
def wsX2_openAs : List Cond := .code yX2_openAs cX2_openAs 2 none :: ([.fieldLink RX2 34 "WideHash" "kind" "I", .fieldLink RX2 31 "WideHash" "open" "Z", .fieldLink RX2 38 "WideHash" "count" "I"] ++ wsX20)
def wsX2_beginSha : List Cond := .code yX2_beginSha cX2_beginSha 2 (some .boolean) :: ([.fieldLink RX2 27 "WideHash" "ready" "Z", .fieldLink RX2 10 "WideHash" "sha" "LWideHash$Sha;", .methodLink RX2 41 yX0_begin, .instanceMethod yX0_begin, .selects RX0 yX0_begin yX0_begin, .initialized RX0, .code yX0_begin cX0_begin 2 none, .fieldLink RX0 23 "WideHash$Sha" "SQUARE_ROOTS" "[I", .fieldLink RX0 9 "WideHash$Sha" "total" "[I", .methodLink RX0 26 arraycopyName, .native arraycopyName, .static arraycopyName, .initialized "java/lang/System", .fieldLink RX0 19 "WideHash$Sha" "filled" "I", .methodLink RX2 45 yX2_openAs, .instanceMethod yX2_openAs, .selects RX2 yX2_openAs yX2_openAs, .initialized RX2, .code yX2_openAs cX2_openAs 2 none, .fieldLink RX2 34 "WideHash" "kind" "I", .fieldLink RX2 31 "WideHash" "open" "Z", .fieldLink RX2 38 "WideHash" "count" "I"] ++ wsX20 ++ wsX00)
def wsX2_sipKey : List Cond := .code yX2_sipKey cX2_sipKey 3 (some .boolean) :: ([.fieldLink RX2 23 "WideHash" "key" "[I"] ++ wsX20)
def wsX2_beginSip : List Cond := .code yX2_beginSip cX2_beginSip 1 (some .boolean) :: ([.fieldLink RX2 27 "WideHash" "ready" "Z", .fieldLink RX2 19 "WideHash" "sip" "LWideHash$Sip;", .fieldLink RX2 23 "WideHash" "key" "[I", .methodLink RX2 49 yX1_begin, .instanceMethod yX1_begin, .selects RX1 yX1_begin yX1_begin, .initialized RX1, .code yX1_begin cX1_begin 4 none, .fieldLink RX1 7 "WideHash$Sip" "v" "[I", .fieldLink RX1 23 "WideHash$Sip" "FIRST" "[I", .fieldLink RX1 20 "WideHash$Sip" "filled" "I", .methodLink RX2 45 yX2_openAs, .instanceMethod yX2_openAs, .selects RX2 yX2_openAs yX2_openAs, .initialized RX2, .code yX2_openAs cX2_openAs 2 none, .fieldLink RX2 34 "WideHash" "kind" "I", .fieldLink RX2 31 "WideHash" "open" "Z", .fieldLink RX2 38 "WideHash" "count" "I"] ++ wsX20 ++ wsX10)
def wsX2_take_r1 : List Cond := [Cond.fieldLink RX2 34 "WideHash" "kind" "I", Cond.fieldLink RX2 19 "WideHash" "sip" "LWideHash$Sip;", Cond.fieldLink RX2 10 "WideHash" "sha" "LWideHash$Sha;", Cond.fieldLink RX2 38 "WideHash" "count" "I", Cond.methodLink RX2 75 yX1_take, Cond.instanceMethod yX1_take, Cond.selects RX1 yX1_take yX1_take, Cond.initialized RX1, Cond.code yX1_take cX1_take 2 none, Cond.fieldLink RX1 13 "WideHash$Sip" "groupHigh" "I", Cond.fieldLink RX1 17 "WideHash$Sip" "groupLow" "I", Cond.fieldLink RX1 20 "WideHash$Sip" "filled" "I", Cond.static yX2_moved, Cond.initialized RX2, Cond.code yX2_moved cX2_moved 3 (some .int), Cond.methodLink RX1 32 yX1_mixGroup, Cond.instanceMethod yX1_mixGroup, Cond.selects RX1 yX1_mixGroup yX1_mixGroup, Cond.code yX1_mixGroup cX1_mixGroup 1 none, Cond.fieldLink RX1 7 "WideHash$Sip" "v" "[I", Cond.methodLink RX1 39 yX1_mixRound, Cond.instanceMethod yX1_mixRound, Cond.selects RX1 yX1_mixRound yX1_mixRound, Cond.code yX1_mixRound cX1_mixRound 1 none]
def wsX2_take_r2 : List Cond := [Cond.methodLink RX1 42 yX1_mixPair, Cond.instanceMethod yX1_mixPair, Cond.selects RX1 yX1_mixPair yX1_mixPair, Cond.code yX1_mixPair cX1_mixPair 4 none, Cond.static yX2_addTo, Cond.code yX2_addTo cX2_addTo 4 none, Cond.methodLink RX2 67 yX2_carry, Cond.static yX2_carry, Cond.code yX2_carry cX2_carry 2 (some .int), Cond.methodLink RX1 46 yX1_turnLeft, Cond.instanceMethod yX1_turnLeft, Cond.selects RX1 yX1_turnLeft yX1_turnLeft, Cond.code yX1_turnLeft cX1_turnLeft 5 none, Cond.static yX2_turned, Cond.code yX2_turned cX2_turned 4 (some .int), Cond.methodLink RX2 77 yX2_moved, Cond.methodLink RX2 76 yX0_take, Cond.instanceMethod yX0_take, Cond.selects RX0 yX0_take yX0_take, Cond.initialized RX0, Cond.code yX0_take cX0_take 3 none, Cond.fieldLink RX0 19 "WideHash$Sha" "filled" "I", Cond.fieldLink RX0 16 "WideHash$Sha" "schedule" "[I", Cond.methodLink RX0 32 yX0_mixBlock]
def wsX2_take_r3 : List Cond := [Cond.instanceMethod yX0_mixBlock, Cond.selects RX0 yX0_mixBlock yX0_mixBlock, Cond.code yX0_mixBlock cX0_mixBlock 2 none, Cond.fieldLink RX0 9 "WideHash$Sha" "total" "[I", Cond.fieldLink RX0 13 "WideHash$Sha" "letters" "[I", Cond.methodLink RX0 26 arraycopyName, Cond.native arraycopyName, Cond.static arraycopyName, Cond.initialized "java/lang/System", Cond.methodLink RX0 39 yX0_extend, Cond.instanceMethod yX0_extend, Cond.selects RX0 yX0_extend yX0_extend, Cond.code yX0_extend cX0_extend 6 none, Cond.methodLink RX0 42 yX0_mixRound, Cond.instanceMethod yX0_mixRound, Cond.selects RX0 yX0_mixRound yX0_mixRound, Cond.code yX0_mixRound cX0_mixRound 6 none, Cond.fieldLink RX0 66 "WideHash$Sha" "CUBE_ROOTS" "[I", Cond.methodLink RX0 58 yX0_turnsOfE, Cond.static yX0_turnsOfE, Cond.code yX0_turnsOfE cX0_turnsOfE 2 (some .int), Cond.methodLink RX0 62 yX0_chosen, Cond.instanceMethod yX0_chosen, Cond.selects RX0 yX0_chosen yX0_chosen]
def wsX2_take_r4 : List Cond := [Cond.code yX0_chosen cX0_chosen 3 (some .int), Cond.methodLink RX0 69 yX0_majority, Cond.instanceMethod yX0_majority, Cond.selects RX0 yX0_majority yX0_majority, Cond.code yX0_majority cX0_majority 5 (some .int), Cond.methodLink RX0 72 yX0_turnsOfA, Cond.static yX0_turnsOfA, Cond.code yX0_turnsOfA cX0_turnsOfA 2 (some .int)]
def wsX2_take : List Cond := .code yX2_take cX2_take 2 none :: ((wsX2_take_r1 ++ (wsX2_take_r2 ++ (wsX2_take_r3 ++ wsX2_take_r4))) ++ wsX20 ++ wsX10 ++ wsX00)
def wsX2_update_r1 : List Cond := [Cond.fieldLink RX2 31 "WideHash" "open" "Z", Cond.methodLink RX2 52 yX2_take, Cond.instanceMethod yX2_take, Cond.selects RX2 yX2_take yX2_take, Cond.initialized RX2, Cond.code yX2_take cX2_take 2 none, Cond.fieldLink RX2 34 "WideHash" "kind" "I", Cond.fieldLink RX2 19 "WideHash" "sip" "LWideHash$Sip;", Cond.fieldLink RX2 10 "WideHash" "sha" "LWideHash$Sha;", Cond.fieldLink RX2 38 "WideHash" "count" "I", Cond.methodLink RX2 75 yX1_take, Cond.instanceMethod yX1_take, Cond.selects RX1 yX1_take yX1_take, Cond.initialized RX1, Cond.code yX1_take cX1_take 2 none, Cond.fieldLink RX1 13 "WideHash$Sip" "groupHigh" "I", Cond.fieldLink RX1 17 "WideHash$Sip" "groupLow" "I", Cond.fieldLink RX1 20 "WideHash$Sip" "filled" "I", Cond.static yX2_moved, Cond.code yX2_moved cX2_moved 3 (some .int), Cond.methodLink RX1 32 yX1_mixGroup, Cond.instanceMethod yX1_mixGroup, Cond.selects RX1 yX1_mixGroup yX1_mixGroup, Cond.code yX1_mixGroup cX1_mixGroup 1 none]
def wsX2_update_r2 : List Cond := [Cond.fieldLink RX1 7 "WideHash$Sip" "v" "[I", Cond.methodLink RX1 39 yX1_mixRound, Cond.instanceMethod yX1_mixRound, Cond.selects RX1 yX1_mixRound yX1_mixRound, Cond.code yX1_mixRound cX1_mixRound 1 none, Cond.methodLink RX1 42 yX1_mixPair, Cond.instanceMethod yX1_mixPair, Cond.selects RX1 yX1_mixPair yX1_mixPair, Cond.code yX1_mixPair cX1_mixPair 4 none, Cond.static yX2_addTo, Cond.code yX2_addTo cX2_addTo 4 none, Cond.methodLink RX2 67 yX2_carry, Cond.static yX2_carry, Cond.code yX2_carry cX2_carry 2 (some .int), Cond.methodLink RX1 46 yX1_turnLeft, Cond.instanceMethod yX1_turnLeft, Cond.selects RX1 yX1_turnLeft yX1_turnLeft, Cond.code yX1_turnLeft cX1_turnLeft 5 none, Cond.static yX2_turned, Cond.code yX2_turned cX2_turned 4 (some .int), Cond.methodLink RX2 77 yX2_moved, Cond.methodLink RX2 76 yX0_take, Cond.instanceMethod yX0_take, Cond.selects RX0 yX0_take yX0_take]
def wsX2_update_r3 : List Cond := [Cond.initialized RX0, Cond.code yX0_take cX0_take 3 none, Cond.fieldLink RX0 19 "WideHash$Sha" "filled" "I", Cond.fieldLink RX0 16 "WideHash$Sha" "schedule" "[I", Cond.methodLink RX0 32 yX0_mixBlock, Cond.instanceMethod yX0_mixBlock, Cond.selects RX0 yX0_mixBlock yX0_mixBlock, Cond.code yX0_mixBlock cX0_mixBlock 2 none, Cond.fieldLink RX0 9 "WideHash$Sha" "total" "[I", Cond.fieldLink RX0 13 "WideHash$Sha" "letters" "[I", Cond.methodLink RX0 26 arraycopyName, Cond.native arraycopyName, Cond.static arraycopyName, Cond.initialized "java/lang/System", Cond.methodLink RX0 39 yX0_extend, Cond.instanceMethod yX0_extend, Cond.selects RX0 yX0_extend yX0_extend, Cond.code yX0_extend cX0_extend 6 none, Cond.methodLink RX0 42 yX0_mixRound, Cond.instanceMethod yX0_mixRound, Cond.selects RX0 yX0_mixRound yX0_mixRound, Cond.code yX0_mixRound cX0_mixRound 6 none, Cond.fieldLink RX0 66 "WideHash$Sha" "CUBE_ROOTS" "[I", Cond.methodLink RX0 58 yX0_turnsOfE]
def wsX2_update_r4 : List Cond := [Cond.static yX0_turnsOfE, Cond.code yX0_turnsOfE cX0_turnsOfE 2 (some .int), Cond.methodLink RX0 62 yX0_chosen, Cond.instanceMethod yX0_chosen, Cond.selects RX0 yX0_chosen yX0_chosen, Cond.code yX0_chosen cX0_chosen 3 (some .int), Cond.methodLink RX0 69 yX0_majority, Cond.instanceMethod yX0_majority, Cond.selects RX0 yX0_majority yX0_majority, Cond.code yX0_majority cX0_majority 5 (some .int), Cond.methodLink RX0 72 yX0_turnsOfA, Cond.static yX0_turnsOfA, Cond.code yX0_turnsOfA cX0_turnsOfA 2 (some .int)]
def wsX2_update : List Cond := .code yX2_update cX2_update 2 (some .boolean) :: ((wsX2_update_r1 ++ (wsX2_update_r2 ++ (wsX2_update_r3 ++ wsX2_update_r4))) ++ wsX20 ++ wsX10 ++ wsX00)
def wsX2_updates_r1 : List Cond := [Cond.fieldLink RX2 31 "WideHash" "open" "Z", Cond.methodLink RX2 52 yX2_take, Cond.instanceMethod yX2_take, Cond.selects RX2 yX2_take yX2_take, Cond.initialized RX2, Cond.code yX2_take cX2_take 2 none, Cond.fieldLink RX2 34 "WideHash" "kind" "I", Cond.fieldLink RX2 19 "WideHash" "sip" "LWideHash$Sip;", Cond.fieldLink RX2 10 "WideHash" "sha" "LWideHash$Sha;", Cond.fieldLink RX2 38 "WideHash" "count" "I", Cond.methodLink RX2 75 yX1_take, Cond.instanceMethod yX1_take, Cond.selects RX1 yX1_take yX1_take, Cond.initialized RX1, Cond.code yX1_take cX1_take 2 none, Cond.fieldLink RX1 13 "WideHash$Sip" "groupHigh" "I", Cond.fieldLink RX1 17 "WideHash$Sip" "groupLow" "I", Cond.fieldLink RX1 20 "WideHash$Sip" "filled" "I", Cond.static yX2_moved, Cond.code yX2_moved cX2_moved 3 (some .int), Cond.methodLink RX1 32 yX1_mixGroup, Cond.instanceMethod yX1_mixGroup, Cond.selects RX1 yX1_mixGroup yX1_mixGroup, Cond.code yX1_mixGroup cX1_mixGroup 1 none]
def wsX2_updates_r2 : List Cond := [Cond.fieldLink RX1 7 "WideHash$Sip" "v" "[I", Cond.methodLink RX1 39 yX1_mixRound, Cond.instanceMethod yX1_mixRound, Cond.selects RX1 yX1_mixRound yX1_mixRound, Cond.code yX1_mixRound cX1_mixRound 1 none, Cond.methodLink RX1 42 yX1_mixPair, Cond.instanceMethod yX1_mixPair, Cond.selects RX1 yX1_mixPair yX1_mixPair, Cond.code yX1_mixPair cX1_mixPair 4 none, Cond.static yX2_addTo, Cond.code yX2_addTo cX2_addTo 4 none, Cond.methodLink RX2 67 yX2_carry, Cond.static yX2_carry, Cond.code yX2_carry cX2_carry 2 (some .int), Cond.methodLink RX1 46 yX1_turnLeft, Cond.instanceMethod yX1_turnLeft, Cond.selects RX1 yX1_turnLeft yX1_turnLeft, Cond.code yX1_turnLeft cX1_turnLeft 5 none, Cond.static yX2_turned, Cond.code yX2_turned cX2_turned 4 (some .int), Cond.methodLink RX2 77 yX2_moved, Cond.methodLink RX2 76 yX0_take, Cond.instanceMethod yX0_take, Cond.selects RX0 yX0_take yX0_take]
def wsX2_updates_r3 : List Cond := [Cond.initialized RX0, Cond.code yX0_take cX0_take 3 none, Cond.fieldLink RX0 19 "WideHash$Sha" "filled" "I", Cond.fieldLink RX0 16 "WideHash$Sha" "schedule" "[I", Cond.methodLink RX0 32 yX0_mixBlock, Cond.instanceMethod yX0_mixBlock, Cond.selects RX0 yX0_mixBlock yX0_mixBlock, Cond.code yX0_mixBlock cX0_mixBlock 2 none, Cond.fieldLink RX0 9 "WideHash$Sha" "total" "[I", Cond.fieldLink RX0 13 "WideHash$Sha" "letters" "[I", Cond.methodLink RX0 26 arraycopyName, Cond.native arraycopyName, Cond.static arraycopyName, Cond.initialized "java/lang/System", Cond.methodLink RX0 39 yX0_extend, Cond.instanceMethod yX0_extend, Cond.selects RX0 yX0_extend yX0_extend, Cond.code yX0_extend cX0_extend 6 none, Cond.methodLink RX0 42 yX0_mixRound, Cond.instanceMethod yX0_mixRound, Cond.selects RX0 yX0_mixRound yX0_mixRound, Cond.code yX0_mixRound cX0_mixRound 6 none, Cond.fieldLink RX0 66 "WideHash$Sha" "CUBE_ROOTS" "[I", Cond.methodLink RX0 58 yX0_turnsOfE]
def wsX2_updates_r4 : List Cond := [Cond.static yX0_turnsOfE, Cond.code yX0_turnsOfE cX0_turnsOfE 2 (some .int), Cond.methodLink RX0 62 yX0_chosen, Cond.instanceMethod yX0_chosen, Cond.selects RX0 yX0_chosen yX0_chosen, Cond.code yX0_chosen cX0_chosen 3 (some .int), Cond.methodLink RX0 69 yX0_majority, Cond.instanceMethod yX0_majority, Cond.selects RX0 yX0_majority yX0_majority, Cond.code yX0_majority cX0_majority 5 (some .int), Cond.methodLink RX0 72 yX0_turnsOfA, Cond.static yX0_turnsOfA, Cond.code yX0_turnsOfA cX0_turnsOfA 2 (some .int)]
def wsX2_updates : List Cond := .code yX2_updates cX2_updates 5 (some .boolean) :: ((wsX2_updates_r1 ++ (wsX2_updates_r2 ++ (wsX2_updates_r3 ++ wsX2_updates_r4))) ++ wsX20 ++ wsX10 ++ wsX00)
def wsX2_close_r1 : List Cond := [Cond.fieldLink RX2 31 "WideHash" "open" "Z", Cond.fieldLink RX2 34 "WideHash" "kind" "I", Cond.fieldLink RX2 19 "WideHash" "sip" "LWideHash$Sip;", Cond.fieldLink RX2 38 "WideHash" "count" "I", Cond.fieldLink RX2 10 "WideHash" "sha" "LWideHash$Sha;", Cond.methodLink RX2 55 yX1_end, Cond.instanceMethod yX1_end, Cond.selects RX1 yX1_end yX1_end, Cond.initialized RX1, Cond.code yX1_end cX1_end 4 none, Cond.fieldLink RX1 7 "WideHash$Sip" "v" "[I", Cond.methodLink RX1 35 yX1_take, Cond.instanceMethod yX1_take, Cond.selects RX1 yX1_take yX1_take, Cond.code yX1_take cX1_take 2 none, Cond.fieldLink RX1 13 "WideHash$Sip" "groupHigh" "I", Cond.fieldLink RX1 17 "WideHash$Sip" "groupLow" "I", Cond.fieldLink RX1 20 "WideHash$Sip" "filled" "I", Cond.static yX2_moved, Cond.initialized RX2, Cond.code yX2_moved cX2_moved 3 (some .int), Cond.methodLink RX1 32 yX1_mixGroup, Cond.instanceMethod yX1_mixGroup, Cond.selects RX1 yX1_mixGroup yX1_mixGroup]
def wsX2_close_r2 : List Cond := [Cond.code yX1_mixGroup cX1_mixGroup 1 none, Cond.methodLink RX1 39 yX1_mixRound, Cond.instanceMethod yX1_mixRound, Cond.selects RX1 yX1_mixRound yX1_mixRound, Cond.code yX1_mixRound cX1_mixRound 1 none, Cond.methodLink RX1 42 yX1_mixPair, Cond.instanceMethod yX1_mixPair, Cond.selects RX1 yX1_mixPair yX1_mixPair, Cond.code yX1_mixPair cX1_mixPair 4 none, Cond.static yX2_addTo, Cond.code yX2_addTo cX2_addTo 4 none, Cond.methodLink RX2 67 yX2_carry, Cond.static yX2_carry, Cond.code yX2_carry cX2_carry 2 (some .int), Cond.methodLink RX1 46 yX1_turnLeft, Cond.instanceMethod yX1_turnLeft, Cond.selects RX1 yX1_turnLeft yX1_turnLeft, Cond.code yX1_turnLeft cX1_turnLeft 5 none, Cond.static yX2_turned, Cond.code yX2_turned cX2_turned 4 (some .int), Cond.methodLink RX2 77 yX2_moved, Cond.methodLink RX2 58 yX0_end, Cond.instanceMethod yX0_end, Cond.selects RX0 yX0_end yX0_end]
def wsX2_close_r3 : List Cond := [Cond.initialized RX0, Cond.code yX0_end cX0_end 4 none, Cond.fieldLink RX0 16 "WideHash$Sha" "schedule" "[I", Cond.methodLink RX0 35 yX0_take, Cond.instanceMethod yX0_take, Cond.selects RX0 yX0_take yX0_take, Cond.code yX0_take cX0_take 3 none, Cond.fieldLink RX0 19 "WideHash$Sha" "filled" "I", Cond.methodLink RX0 32 yX0_mixBlock, Cond.instanceMethod yX0_mixBlock, Cond.selects RX0 yX0_mixBlock yX0_mixBlock, Cond.code yX0_mixBlock cX0_mixBlock 2 none, Cond.fieldLink RX0 9 "WideHash$Sha" "total" "[I", Cond.fieldLink RX0 13 "WideHash$Sha" "letters" "[I", Cond.methodLink RX0 26 arraycopyName, Cond.native arraycopyName, Cond.static arraycopyName, Cond.initialized "java/lang/System", Cond.methodLink RX0 39 yX0_extend, Cond.instanceMethod yX0_extend, Cond.selects RX0 yX0_extend yX0_extend, Cond.code yX0_extend cX0_extend 6 none, Cond.methodLink RX0 42 yX0_mixRound, Cond.instanceMethod yX0_mixRound]
def wsX2_close_r4 : List Cond := [Cond.selects RX0 yX0_mixRound yX0_mixRound, Cond.code yX0_mixRound cX0_mixRound 6 none, Cond.fieldLink RX0 66 "WideHash$Sha" "CUBE_ROOTS" "[I", Cond.methodLink RX0 58 yX0_turnsOfE, Cond.static yX0_turnsOfE, Cond.code yX0_turnsOfE cX0_turnsOfE 2 (some .int), Cond.methodLink RX0 62 yX0_chosen, Cond.instanceMethod yX0_chosen, Cond.selects RX0 yX0_chosen yX0_chosen, Cond.code yX0_chosen cX0_chosen 3 (some .int), Cond.methodLink RX0 69 yX0_majority, Cond.instanceMethod yX0_majority, Cond.selects RX0 yX0_majority yX0_majority, Cond.code yX0_majority cX0_majority 5 (some .int), Cond.methodLink RX0 72 yX0_turnsOfA, Cond.static yX0_turnsOfA, Cond.code yX0_turnsOfA cX0_turnsOfA 2 (some .int)]
def wsX2_close : List Cond := .code yX2_close cX2_close 1 (some .boolean) :: ((wsX2_close_r1 ++ (wsX2_close_r2 ++ (wsX2_close_r3 ++ wsX2_close_r4))) ++ wsX20 ++ wsX10 ++ wsX00)
def wsX2_wordsOf : List Cond := .code yX2_wordsOf cX2_wordsOf 1 (some .int) :: ([])
def wsX2_word : List Cond := .code yX2_word cX2_word 2 (some .int) :: ([.fieldLink RX2 31 "WideHash" "open" "Z", .fieldLink RX2 34 "WideHash" "kind" "I", .fieldLink RX2 19 "WideHash" "sip" "LWideHash$Sip;", .fieldLink RX2 10 "WideHash" "sha" "LWideHash$Sha;", .methodLink RX2 59 yX2_wordsOf, .static yX2_wordsOf, .initialized RX2, .code yX2_wordsOf cX2_wordsOf 1 (some .int), .methodLink RX2 63 yX1_wordAt, .instanceMethod yX1_wordAt, .selects RX1 yX1_wordAt yX1_wordAt, .initialized RX1, .code yX1_wordAt cX1_wordAt 2 (some .int), .fieldLink RX1 7 "WideHash$Sip" "v" "[I", .methodLink RX2 66 yX0_wordAt, .instanceMethod yX0_wordAt, .selects RX0 yX0_wordAt yX0_wordAt, .initialized RX0, .code yX0_wordAt cX0_wordAt 2 (some .int), .fieldLink RX0 9 "WideHash$Sha" "total" "[I"] ++ wsX20 ++ wsX10 ++ wsX00)
def wsX2_length : List Cond := .code yX2_length cX2_length 1 (some .int) :: ([.fieldLink RX2 38 "WideHash" "count" "I"] ++ wsX20)
def wsX2_state : List Cond := .code yX2_state cX2_state 1 (some .int) :: ([.fieldLink RX2 34 "WideHash" "kind" "I", .fieldLink RX2 31 "WideHash" "open" "Z"] ++ wsX20)
def wsX2_add64Lo : List Cond := .code yX2_add64Lo cX2_add64Lo 5 (some .int) :: ([])
def wsX2_add64Hi : List Cond := .code yX2_add64Hi cX2_add64Hi 5 (some .int) :: ([.methodLink RX2 67 yX2_carry, .static yX2_carry, .initialized RX2, .code yX2_carry cX2_carry 2 (some .int)])
def wsX2_rotr64Hi : List Cond := .code yX2_rotr64Hi cX2_rotr64Hi 4 (some .int) :: ([.methodLink RX2 71 yX2_turned, .static yX2_turned, .initialized RX2, .code yX2_turned cX2_turned 4 (some .int), .methodLink RX2 77 yX2_moved, .static yX2_moved, .code yX2_moved cX2_moved 3 (some .int)])
def wsX2_rotr64Lo : List Cond := .code yX2_rotr64Lo cX2_rotr64Lo 4 (some .int) :: ([.methodLink RX2 71 yX2_turned, .static yX2_turned, .initialized RX2, .code yX2_turned cX2_turned 4 (some .int), .methodLink RX2 77 yX2_moved, .static yX2_moved, .code yX2_moved cX2_moved 3 (some .int)])
def wsX3_isPrime : List Cond := .code yX3_isPrime cX3_isPrime 2 (some .boolean) :: ([])
def wsX3_multiply : List Cond := .code yX3_multiply cX3_multiply 11 none :: ([.constantLong RX3 49 (65535)])
def wsX3_isBelow : List Cond := .code yX3_isBelow cX3_isBelow 3 (some .boolean) :: ([.fieldLink RX3 32 "WideHashModel" "root" "[J", .fieldLink RX3 35 "WideHashModel" "square" "[J", .fieldLink RX3 38 "WideHashModel" "cube" "[J", .methodLink RX3 51 yX3_multiply, .static yX3_multiply, .initialized RX3, .code yX3_multiply cX3_multiply 11 none, .constantLong RX3 49 (65535)] ++ wsX30)
def wsX3_rootOf : List Cond := .code yX3_rootOf cX3_rootOf 4 (some .long) :: ([.fieldLink RX3 32 "WideHashModel" "root" "[J", .methodLink RX3 55 yX3_isBelow, .instanceMethod yX3_isBelow, .selects RX3 yX3_isBelow yX3_isBelow, .initialized RX3, .code yX3_isBelow cX3_isBelow 3 (some .boolean), .fieldLink RX3 35 "WideHashModel" "square" "[J", .fieldLink RX3 38 "WideHashModel" "cube" "[J", .methodLink RX3 51 yX3_multiply, .static yX3_multiply, .code yX3_multiply cX3_multiply 11 none, .constantLong RX3 49 (65535)] ++ wsX30)
def wsX3_init_r1 : List Cond := [Cond.methodLink RX3 1 objectInit, Cond.instanceMethod objectInit, Cond.code objectInit ⟨#[0xb1]⟩ 1 none, Cond.arrayClass .int, Cond.fieldLink RX3 7 "WideHashModel" "halves" "[I", Cond.fieldLink RX3 13 "WideHashModel" "rest" "[I", Cond.arrayClass .long, Cond.fieldLink RX3 16 "WideHashModel" "state" "[J", Cond.fieldLink RX3 20 "WideHashModel" "cubes" "[J", Cond.fieldLink RX3 23 "WideHashModel" "squares" "[J", Cond.fieldLink RX3 26 "WideHashModel" "w" "[J", Cond.fieldLink RX3 29 "WideHashModel" "\x72" "[J", Cond.fieldLink RX3 32 "WideHashModel" "root" "[J", Cond.fieldLink RX3 35 "WideHashModel" "square" "[J", Cond.fieldLink RX3 38 "WideHashModel" "cube" "[J", Cond.methodLink RX3 41 yX3_isPrime, Cond.static yX3_isPrime, Cond.initialized RX3, Cond.code yX3_isPrime cX3_isPrime 2 (some .boolean), Cond.methodLink RX3 45 yX3_rootOf, Cond.instanceMethod yX3_rootOf, Cond.selects RX3 yX3_rootOf yX3_rootOf, Cond.code yX3_rootOf cX3_rootOf 4 (some .long), Cond.methodLink RX3 55 yX3_isBelow]
def wsX3_init_r2 : List Cond := [Cond.instanceMethod yX3_isBelow, Cond.selects RX3 yX3_isBelow yX3_isBelow, Cond.code yX3_isBelow cX3_isBelow 3 (some .boolean), Cond.methodLink RX3 51 yX3_multiply, Cond.static yX3_multiply, Cond.code yX3_multiply cX3_multiply 11 none, Cond.constantLong RX3 49 (65535)]
def wsX3_init : List Cond := .code yX3_init cX3_init 3 none :: ((wsX3_init_r1 ++ wsX3_init_r2) ++ wsX30)
def wsX3_of : List Cond := .code yX3_of cX3_of 2 (some .long) :: ([.constantLong RX3 59 (4294967295)])
def wsX3_right : List Cond := .code yX3_right cX3_right 4 (some .long) :: ([])
def wsX3_left : List Cond := .code yX3_left cX3_left 3 (some .long) :: ([.methodLink RX3 61 yX3_right, .static yX3_right, .initialized RX3, .code yX3_right cX3_right 4 (some .long)])
def wsX3_add64Lo : List Cond := .code yX3_add64Lo cX3_add64Lo 5 (some .int) :: ([.methodLink RX3 65 yX3_of, .static yX3_of, .initialized RX3, .code yX3_of cX3_of 2 (some .long), .constantLong RX3 59 (4294967295)])
def wsX3_add64Hi : List Cond := .code yX3_add64Hi cX3_add64Hi 5 (some .int) :: ([.methodLink RX3 65 yX3_of, .static yX3_of, .initialized RX3, .code yX3_of cX3_of 2 (some .long), .constantLong RX3 59 (4294967295)])
def wsX3_rotr64Hi : List Cond := .code yX3_rotr64Hi cX3_rotr64Hi 4 (some .int) :: ([.methodLink RX3 65 yX3_of, .static yX3_of, .initialized RX3, .code yX3_of cX3_of 2 (some .long), .constantLong RX3 59 (4294967295), .methodLink RX3 61 yX3_right, .static yX3_right, .code yX3_right cX3_right 4 (some .long)])
def wsX3_rotr64Lo : List Cond := .code yX3_rotr64Lo cX3_rotr64Lo 4 (some .int) :: ([.methodLink RX3 65 yX3_of, .static yX3_of, .initialized RX3, .code yX3_of cX3_of 2 (some .long), .constantLong RX3 59 (4294967295), .methodLink RX3 61 yX3_right, .static yX3_right, .code yX3_right cX3_right 4 (some .long)])
def wsX3_shaBlock : List Cond := .code yX3_shaBlock cX3_shaBlock 17 none :: ([.fieldLink RX3 13 "WideHashModel" "rest" "[I", .fieldLink RX3 26 "WideHashModel" "w" "[J", .fieldLink RX3 29 "WideHashModel" "\x72" "[J", .fieldLink RX3 16 "WideHashModel" "state" "[J", .constantLong RX3 69 (-1), .fieldLink RX3 20 "WideHashModel" "cubes" "[J", .methodLink RX3 61 yX3_right, .static yX3_right, .initialized RX3, .code yX3_right cX3_right 4 (some .long)] ++ wsX30)
def wsX3_sipRounds : List Cond := .code yX3_sipRounds cX3_sipRounds 3 none :: ([.fieldLink RX3 16 "WideHashModel" "state" "[J", .methodLink RX3 71 yX3_left, .static yX3_left, .initialized RX3, .code yX3_left cX3_left 3 (some .long), .methodLink RX3 61 yX3_right, .static yX3_right, .code yX3_right cX3_right 4 (some .long)] ++ wsX30)
def wsX3_sipBlock : List Cond := .code yX3_sipBlock cX3_sipBlock 4 none :: ([.fieldLink RX3 13 "WideHashModel" "rest" "[I", .fieldLink RX3 16 "WideHashModel" "state" "[J", .methodLink RX3 74 yX3_sipRounds, .instanceMethod yX3_sipRounds, .selects RX3 yX3_sipRounds yX3_sipRounds, .initialized RX3, .code yX3_sipRounds cX3_sipRounds 3 none, .methodLink RX3 71 yX3_left, .static yX3_left, .code yX3_left cX3_left 3 (some .long), .methodLink RX3 61 yX3_right, .static yX3_right, .code yX3_right cX3_right 4 (some .long)] ++ wsX30)
def wsX3_init_ : List Cond := .code yX3_init_ cX3_init_ 1 none :: ([.fieldLink RX3 78 "WideHashModel" "ready" "Z"] ++ wsX30)
def wsX3_begin : List Cond := .code yX3_begin cX3_begin 2 none :: ([.fieldLink RX3 82 "WideHashModel" "mode" "I", .fieldLink RX3 86 "WideHashModel" "closed" "Z", .fieldLink RX3 89 "WideHashModel" "length" "I", .fieldLink RX3 92 "WideHashModel" "held" "I"] ++ wsX30)
def wsX3_beginSha : List Cond := .code yX3_beginSha cX3_beginSha 4 (some .boolean) :: ([.fieldLink RX3 78 "WideHashModel" "ready" "Z", .fieldLink RX3 16 "WideHashModel" "state" "[J", .fieldLink RX3 23 "WideHashModel" "squares" "[J", .methodLink RX3 95 yX3_begin, .instanceMethod yX3_begin, .selects RX3 yX3_begin yX3_begin, .initialized RX3, .code yX3_begin cX3_begin 2 none, .fieldLink RX3 82 "WideHashModel" "mode" "I", .fieldLink RX3 86 "WideHashModel" "closed" "Z", .fieldLink RX3 89 "WideHashModel" "length" "I", .fieldLink RX3 92 "WideHashModel" "held" "I"] ++ wsX30)
def wsX3_sipKey : List Cond := .code yX3_sipKey cX3_sipKey 3 (some .boolean) :: ([.fieldLink RX3 7 "WideHashModel" "halves" "[I"] ++ wsX30)
def wsX3_beginSip : List Cond := .code yX3_beginSip cX3_beginSip 1 (some .boolean) :: ([.fieldLink RX3 78 "WideHashModel" "ready" "Z", .fieldLink RX3 7 "WideHashModel" "halves" "[I", .fieldLink RX3 98 "WideHashModel" "p" "J", .fieldLink RX3 102 "WideHashModel" "q" "J", .fieldLink RX3 16 "WideHashModel" "state" "[J", .constantLong RX3 105 (8317987319222330741), .constantLong RX3 107 (7237128888997146477), .constantLong RX3 109 (7816392313619706465), .constantLong RX3 111 (8387220255154660723), .methodLink RX3 95 yX3_begin, .instanceMethod yX3_begin, .selects RX3 yX3_begin yX3_begin, .initialized RX3, .code yX3_begin cX3_begin 2 none, .fieldLink RX3 82 "WideHashModel" "mode" "I", .fieldLink RX3 86 "WideHashModel" "closed" "Z", .fieldLink RX3 89 "WideHashModel" "length" "I", .fieldLink RX3 92 "WideHashModel" "held" "I", .methodLink RX3 65 yX3_of, .static yX3_of, .code yX3_of cX3_of 2 (some .long), .constantLong RX3 59 (4294967295)] ++ wsX30)
def wsX3_take_r1 : List Cond := [Cond.fieldLink RX3 13 "WideHashModel" "rest" "[I", Cond.fieldLink RX3 92 "WideHashModel" "held" "I", Cond.fieldLink RX3 82 "WideHashModel" "mode" "I", Cond.methodLink RX3 113 yX3_sipBlock, Cond.instanceMethod yX3_sipBlock, Cond.selects RX3 yX3_sipBlock yX3_sipBlock, Cond.initialized RX3, Cond.code yX3_sipBlock cX3_sipBlock 4 none, Cond.fieldLink RX3 16 "WideHashModel" "state" "[J", Cond.methodLink RX3 74 yX3_sipRounds, Cond.instanceMethod yX3_sipRounds, Cond.selects RX3 yX3_sipRounds yX3_sipRounds, Cond.code yX3_sipRounds cX3_sipRounds 3 none, Cond.methodLink RX3 71 yX3_left, Cond.static yX3_left, Cond.code yX3_left cX3_left 3 (some .long), Cond.methodLink RX3 61 yX3_right, Cond.static yX3_right, Cond.code yX3_right cX3_right 4 (some .long), Cond.methodLink RX3 116 yX3_shaBlock, Cond.instanceMethod yX3_shaBlock, Cond.selects RX3 yX3_shaBlock yX3_shaBlock, Cond.code yX3_shaBlock cX3_shaBlock 17 none, Cond.fieldLink RX3 26 "WideHashModel" "w" "[J"]
def wsX3_take_r2 : List Cond := [Cond.fieldLink RX3 29 "WideHashModel" "\x72" "[J", Cond.constantLong RX3 69 (-1), Cond.fieldLink RX3 20 "WideHashModel" "cubes" "[J"]
def wsX3_take : List Cond := .code yX3_take cX3_take 2 none :: ((wsX3_take_r1 ++ wsX3_take_r2) ++ wsX30)
def wsX3_isOpen : List Cond := .code yX3_isOpen cX3_isOpen 1 (some .boolean) :: ([.fieldLink RX3 82 "WideHashModel" "mode" "I", .fieldLink RX3 86 "WideHashModel" "closed" "Z"] ++ wsX30)
def wsX3_update_r1 : List Cond := [Cond.fieldLink RX3 89 "WideHashModel" "length" "I", Cond.methodLink RX3 119 yX3_isOpen, Cond.instanceMethod yX3_isOpen, Cond.selects RX3 yX3_isOpen yX3_isOpen, Cond.initialized RX3, Cond.code yX3_isOpen cX3_isOpen 1 (some .boolean), Cond.fieldLink RX3 82 "WideHashModel" "mode" "I", Cond.fieldLink RX3 86 "WideHashModel" "closed" "Z", Cond.methodLink RX3 123 yX3_take, Cond.instanceMethod yX3_take, Cond.selects RX3 yX3_take yX3_take, Cond.code yX3_take cX3_take 2 none, Cond.fieldLink RX3 13 "WideHashModel" "rest" "[I", Cond.fieldLink RX3 92 "WideHashModel" "held" "I", Cond.methodLink RX3 113 yX3_sipBlock, Cond.instanceMethod yX3_sipBlock, Cond.selects RX3 yX3_sipBlock yX3_sipBlock, Cond.code yX3_sipBlock cX3_sipBlock 4 none, Cond.fieldLink RX3 16 "WideHashModel" "state" "[J", Cond.methodLink RX3 74 yX3_sipRounds, Cond.instanceMethod yX3_sipRounds, Cond.selects RX3 yX3_sipRounds yX3_sipRounds, Cond.code yX3_sipRounds cX3_sipRounds 3 none, Cond.methodLink RX3 71 yX3_left]
def wsX3_update_r2 : List Cond := [Cond.static yX3_left, Cond.code yX3_left cX3_left 3 (some .long), Cond.methodLink RX3 61 yX3_right, Cond.static yX3_right, Cond.code yX3_right cX3_right 4 (some .long), Cond.methodLink RX3 116 yX3_shaBlock, Cond.instanceMethod yX3_shaBlock, Cond.selects RX3 yX3_shaBlock yX3_shaBlock, Cond.code yX3_shaBlock cX3_shaBlock 17 none, Cond.fieldLink RX3 26 "WideHashModel" "w" "[J", Cond.fieldLink RX3 29 "WideHashModel" "\x72" "[J", Cond.constantLong RX3 69 (-1), Cond.fieldLink RX3 20 "WideHashModel" "cubes" "[J"]
def wsX3_update : List Cond := .code yX3_update cX3_update 2 (some .boolean) :: ((wsX3_update_r1 ++ wsX3_update_r2) ++ wsX30)
def wsX3_updates_r1 : List Cond := [Cond.fieldLink RX3 89 "WideHashModel" "length" "I", Cond.methodLink RX3 119 yX3_isOpen, Cond.instanceMethod yX3_isOpen, Cond.selects RX3 yX3_isOpen yX3_isOpen, Cond.initialized RX3, Cond.code yX3_isOpen cX3_isOpen 1 (some .boolean), Cond.fieldLink RX3 82 "WideHashModel" "mode" "I", Cond.fieldLink RX3 86 "WideHashModel" "closed" "Z", Cond.methodLink RX3 123 yX3_take, Cond.instanceMethod yX3_take, Cond.selects RX3 yX3_take yX3_take, Cond.code yX3_take cX3_take 2 none, Cond.fieldLink RX3 13 "WideHashModel" "rest" "[I", Cond.fieldLink RX3 92 "WideHashModel" "held" "I", Cond.methodLink RX3 113 yX3_sipBlock, Cond.instanceMethod yX3_sipBlock, Cond.selects RX3 yX3_sipBlock yX3_sipBlock, Cond.code yX3_sipBlock cX3_sipBlock 4 none, Cond.fieldLink RX3 16 "WideHashModel" "state" "[J", Cond.methodLink RX3 74 yX3_sipRounds, Cond.instanceMethod yX3_sipRounds, Cond.selects RX3 yX3_sipRounds yX3_sipRounds, Cond.code yX3_sipRounds cX3_sipRounds 3 none, Cond.methodLink RX3 71 yX3_left]
def wsX3_updates_r2 : List Cond := [Cond.static yX3_left, Cond.code yX3_left cX3_left 3 (some .long), Cond.methodLink RX3 61 yX3_right, Cond.static yX3_right, Cond.code yX3_right cX3_right 4 (some .long), Cond.methodLink RX3 116 yX3_shaBlock, Cond.instanceMethod yX3_shaBlock, Cond.selects RX3 yX3_shaBlock yX3_shaBlock, Cond.code yX3_shaBlock cX3_shaBlock 17 none, Cond.fieldLink RX3 26 "WideHashModel" "w" "[J", Cond.fieldLink RX3 29 "WideHashModel" "\x72" "[J", Cond.constantLong RX3 69 (-1), Cond.fieldLink RX3 20 "WideHashModel" "cubes" "[J"]
def wsX3_updates : List Cond := .code yX3_updates cX3_updates 5 (some .boolean) :: ((wsX3_updates_r1 ++ wsX3_updates_r2) ++ wsX30)
def wsX3_close_r1 : List Cond := [Cond.fieldLink RX3 82 "WideHashModel" "mode" "I", Cond.fieldLink RX3 92 "WideHashModel" "held" "I", Cond.fieldLink RX3 89 "WideHashModel" "length" "I", Cond.fieldLink RX3 16 "WideHashModel" "state" "[J", Cond.constantLong RX3 126 (255), Cond.constantLong RX3 128 (8), Cond.fieldLink RX3 86 "WideHashModel" "closed" "Z", Cond.methodLink RX3 119 yX3_isOpen, Cond.instanceMethod yX3_isOpen, Cond.selects RX3 yX3_isOpen yX3_isOpen, Cond.initialized RX3, Cond.code yX3_isOpen cX3_isOpen 1 (some .boolean), Cond.methodLink RX3 123 yX3_take, Cond.instanceMethod yX3_take, Cond.selects RX3 yX3_take yX3_take, Cond.code yX3_take cX3_take 2 none, Cond.fieldLink RX3 13 "WideHashModel" "rest" "[I", Cond.methodLink RX3 113 yX3_sipBlock, Cond.instanceMethod yX3_sipBlock, Cond.selects RX3 yX3_sipBlock yX3_sipBlock, Cond.code yX3_sipBlock cX3_sipBlock 4 none, Cond.methodLink RX3 74 yX3_sipRounds, Cond.instanceMethod yX3_sipRounds, Cond.selects RX3 yX3_sipRounds yX3_sipRounds]
def wsX3_close_r2 : List Cond := [Cond.code yX3_sipRounds cX3_sipRounds 3 none, Cond.methodLink RX3 71 yX3_left, Cond.static yX3_left, Cond.code yX3_left cX3_left 3 (some .long), Cond.methodLink RX3 61 yX3_right, Cond.static yX3_right, Cond.code yX3_right cX3_right 4 (some .long), Cond.methodLink RX3 116 yX3_shaBlock, Cond.instanceMethod yX3_shaBlock, Cond.selects RX3 yX3_shaBlock yX3_shaBlock, Cond.code yX3_shaBlock cX3_shaBlock 17 none, Cond.fieldLink RX3 26 "WideHashModel" "w" "[J", Cond.fieldLink RX3 29 "WideHashModel" "\x72" "[J", Cond.constantLong RX3 69 (-1), Cond.fieldLink RX3 20 "WideHashModel" "cubes" "[J"]
def wsX3_close : List Cond := .code yX3_close cX3_close 2 (some .boolean) :: ((wsX3_close_r1 ++ wsX3_close_r2) ++ wsX30)
def wsX3_word : List Cond := .code yX3_word cX3_word 3 (some .int) :: ([.fieldLink RX3 82 "WideHashModel" "mode" "I", .fieldLink RX3 86 "WideHashModel" "closed" "Z", .fieldLink RX3 16 "WideHashModel" "state" "[J"] ++ wsX30)
def wsX3_length : List Cond := .code yX3_length cX3_length 1 (some .int) :: ([.fieldLink RX3 89 "WideHashModel" "length" "I"] ++ wsX30)
def wsX3_state : List Cond := .code yX3_state cX3_state 1 (some .int) :: ([.fieldLink RX3 86 "WideHashModel" "closed" "Z", .fieldLink RX3 82 "WideHashModel" "mode" "I"] ++ wsX30)
def wsL_law_r1 : List Cond := [Cond.classLink RL 7 RX2, Cond.instantiable RX2 7, Cond.initialized RX2, Cond.classLink RL 10 RX3, Cond.instantiable RX3 17, Cond.initialized RX3, Cond.methodLink RL 9 yX2_init, Cond.instanceMethod yX2_init, Cond.code yX2_init cX2_init 1 none, Cond.methodLink RX2 1 objectInit, Cond.instanceMethod objectInit, Cond.code objectInit ⟨#[0xb1]⟩ 1 none, Cond.classLink RX2 7 RX0, Cond.instantiable RX0 4, Cond.initialized RX0, Cond.fieldLink RX2 10 "WideHash" "sha" "LWideHash$Sha;", Cond.classLink RX2 16 RX1, Cond.instantiable RX1 4, Cond.initialized RX1, Cond.fieldLink RX2 19 "WideHash" "sip" "LWideHash$Sip;", Cond.arrayClass .int, Cond.fieldLink RX2 23 "WideHash" "key" "[I", Cond.fieldLink RX2 27 "WideHash" "ready" "Z", Cond.fieldLink RX2 31 "WideHash" "open" "Z"]
def wsL_law_r2 : List Cond := [Cond.fieldLink RX2 34 "WideHash" "kind" "I", Cond.fieldLink RX2 38 "WideHash" "count" "I", Cond.instanceMethod yX0_init, Cond.code yX0_init cX0_init 1 none, Cond.methodLink RX0 1 objectInit, Cond.fieldLink RX0 9 "WideHash$Sha" "total" "[I", Cond.fieldLink RX0 13 "WideHash$Sha" "letters" "[I", Cond.fieldLink RX0 16 "WideHash$Sha" "schedule" "[I", Cond.fieldLink RX0 19 "WideHash$Sha" "filled" "I", Cond.instanceMethod yX1_init, Cond.code yX1_init cX1_init 1 none, Cond.methodLink RX1 1 objectInit, Cond.fieldLink RX1 7 "WideHash$Sip" "v" "[I", Cond.fieldLink RX1 13 "WideHash$Sip" "groupHigh" "I", Cond.fieldLink RX1 17 "WideHash$Sip" "groupLow" "I", Cond.fieldLink RX1 20 "WideHash$Sip" "filled" "I", Cond.methodLink RL 12 yX3_init, Cond.instanceMethod yX3_init, Cond.code yX3_init cX3_init 3 none, Cond.methodLink RX3 1 objectInit, Cond.fieldLink RX3 7 "WideHashModel" "halves" "[I", Cond.fieldLink RX3 13 "WideHashModel" "rest" "[I", Cond.arrayClass .long, Cond.fieldLink RX3 16 "WideHashModel" "state" "[J"]
def wsL_law_r3 : List Cond := [Cond.fieldLink RX3 20 "WideHashModel" "cubes" "[J", Cond.fieldLink RX3 23 "WideHashModel" "squares" "[J", Cond.fieldLink RX3 26 "WideHashModel" "w" "[J", Cond.fieldLink RX3 29 "WideHashModel" "\x72" "[J", Cond.fieldLink RX3 32 "WideHashModel" "root" "[J", Cond.fieldLink RX3 35 "WideHashModel" "square" "[J", Cond.fieldLink RX3 38 "WideHashModel" "cube" "[J", Cond.methodLink RX3 41 yX3_isPrime, Cond.static yX3_isPrime, Cond.code yX3_isPrime cX3_isPrime 2 (some .boolean), Cond.methodLink RX3 45 yX3_rootOf, Cond.instanceMethod yX3_rootOf, Cond.selects RX3 yX3_rootOf yX3_rootOf, Cond.code yX3_rootOf cX3_rootOf 4 (some .long), Cond.methodLink RX3 55 yX3_isBelow, Cond.instanceMethod yX3_isBelow, Cond.selects RX3 yX3_isBelow yX3_isBelow, Cond.code yX3_isBelow cX3_isBelow 3 (some .boolean), Cond.methodLink RX3 51 yX3_multiply, Cond.static yX3_multiply, Cond.code yX3_multiply cX3_multiply 11 none, Cond.constantLong RX3 49 (65535), Cond.methodLink RL 13 yX2_init_, Cond.instanceMethod yX2_init_]
def wsL_law_r4 : List Cond := [Cond.selects RX2 yX2_init_ yX2_init_, Cond.code yX2_init_ cX2_init_ 1 none, Cond.methodLink RL 16 yX3_init_, Cond.instanceMethod yX3_init_, Cond.selects RX3 yX3_init_ yX3_init_, Cond.code yX3_init_ cX3_init_ 1 none, Cond.fieldLink RX3 78 "WideHashModel" "ready" "Z", Cond.methodLink RL 17 yX2_beginSha, Cond.instanceMethod yX2_beginSha, Cond.selects RX2 yX2_beginSha yX2_beginSha, Cond.code yX2_beginSha cX2_beginSha 2 (some .boolean), Cond.methodLink RX2 41 yX0_begin, Cond.instanceMethod yX0_begin, Cond.selects RX0 yX0_begin yX0_begin, Cond.code yX0_begin cX0_begin 2 none, Cond.fieldLink RX0 23 "WideHash$Sha" "SQUARE_ROOTS" "[I", Cond.methodLink RX0 26 arraycopyName, Cond.native arraycopyName, Cond.static arraycopyName, Cond.initialized "java/lang/System", Cond.methodLink RX2 45 yX2_openAs, Cond.instanceMethod yX2_openAs, Cond.selects RX2 yX2_openAs yX2_openAs, Cond.code yX2_openAs cX2_openAs 2 none]
def wsL_law_r5 : List Cond := [Cond.methodLink RL 21 yX3_beginSha, Cond.instanceMethod yX3_beginSha, Cond.selects RX3 yX3_beginSha yX3_beginSha, Cond.code yX3_beginSha cX3_beginSha 4 (some .boolean), Cond.methodLink RX3 95 yX3_begin, Cond.instanceMethod yX3_begin, Cond.selects RX3 yX3_begin yX3_begin, Cond.code yX3_begin cX3_begin 2 none, Cond.fieldLink RX3 82 "WideHashModel" "mode" "I", Cond.fieldLink RX3 86 "WideHashModel" "closed" "Z", Cond.fieldLink RX3 89 "WideHashModel" "length" "I", Cond.fieldLink RX3 92 "WideHashModel" "held" "I", Cond.methodLink RL 22 yX2_sipKey, Cond.instanceMethod yX2_sipKey, Cond.selects RX2 yX2_sipKey yX2_sipKey, Cond.code yX2_sipKey cX2_sipKey 3 (some .boolean), Cond.methodLink RL 26 yX3_sipKey, Cond.instanceMethod yX3_sipKey, Cond.selects RX3 yX3_sipKey yX3_sipKey, Cond.code yX3_sipKey cX3_sipKey 3 (some .boolean), Cond.methodLink RL 27 yX2_beginSip, Cond.instanceMethod yX2_beginSip, Cond.selects RX2 yX2_beginSip yX2_beginSip, Cond.code yX2_beginSip cX2_beginSip 1 (some .boolean)]
def wsL_law_r6 : List Cond := [Cond.methodLink RX2 49 yX1_begin, Cond.instanceMethod yX1_begin, Cond.selects RX1 yX1_begin yX1_begin, Cond.code yX1_begin cX1_begin 4 none, Cond.fieldLink RX1 23 "WideHash$Sip" "FIRST" "[I", Cond.methodLink RL 31 yX3_beginSip, Cond.instanceMethod yX3_beginSip, Cond.selects RX3 yX3_beginSip yX3_beginSip, Cond.code yX3_beginSip cX3_beginSip 1 (some .boolean), Cond.fieldLink RX3 98 "WideHashModel" "p" "J", Cond.fieldLink RX3 102 "WideHashModel" "q" "J", Cond.constantLong RX3 105 (8317987319222330741), Cond.constantLong RX3 107 (7237128888997146477), Cond.constantLong RX3 109 (7816392313619706465), Cond.constantLong RX3 111 (8387220255154660723), Cond.methodLink RX3 65 yX3_of, Cond.static yX3_of, Cond.code yX3_of cX3_of 2 (some .long), Cond.constantLong RX3 59 (4294967295), Cond.methodLink RL 32 yX2_update, Cond.instanceMethod yX2_update, Cond.selects RX2 yX2_update yX2_update, Cond.code yX2_update cX2_update 2 (some .boolean), Cond.methodLink RX2 52 yX2_take]
def wsL_law_r7 : List Cond := [Cond.instanceMethod yX2_take, Cond.selects RX2 yX2_take yX2_take, Cond.code yX2_take cX2_take 2 none, Cond.methodLink RX2 75 yX1_take, Cond.instanceMethod yX1_take, Cond.selects RX1 yX1_take yX1_take, Cond.code yX1_take cX1_take 2 none, Cond.static yX2_moved, Cond.code yX2_moved cX2_moved 3 (some .int), Cond.methodLink RX1 32 yX1_mixGroup, Cond.instanceMethod yX1_mixGroup, Cond.selects RX1 yX1_mixGroup yX1_mixGroup, Cond.code yX1_mixGroup cX1_mixGroup 1 none, Cond.methodLink RX1 39 yX1_mixRound, Cond.instanceMethod yX1_mixRound, Cond.selects RX1 yX1_mixRound yX1_mixRound, Cond.code yX1_mixRound cX1_mixRound 1 none, Cond.methodLink RX1 42 yX1_mixPair, Cond.instanceMethod yX1_mixPair, Cond.selects RX1 yX1_mixPair yX1_mixPair, Cond.code yX1_mixPair cX1_mixPair 4 none, Cond.static yX2_addTo, Cond.code yX2_addTo cX2_addTo 4 none, Cond.methodLink RX2 67 yX2_carry]
def wsL_law_r8 : List Cond := [Cond.static yX2_carry, Cond.code yX2_carry cX2_carry 2 (some .int), Cond.methodLink RX1 46 yX1_turnLeft, Cond.instanceMethod yX1_turnLeft, Cond.selects RX1 yX1_turnLeft yX1_turnLeft, Cond.code yX1_turnLeft cX1_turnLeft 5 none, Cond.static yX2_turned, Cond.code yX2_turned cX2_turned 4 (some .int), Cond.methodLink RX2 77 yX2_moved, Cond.methodLink RX2 76 yX0_take, Cond.instanceMethod yX0_take, Cond.selects RX0 yX0_take yX0_take, Cond.code yX0_take cX0_take 3 none, Cond.methodLink RX0 32 yX0_mixBlock, Cond.instanceMethod yX0_mixBlock, Cond.selects RX0 yX0_mixBlock yX0_mixBlock, Cond.code yX0_mixBlock cX0_mixBlock 2 none, Cond.methodLink RX0 39 yX0_extend, Cond.instanceMethod yX0_extend, Cond.selects RX0 yX0_extend yX0_extend, Cond.code yX0_extend cX0_extend 6 none, Cond.methodLink RX0 42 yX0_mixRound, Cond.instanceMethod yX0_mixRound, Cond.selects RX0 yX0_mixRound yX0_mixRound]
def wsL_law_r9 : List Cond := [Cond.code yX0_mixRound cX0_mixRound 6 none, Cond.fieldLink RX0 66 "WideHash$Sha" "CUBE_ROOTS" "[I", Cond.methodLink RX0 58 yX0_turnsOfE, Cond.static yX0_turnsOfE, Cond.code yX0_turnsOfE cX0_turnsOfE 2 (some .int), Cond.methodLink RX0 62 yX0_chosen, Cond.instanceMethod yX0_chosen, Cond.selects RX0 yX0_chosen yX0_chosen, Cond.code yX0_chosen cX0_chosen 3 (some .int), Cond.methodLink RX0 69 yX0_majority, Cond.instanceMethod yX0_majority, Cond.selects RX0 yX0_majority yX0_majority, Cond.code yX0_majority cX0_majority 5 (some .int), Cond.methodLink RX0 72 yX0_turnsOfA, Cond.static yX0_turnsOfA, Cond.code yX0_turnsOfA cX0_turnsOfA 2 (some .int), Cond.methodLink RL 35 yX3_update, Cond.instanceMethod yX3_update, Cond.selects RX3 yX3_update yX3_update, Cond.code yX3_update cX3_update 2 (some .boolean), Cond.methodLink RX3 119 yX3_isOpen, Cond.instanceMethod yX3_isOpen, Cond.selects RX3 yX3_isOpen yX3_isOpen, Cond.code yX3_isOpen cX3_isOpen 1 (some .boolean)]
def wsL_law_r10 : List Cond := [Cond.methodLink RX3 123 yX3_take, Cond.instanceMethod yX3_take, Cond.selects RX3 yX3_take yX3_take, Cond.code yX3_take cX3_take 2 none, Cond.methodLink RX3 113 yX3_sipBlock, Cond.instanceMethod yX3_sipBlock, Cond.selects RX3 yX3_sipBlock yX3_sipBlock, Cond.code yX3_sipBlock cX3_sipBlock 4 none, Cond.methodLink RX3 74 yX3_sipRounds, Cond.instanceMethod yX3_sipRounds, Cond.selects RX3 yX3_sipRounds yX3_sipRounds, Cond.code yX3_sipRounds cX3_sipRounds 3 none, Cond.methodLink RX3 71 yX3_left, Cond.static yX3_left, Cond.code yX3_left cX3_left 3 (some .long), Cond.methodLink RX3 61 yX3_right, Cond.static yX3_right, Cond.code yX3_right cX3_right 4 (some .long), Cond.methodLink RX3 116 yX3_shaBlock, Cond.instanceMethod yX3_shaBlock, Cond.selects RX3 yX3_shaBlock yX3_shaBlock, Cond.code yX3_shaBlock cX3_shaBlock 17 none, Cond.constantLong RX3 69 (-1), Cond.methodLink RL 36 yX2_updates]
def wsL_law_r11 : List Cond := [Cond.instanceMethod yX2_updates, Cond.selects RX2 yX2_updates yX2_updates, Cond.code yX2_updates cX2_updates 5 (some .boolean), Cond.methodLink RL 40 yX3_updates, Cond.instanceMethod yX3_updates, Cond.selects RX3 yX3_updates yX3_updates, Cond.code yX3_updates cX3_updates 5 (some .boolean), Cond.methodLink RL 41 yX2_close, Cond.instanceMethod yX2_close, Cond.selects RX2 yX2_close yX2_close, Cond.code yX2_close cX2_close 1 (some .boolean), Cond.methodLink RX2 55 yX1_end, Cond.instanceMethod yX1_end, Cond.selects RX1 yX1_end yX1_end, Cond.code yX1_end cX1_end 4 none, Cond.methodLink RX1 35 yX1_take, Cond.methodLink RX2 58 yX0_end, Cond.instanceMethod yX0_end, Cond.selects RX0 yX0_end yX0_end, Cond.code yX0_end cX0_end 4 none, Cond.methodLink RX0 35 yX0_take, Cond.methodLink RL 44 yX3_close, Cond.instanceMethod yX3_close, Cond.selects RX3 yX3_close yX3_close]
def wsL_law_r12 : List Cond := [Cond.code yX3_close cX3_close 2 (some .boolean), Cond.constantLong RX3 126 (255), Cond.constantLong RX3 128 (8), Cond.methodLink RL 45 yX2_word, Cond.instanceMethod yX2_word, Cond.selects RX2 yX2_word yX2_word, Cond.code yX2_word cX2_word 2 (some .int), Cond.methodLink RX2 59 yX2_wordsOf, Cond.static yX2_wordsOf, Cond.code yX2_wordsOf cX2_wordsOf 1 (some .int), Cond.methodLink RX2 63 yX1_wordAt, Cond.instanceMethod yX1_wordAt, Cond.selects RX1 yX1_wordAt yX1_wordAt, Cond.code yX1_wordAt cX1_wordAt 2 (some .int), Cond.methodLink RX2 66 yX0_wordAt, Cond.instanceMethod yX0_wordAt, Cond.selects RX0 yX0_wordAt yX0_wordAt, Cond.code yX0_wordAt cX0_wordAt 2 (some .int), Cond.methodLink RL 49 yX3_word, Cond.instanceMethod yX3_word, Cond.selects RX3 yX3_word yX3_word, Cond.code yX3_word cX3_word 3 (some .int), Cond.methodLink RL 50 yX2_length, Cond.instanceMethod yX2_length]
def wsL_law_r13 : List Cond := [Cond.selects RX2 yX2_length yX2_length, Cond.code yX2_length cX2_length 1 (some .int), Cond.methodLink RL 54 yX3_length, Cond.instanceMethod yX3_length, Cond.selects RX3 yX3_length yX3_length, Cond.code yX3_length cX3_length 1 (some .int), Cond.methodLink RL 55 yX2_state, Cond.instanceMethod yX2_state, Cond.selects RX2 yX2_state yX2_state, Cond.code yX2_state cX2_state 1 (some .int), Cond.methodLink RL 58 yX3_state, Cond.instanceMethod yX3_state, Cond.selects RX3 yX3_state yX3_state, Cond.code yX3_state cX3_state 1 (some .int), Cond.methodLink RL 59 yX2_add64Lo, Cond.instanceMethod yX2_add64Lo, Cond.selects RX2 yX2_add64Lo yX2_add64Lo, Cond.code yX2_add64Lo cX2_add64Lo 5 (some .int), Cond.methodLink RL 63 yX3_add64Lo, Cond.instanceMethod yX3_add64Lo, Cond.selects RX3 yX3_add64Lo yX3_add64Lo, Cond.code yX3_add64Lo cX3_add64Lo 5 (some .int), Cond.methodLink RL 64 yX2_add64Hi, Cond.instanceMethod yX2_add64Hi]
def wsL_law_r14 : List Cond := [Cond.selects RX2 yX2_add64Hi yX2_add64Hi, Cond.code yX2_add64Hi cX2_add64Hi 5 (some .int), Cond.methodLink RL 67 yX3_add64Hi, Cond.instanceMethod yX3_add64Hi, Cond.selects RX3 yX3_add64Hi yX3_add64Hi, Cond.code yX3_add64Hi cX3_add64Hi 5 (some .int), Cond.methodLink RL 68 yX2_rotr64Hi, Cond.instanceMethod yX2_rotr64Hi, Cond.selects RX2 yX2_rotr64Hi yX2_rotr64Hi, Cond.code yX2_rotr64Hi cX2_rotr64Hi 4 (some .int), Cond.methodLink RX2 71 yX2_turned, Cond.methodLink RL 72 yX3_rotr64Hi, Cond.instanceMethod yX3_rotr64Hi, Cond.selects RX3 yX3_rotr64Hi yX3_rotr64Hi, Cond.code yX3_rotr64Hi cX3_rotr64Hi 4 (some .int), Cond.methodLink RL 73 yX2_rotr64Lo, Cond.instanceMethod yX2_rotr64Lo, Cond.selects RX2 yX2_rotr64Lo yX2_rotr64Lo, Cond.code yX2_rotr64Lo cX2_rotr64Lo 4 (some .int), Cond.methodLink RL 76 yX3_rotr64Lo, Cond.instanceMethod yX3_rotr64Lo, Cond.selects RX3 yX3_rotr64Lo yX3_rotr64Lo, Cond.code yX3_rotr64Lo cX3_rotr64Lo 4 (some .int)]
def wsL_law : List Cond := (wsL_law_r1 ++ (wsL_law_r2 ++ (wsL_law_r3 ++ (wsL_law_r4 ++ (wsL_law_r5 ++ (wsL_law_r6 ++ (wsL_law_r7 ++ (wsL_law_r8 ++ (wsL_law_r9 ++ (wsL_law_r10 ++ (wsL_law_r11 ++ (wsL_law_r12 ++ (wsL_law_r13 ++ wsL_law_r14))))))))))))) ++ wsX20 ++ wsX30 ++ wsX00 ++ wsX10 ++ ([] : List Cond)
end
section
set_option maxRecDepth 20000 in
theorem wsL_in1 : GoodIn lw_tbl wsL_law_r1 := goodIn_p wsL_law_r1 [29, 32] rfl (by decide +kernel)
set_option maxRecDepth 20000 in
theorem wsL_in2 : GoodIn lw_tbl wsL_law_r2 := goodIn_p wsL_law_r2 [37, 57, 267] rfl (by decide +kernel)
set_option maxRecDepth 20000 in
theorem wsL_in3 : GoodIn lw_tbl wsL_law_r3 := goodIn_p wsL_law_r3 [271, 275, 279, 282] rfl (by decide +kernel)
set_option maxRecDepth 20000 in
theorem wsL_in4 : GoodIn lw_tbl wsL_law_r4 := goodIn_p wsL_law_r4 [97, 363, 101, 105, 114] rfl (by decide +kernel)
set_option maxRecDepth 20000 in
theorem wsL_in5 : GoodIn lw_tbl wsL_law_r5 := goodIn_p wsL_law_r5 [367, 371, 118, 375, 122] rfl (by decide +kernel)
set_option maxRecDepth 20000 in
theorem wsL_in6 : GoodIn lw_tbl wsL_law_r6 := goodIn_p wsL_law_r6 [126, 379, 343, 132] rfl (by decide +kernel)
set_option maxRecDepth 20000 in
theorem wsL_in7 : GoodIn lw_tbl wsL_law_r7 := goodIn_p wsL_law_r7 [136, 140, 143, 147, 151, 155, 158] rfl (by decide +kernel)
set_option maxRecDepth 20000 in
theorem wsL_in8 : GoodIn lw_tbl wsL_law_r8 := goodIn_p wsL_law_r8 [161, 165, 168, 173, 177, 181] rfl (by decide +kernel)
set_option maxRecDepth 20000 in
theorem wsL_in9 : GoodIn lw_tbl wsL_law_r9 := goodIn_p wsL_law_r9 [188, 191, 195, 201, 204, 387, 391] rfl (by decide +kernel)
set_option maxRecDepth 20000 in
theorem wsL_in10 : GoodIn lw_tbl wsL_law_r10 := goodIn_p wsL_law_r10 [395, 399, 403, 406, 355, 410] rfl (by decide +kernel)
set_option maxRecDepth 20000 in
theorem wsL_in11 : GoodIn lw_tbl wsL_law_r11 := goodIn_p wsL_law_r11 [208, 415, 212, 216, 221] rfl (by decide +kernel)
set_option maxRecDepth 20000 in
theorem wsL_in12 : GoodIn lw_tbl wsL_law_r12 := goodIn_p wsL_law_r12 [419, 226, 229, 233, 237, 425] rfl (by decide +kernel)
set_option maxRecDepth 20000 in
theorem wsL_in13 : GoodIn lw_tbl wsL_law_r13 := goodIn_p wsL_law_r13 [241, 429, 245, 433, 249, 340] rfl (by decide +kernel)
set_option maxRecDepth 20000 in
theorem wsL_in14 : GoodIn lw_tbl wsL_law_r14 := goodIn_p wsL_law_r14 [253, 348, 257, 352, 262, 359] rfl (by decide +kernel)
theorem wsL_inX2 : GoodIn lw_tbl wsX20 := goodIn_of _ (by decide +kernel)
theorem wsL_inX3 : GoodIn lw_tbl wsX30 := goodIn_of _ (by decide +kernel)
theorem wsL_inX0 : GoodIn lw_tbl wsX00 := goodIn_of _ (by decide +kernel)
theorem wsL_inX1 : GoodIn lw_tbl wsX10 := goodIn_of _ (by decide +kernel)
theorem wsL_law_in : ∀ w ∈ wsL_law, w ∈ lw_tbl := fun w h => ((goodIn_app (goodIn_app (goodIn_app (goodIn_app (goodIn_app (goodIn_app wsL_in1 (goodIn_app wsL_in2 (goodIn_app wsL_in3 (goodIn_app wsL_in4 (goodIn_app wsL_in5 (goodIn_app wsL_in6 (goodIn_app wsL_in7 (goodIn_app wsL_in8 (goodIn_app wsL_in9 (goodIn_app wsL_in10 (goodIn_app wsL_in11 (goodIn_app wsL_in12 (goodIn_app wsL_in13 wsL_in14))))))))))))) wsL_inX2) wsL_inX3) wsL_inX0) wsL_inX1) (fun _ h => absurd h List.not_mem_nil) : GoodIn lw_tbl wsL_law) w h).1
theorem inlX0 : ∀ w ∈ wsX00, w ∈ wsL_law := fun _ h => List.mem_append_left _ (List.mem_append_left _ (List.mem_append_right _ h))
theorem inX0 : ∀ w ∈ wsX00, w ∈ lw_tbl := fun w h => wsL_law_in w (inlX0 w h)
theorem inlX1 : ∀ w ∈ wsX10, w ∈ wsL_law := fun _ h => List.mem_append_left _ (List.mem_append_right _ h)
theorem inX1 : ∀ w ∈ wsX10, w ∈ lw_tbl := fun w h => wsL_law_in w (inlX1 w h)
theorem inlX2 : ∀ w ∈ wsX20, w ∈ wsL_law := fun _ h => List.mem_append_left _ (List.mem_append_left _ (List.mem_append_left _ (List.mem_append_left _ (List.mem_append_right _ h))))
theorem inX2 : ∀ w ∈ wsX20, w ∈ lw_tbl := fun w h => wsL_law_in w (inlX2 w h)
theorem inlX3 : ∀ w ∈ wsX30, w ∈ wsL_law := fun _ h => List.mem_append_left _ (List.mem_append_left _ (List.mem_append_left _ (List.mem_append_right _ h)))
theorem inX3 : ∀ w ∈ wsX30, w ∈ lw_tbl := fun w h => wsL_law_in w (inlX3 w h)
theorem inJ10 : ∀ w ∈ wsJ100, w ∈ lw_tbl := by decide +kernel
end
section
theorem dX0_init_0 : decode cX0_init 0 = .ok (.aload_n 0, 1) := by decide +kernel
theorem dX0_init_1 : decode cX0_init 1 = .ok (.invokespecial 1, 3) := by decide +kernel
theorem dX0_init_4 : decode cX0_init 4 = .ok (.aload_n 0, 1) := by decide +kernel
theorem dX0_init_5 : decode cX0_init 5 = .ok (.bipush 16, 2) := by decide +kernel
theorem dX0_init_7 : decode cX0_init 7 = .ok (.newarray .int, 2) := by decide +kernel
theorem dX0_init_9 : decode cX0_init 9 = .ok (.putfield 9, 3) := by decide +kernel
theorem dX0_init_12 : decode cX0_init 12 = .ok (.aload_n 0, 1) := by decide +kernel
theorem dX0_init_13 : decode cX0_init 13 = .ok (.bipush 16, 2) := by decide +kernel
theorem dX0_init_15 : decode cX0_init 15 = .ok (.newarray .int, 2) := by decide +kernel
theorem dX0_init_17 : decode cX0_init 17 = .ok (.putfield 13, 3) := by decide +kernel
theorem dX0_init_20 : decode cX0_init 20 = .ok (.aload_n 0, 1) := by decide +kernel
theorem dX0_init_21 : decode cX0_init 21 = .ok (.sipush 160, 3) := by decide +kernel
theorem dX0_init_24 : decode cX0_init 24 = .ok (.newarray .int, 2) := by decide +kernel
theorem dX0_init_26 : decode cX0_init 26 = .ok (.putfield 16, 3) := by decide +kernel
theorem dX0_init_29 : decode cX0_init 29 = .ok (.aload_n 0, 1) := by decide +kernel
theorem dX0_init_30 : decode cX0_init 30 = .ok (.iconst 0, 1) := by decide +kernel
theorem dX0_init_31 : decode cX0_init 31 = .ok (.putfield 19, 3) := by decide +kernel
theorem dX0_init_34 : decode cX0_init 34 = .ok (.return_, 1) := by decide +kernel
theorem dX0_begin_0 : decode cX0_begin 0 = .ok (.getstatic 23, 3) := by decide +kernel
theorem dX0_begin_3 : decode cX0_begin 3 = .ok (.iload_n 1, 1) := by decide +kernel
theorem dX0_begin_4 : decode cX0_begin 4 = .ok (.ifCond .eq 8, 3) := by decide +kernel
theorem dX0_begin_7 : decode cX0_begin 7 = .ok (.bipush 16, 2) := by decide +kernel
theorem dX0_begin_9 : decode cX0_begin 9 = .ok (.goto 4, 3) := by decide +kernel
theorem dX0_begin_12 : decode cX0_begin 12 = .ok (.iconst 0, 1) := by decide +kernel
theorem dX0_begin_13 : decode cX0_begin 13 = .ok (.aload_n 0, 1) := by decide +kernel
theorem dX0_begin_14 : decode cX0_begin 14 = .ok (.getfield 9, 3) := by decide +kernel
theorem dX0_begin_17 : decode cX0_begin 17 = .ok (.iconst 0, 1) := by decide +kernel
theorem dX0_begin_18 : decode cX0_begin 18 = .ok (.bipush 16, 2) := by decide +kernel
theorem dX0_begin_20 : decode cX0_begin 20 = .ok (.invokestatic 26, 3) := by decide +kernel
theorem dX0_begin_23 : decode cX0_begin 23 = .ok (.aload_n 0, 1) := by decide +kernel
theorem dX0_begin_24 : decode cX0_begin 24 = .ok (.iconst 0, 1) := by decide +kernel
theorem dX0_begin_25 : decode cX0_begin 25 = .ok (.putfield 19, 3) := by decide +kernel
theorem dX0_begin_28 : decode cX0_begin 28 = .ok (.return_, 1) := by decide +kernel
set_option maxRecDepth 20000 in
theorem ggX0_take_X0_mixBlock : GoodIn wsX0_take wsX0_mixBlock := goodIn_r _ [7, 8, 9, 10, 11, 12, 13, 14, 15, 16, 6, 17, 2, 18, 19, 20, 21, 22, 23, 24, 25, 26, 27, 28, 29, 30, 31, 32, 33, 34, 35, 36, 37, 38, 39, 40, 41, 42, 43, 44, 45, 46, 47, 48, 49, 50, 51] (by decide +kernel) (by decide +kernel)
set_option maxRecDepth 20000 in
theorem gX0_take_X0_mixBlock : GoodIn wsX0_take (wsV RX0 32 RX0 yX0_mixBlock wsX0_mixBlock) := goodIn_app (goodIn_of _ (by decide +kernel)) ggX0_take_X0_mixBlock
theorem dX0_take_0 : decode cX0_take 0 = .ok (.aload_n 0, 1) := by decide +kernel
theorem dX0_take_1 : decode cX0_take 1 = .ok (.getfield 19, 3) := by decide +kernel
theorem dX0_take_4 : decode cX0_take 4 = .ok (.iconst 2, 1) := by decide +kernel
theorem dX0_take_5 : decode cX0_take 5 = .ok (.ishr, 1) := by decide +kernel
theorem dX0_take_6 : decode cX0_take 6 = .ok (.istore_n 2, 1) := by decide +kernel
theorem dX0_take_7 : decode cX0_take 7 = .ok (.aload_n 0, 1) := by decide +kernel
theorem dX0_take_8 : decode cX0_take 8 = .ok (.getfield 16, 3) := by decide +kernel
theorem dX0_take_11 : decode cX0_take 11 = .ok (.iload_n 2, 1) := by decide +kernel
theorem dX0_take_12 : decode cX0_take 12 = .ok (.aload_n 0, 1) := by decide +kernel
theorem dX0_take_13 : decode cX0_take 13 = .ok (.getfield 16, 3) := by decide +kernel
theorem dX0_take_16 : decode cX0_take 16 = .ok (.iload_n 2, 1) := by decide +kernel
theorem dX0_take_17 : decode cX0_take 17 = .ok (.iaload, 1) := by decide +kernel
theorem dX0_take_18 : decode cX0_take 18 = .ok (.bipush 8, 2) := by decide +kernel
theorem dX0_take_20 : decode cX0_take 20 = .ok (.ishl, 1) := by decide +kernel
theorem dX0_take_21 : decode cX0_take 21 = .ok (.iload_n 1, 1) := by decide +kernel
theorem dX0_take_22 : decode cX0_take 22 = .ok (.ior, 1) := by decide +kernel
theorem dX0_take_23 : decode cX0_take 23 = .ok (.iastore, 1) := by decide +kernel
theorem dX0_take_24 : decode cX0_take 24 = .ok (.aload_n 0, 1) := by decide +kernel
theorem dX0_take_25 : decode cX0_take 25 = .ok (.dup, 1) := by decide +kernel
theorem dX0_take_26 : decode cX0_take 26 = .ok (.getfield 19, 3) := by decide +kernel
theorem dX0_take_29 : decode cX0_take 29 = .ok (.iconst 1, 1) := by decide +kernel
theorem dX0_take_30 : decode cX0_take 30 = .ok (.iadd, 1) := by decide +kernel
theorem dX0_take_31 : decode cX0_take 31 = .ok (.putfield 19, 3) := by decide +kernel
theorem dX0_take_34 : decode cX0_take 34 = .ok (.aload_n 0, 1) := by decide +kernel
theorem dX0_take_35 : decode cX0_take 35 = .ok (.getfield 19, 3) := by decide +kernel
theorem dX0_take_38 : decode cX0_take 38 = .ok (.sipush 128, 3) := by decide +kernel
theorem dX0_take_41 : decode cX0_take 41 = .ok (.if_icmp .ne 12, 3) := by decide +kernel
theorem dX0_take_44 : decode cX0_take 44 = .ok (.aload_n 0, 1) := by decide +kernel
theorem dX0_take_45 : decode cX0_take 45 = .ok (.invokevirtual 32, 3) := by decide +kernel
theorem dX0_take_48 : decode cX0_take 48 = .ok (.aload_n 0, 1) := by decide +kernel
theorem dX0_take_49 : decode cX0_take 49 = .ok (.iconst 0, 1) := by decide +kernel
theorem dX0_take_50 : decode cX0_take 50 = .ok (.putfield 19, 3) := by decide +kernel
theorem dX0_take_53 : decode cX0_take 53 = .ok (.return_, 1) := by decide +kernel
set_option maxRecDepth 20000 in
theorem ggX0_end_X0_take : GoodIn wsX0_end wsX0_take := goodIn_r _ [6, 7, 1, 8, 9, 10, 5, 11, 12, 13, 14, 15, 16, 17, 18, 19, 20, 21, 22, 23, 24, 25, 26, 27, 28, 29, 30, 31, 32, 33, 34, 35, 36, 37, 38, 39, 40, 41, 42, 43, 44, 45, 46, 47, 48, 49, 50, 51, 52, 53, 54, 55] (by decide +kernel) (by decide +kernel)
set_option maxRecDepth 20000 in
theorem gX0_end_X0_take : GoodIn wsX0_end (wsV RX0 35 RX0 yX0_take wsX0_take) := goodIn_app (goodIn_of _ (by decide +kernel)) ggX0_end_X0_take
set_option maxRecDepth 20000 in
theorem ggX0_end_X0_mixBlock : GoodIn wsX0_end wsX0_mixBlock := goodIn_r _ [11, 12, 13, 14, 15, 16, 17, 18, 19, 20, 5, 21, 1, 22, 23, 24, 25, 26, 27, 28, 29, 30, 31, 32, 33, 34, 35, 36, 37, 38, 39, 40, 41, 42, 43, 44, 45, 46, 47, 48, 49, 50, 51, 52, 53, 54, 55] (by decide +kernel) (by decide +kernel)
set_option maxRecDepth 20000 in
theorem gX0_end_X0_mixBlock : GoodIn wsX0_end (wsV RX0 32 RX0 yX0_mixBlock wsX0_mixBlock) := goodIn_app (goodIn_of _ (by decide +kernel)) ggX0_end_X0_mixBlock
theorem dX0_end_0 : decode cX0_end 0 = .ok (.aload_n 0, 1) := by decide +kernel
theorem dX0_end_1 : decode cX0_end 1 = .ok (.sipush 128, 3) := by decide +kernel
theorem dX0_end_4 : decode cX0_end 4 = .ok (.invokevirtual 35, 3) := by decide +kernel
theorem dX0_end_7 : decode cX0_end 7 = .ok (.bipush 111, 2) := by decide +kernel
theorem dX0_end_9 : decode cX0_end 9 = .ok (.iload_n 1, 1) := by decide +kernel
theorem dX0_end_10 : decode cX0_end 10 = .ok (.isub, 1) := by decide +kernel
theorem dX0_end_11 : decode cX0_end 11 = .ok (.bipush 127, 2) := by decide +kernel
theorem dX0_end_13 : decode cX0_end 13 = .ok (.iand, 1) := by decide +kernel
theorem dX0_end_14 : decode cX0_end 14 = .ok (.istore_n 2, 1) := by decide +kernel
theorem dX0_end_15 : decode cX0_end 15 = .ok (.iconst 0, 1) := by decide +kernel
theorem dX0_end_16 : decode cX0_end 16 = .ok (.istore_n 3, 1) := by decide +kernel
theorem dX0_end_17 : decode cX0_end 17 = .ok (.iload_n 3, 1) := by decide +kernel
theorem dX0_end_18 : decode cX0_end 18 = .ok (.iload_n 2, 1) := by decide +kernel
theorem dX0_end_19 : decode cX0_end 19 = .ok (.if_icmp .ge 14, 3) := by decide +kernel
theorem dX0_end_22 : decode cX0_end 22 = .ok (.aload_n 0, 1) := by decide +kernel
theorem dX0_end_23 : decode cX0_end 23 = .ok (.iconst 0, 1) := by decide +kernel
theorem dX0_end_24 : decode cX0_end 24 = .ok (.invokevirtual 35, 3) := by decide +kernel
theorem dX0_end_27 : decode cX0_end 27 = .ok (.iinc 3 1, 3) := by decide +kernel
theorem dX0_end_30 : decode cX0_end 30 = .ok (.goto (-13), 3) := by decide +kernel
theorem dX0_end_33 : decode cX0_end 33 = .ok (.aload_n 0, 1) := by decide +kernel
theorem dX0_end_34 : decode cX0_end 34 = .ok (.getfield 16, 3) := by decide +kernel
theorem dX0_end_37 : decode cX0_end 37 = .ok (.bipush 28, 2) := by decide +kernel
theorem dX0_end_39 : decode cX0_end 39 = .ok (.iconst 0, 1) := by decide +kernel
theorem dX0_end_40 : decode cX0_end 40 = .ok (.iastore, 1) := by decide +kernel
theorem dX0_end_41 : decode cX0_end 41 = .ok (.aload_n 0, 1) := by decide +kernel
theorem dX0_end_42 : decode cX0_end 42 = .ok (.getfield 16, 3) := by decide +kernel
theorem dX0_end_45 : decode cX0_end 45 = .ok (.bipush 29, 2) := by decide +kernel
theorem dX0_end_47 : decode cX0_end 47 = .ok (.iconst 0, 1) := by decide +kernel
theorem dX0_end_48 : decode cX0_end 48 = .ok (.iastore, 1) := by decide +kernel
theorem dX0_end_49 : decode cX0_end 49 = .ok (.aload_n 0, 1) := by decide +kernel
theorem dX0_end_50 : decode cX0_end 50 = .ok (.getfield 16, 3) := by decide +kernel
theorem dX0_end_53 : decode cX0_end 53 = .ok (.bipush 30, 2) := by decide +kernel
theorem dX0_end_55 : decode cX0_end 55 = .ok (.iload_n 1, 1) := by decide +kernel
theorem dX0_end_56 : decode cX0_end 56 = .ok (.bipush 29, 2) := by decide +kernel
theorem dX0_end_58 : decode cX0_end 58 = .ok (.iushr, 1) := by decide +kernel
theorem dX0_end_59 : decode cX0_end 59 = .ok (.iastore, 1) := by decide +kernel
theorem dX0_end_60 : decode cX0_end 60 = .ok (.aload_n 0, 1) := by decide +kernel
theorem dX0_end_61 : decode cX0_end 61 = .ok (.getfield 16, 3) := by decide +kernel
theorem dX0_end_64 : decode cX0_end 64 = .ok (.bipush 31, 2) := by decide +kernel
theorem dX0_end_66 : decode cX0_end 66 = .ok (.iload_n 1, 1) := by decide +kernel
theorem dX0_end_67 : decode cX0_end 67 = .ok (.iconst 3, 1) := by decide +kernel
theorem dX0_end_68 : decode cX0_end 68 = .ok (.ishl, 1) := by decide +kernel
theorem dX0_end_69 : decode cX0_end 69 = .ok (.iastore, 1) := by decide +kernel
theorem dX0_end_70 : decode cX0_end 70 = .ok (.aload_n 0, 1) := by decide +kernel
theorem dX0_end_71 : decode cX0_end 71 = .ok (.invokevirtual 32, 3) := by decide +kernel
theorem dX0_end_74 : decode cX0_end 74 = .ok (.return_, 1) := by decide +kernel
theorem dX0_wordAt_0 : decode cX0_wordAt 0 = .ok (.aload_n 0, 1) := by decide +kernel
theorem dX0_wordAt_1 : decode cX0_wordAt 1 = .ok (.getfield 9, 3) := by decide +kernel
theorem dX0_wordAt_4 : decode cX0_wordAt 4 = .ok (.iload_n 1, 1) := by decide +kernel
theorem dX0_wordAt_5 : decode cX0_wordAt 5 = .ok (.iaload, 1) := by decide +kernel
theorem dX0_wordAt_6 : decode cX0_wordAt 6 = .ok (.ireturn, 1) := by decide +kernel
set_option maxRecDepth 20000 in
theorem ggX0_mixBlock_X0_extend : GoodIn wsX0_mixBlock wsX0_extend := goodIn_r _ [11, 12, 13, 14, 15, 16, 17, 18, 19, 20, 21, 22, 23, 43, 44, 45, 46] (by decide +kernel) (by decide +kernel)
set_option maxRecDepth 20000 in
theorem gX0_mixBlock_X0_extend : GoodIn wsX0_mixBlock (wsV RX0 39 RX0 yX0_extend wsX0_extend) := goodIn_app (goodIn_of _ (by decide +kernel)) ggX0_mixBlock_X0_extend
set_option maxRecDepth 20000 in
theorem ggX0_mixBlock_X0_mixRound : GoodIn wsX0_mixBlock wsX0_mixRound := goodIn_r _ [27, 2, 28, 12, 3, 4, 5, 6, 29, 30, 10, 31, 13, 14, 15, 16, 17, 18, 19, 20, 21, 22, 23, 32, 33, 34, 35, 36, 37, 38, 39, 40, 41, 42, 43, 44, 45, 46] (by decide +kernel) (by decide +kernel)
set_option maxRecDepth 20000 in
theorem gX0_mixBlock_X0_mixRound : GoodIn wsX0_mixBlock (wsV RX0 42 RX0 yX0_mixRound wsX0_mixRound) := goodIn_app (goodIn_of _ (by decide +kernel)) ggX0_mixBlock_X0_mixRound
set_option maxRecDepth 20000 in
theorem ggX0_mixBlock_X2_addTo : GoodIn wsX0_mixBlock wsX2_addTo := goodIn_r _ [20, 21, 22, 14, 23] (by decide +kernel) (by decide +kernel)
set_option maxRecDepth 20000 in
theorem gX0_mixBlock_X2_addTo_n45 : GoodIn wsX0_mixBlock (wsX2_addTo) := ggX0_mixBlock_X2_addTo
theorem dX0_mixBlock_0 : decode cX0_mixBlock 0 = .ok (.bipush 32, 2) := by decide +kernel
theorem dX0_mixBlock_2 : decode cX0_mixBlock 2 = .ok (.istore_n 1, 1) := by decide +kernel
theorem dX0_mixBlock_3 : decode cX0_mixBlock 3 = .ok (.iload_n 1, 1) := by decide +kernel
theorem dX0_mixBlock_4 : decode cX0_mixBlock 4 = .ok (.sipush 160, 3) := by decide +kernel
theorem dX0_mixBlock_7 : decode cX0_mixBlock 7 = .ok (.if_icmp .ge 14, 3) := by decide +kernel
theorem dX0_mixBlock_10 : decode cX0_mixBlock 10 = .ok (.aload_n 0, 1) := by decide +kernel
theorem dX0_mixBlock_11 : decode cX0_mixBlock 11 = .ok (.iload_n 1, 1) := by decide +kernel
theorem dX0_mixBlock_12 : decode cX0_mixBlock 12 = .ok (.invokevirtual 39, 3) := by decide +kernel
theorem dX0_mixBlock_15 : decode cX0_mixBlock 15 = .ok (.iinc 1 2, 3) := by decide +kernel
theorem dX0_mixBlock_18 : decode cX0_mixBlock 18 = .ok (.goto (-15), 3) := by decide +kernel
theorem dX0_mixBlock_21 : decode cX0_mixBlock 21 = .ok (.aload_n 0, 1) := by decide +kernel
theorem dX0_mixBlock_22 : decode cX0_mixBlock 22 = .ok (.getfield 9, 3) := by decide +kernel
theorem dX0_mixBlock_25 : decode cX0_mixBlock 25 = .ok (.iconst 0, 1) := by decide +kernel
theorem dX0_mixBlock_26 : decode cX0_mixBlock 26 = .ok (.aload_n 0, 1) := by decide +kernel
theorem dX0_mixBlock_27 : decode cX0_mixBlock 27 = .ok (.getfield 13, 3) := by decide +kernel
theorem dX0_mixBlock_30 : decode cX0_mixBlock 30 = .ok (.iconst 0, 1) := by decide +kernel
theorem dX0_mixBlock_31 : decode cX0_mixBlock 31 = .ok (.bipush 16, 2) := by decide +kernel
theorem dX0_mixBlock_33 : decode cX0_mixBlock 33 = .ok (.invokestatic 26, 3) := by decide +kernel
theorem dX0_mixBlock_36 : decode cX0_mixBlock 36 = .ok (.iconst 0, 1) := by decide +kernel
theorem dX0_mixBlock_37 : decode cX0_mixBlock 37 = .ok (.istore_n 1, 1) := by decide +kernel
theorem dX0_mixBlock_38 : decode cX0_mixBlock 38 = .ok (.iload_n 1, 1) := by decide +kernel
theorem dX0_mixBlock_39 : decode cX0_mixBlock 39 = .ok (.sipush 160, 3) := by decide +kernel
theorem dX0_mixBlock_42 : decode cX0_mixBlock 42 = .ok (.if_icmp .ge 14, 3) := by decide +kernel
theorem dX0_mixBlock_45 : decode cX0_mixBlock 45 = .ok (.aload_n 0, 1) := by decide +kernel
theorem dX0_mixBlock_46 : decode cX0_mixBlock 46 = .ok (.iload_n 1, 1) := by decide +kernel
theorem dX0_mixBlock_47 : decode cX0_mixBlock 47 = .ok (.invokevirtual 42, 3) := by decide +kernel
theorem dX0_mixBlock_50 : decode cX0_mixBlock 50 = .ok (.iinc 1 2, 3) := by decide +kernel
theorem dX0_mixBlock_53 : decode cX0_mixBlock 53 = .ok (.goto (-15), 3) := by decide +kernel
theorem dX0_mixBlock_56 : decode cX0_mixBlock 56 = .ok (.iconst 0, 1) := by decide +kernel
theorem dX0_mixBlock_57 : decode cX0_mixBlock 57 = .ok (.istore_n 1, 1) := by decide +kernel
theorem dX0_mixBlock_58 : decode cX0_mixBlock 58 = .ok (.iload_n 1, 1) := by decide +kernel
theorem dX0_mixBlock_59 : decode cX0_mixBlock 59 = .ok (.bipush 16, 2) := by decide +kernel
theorem dX0_mixBlock_61 : decode cX0_mixBlock 61 = .ok (.if_icmp .ge 31, 3) := by decide +kernel
theorem dX0_mixBlock_64 : decode cX0_mixBlock 64 = .ok (.aload_n 0, 1) := by decide +kernel
theorem dX0_mixBlock_65 : decode cX0_mixBlock 65 = .ok (.getfield 9, 3) := by decide +kernel
theorem dX0_mixBlock_68 : decode cX0_mixBlock 68 = .ok (.iload_n 1, 1) := by decide +kernel
theorem dX0_mixBlock_69 : decode cX0_mixBlock 69 = .ok (.aload_n 0, 1) := by decide +kernel
theorem dX0_mixBlock_70 : decode cX0_mixBlock 70 = .ok (.getfield 13, 3) := by decide +kernel
theorem dX0_mixBlock_73 : decode cX0_mixBlock 73 = .ok (.iload_n 1, 1) := by decide +kernel
theorem dX0_mixBlock_74 : decode cX0_mixBlock 74 = .ok (.iaload, 1) := by decide +kernel
theorem dX0_mixBlock_75 : decode cX0_mixBlock 75 = .ok (.aload_n 0, 1) := by decide +kernel
theorem dX0_mixBlock_76 : decode cX0_mixBlock 76 = .ok (.getfield 13, 3) := by decide +kernel
theorem dX0_mixBlock_79 : decode cX0_mixBlock 79 = .ok (.iload_n 1, 1) := by decide +kernel
theorem dX0_mixBlock_80 : decode cX0_mixBlock 80 = .ok (.iconst 1, 1) := by decide +kernel
theorem dX0_mixBlock_81 : decode cX0_mixBlock 81 = .ok (.iadd, 1) := by decide +kernel
theorem dX0_mixBlock_82 : decode cX0_mixBlock 82 = .ok (.iaload, 1) := by decide +kernel
theorem dX0_mixBlock_83 : decode cX0_mixBlock 83 = .ok (.invokestatic 45, 3) := by decide +kernel
theorem dX0_mixBlock_86 : decode cX0_mixBlock 86 = .ok (.iinc 1 2, 3) := by decide +kernel
theorem dX0_mixBlock_89 : decode cX0_mixBlock 89 = .ok (.goto (-31), 3) := by decide +kernel
theorem dX0_mixBlock_92 : decode cX0_mixBlock 92 = .ok (.return_, 1) := by decide +kernel
set_option maxRecDepth 20000 in
theorem ggX0_extend_X2_turned : GoodIn wsX0_extend wsX2_turned := goodIn_r _ [4, 5, 6, 3, 7] (by decide +kernel) (by decide +kernel)
set_option maxRecDepth 20000 in
theorem gX0_extend_X2_turned_n51 : GoodIn wsX0_extend (wsX2_turned) := ggX0_extend_X2_turned
set_option maxRecDepth 20000 in
theorem ggX0_extend_X2_moved : GoodIn wsX0_extend wsX2_moved := goodIn_r _ [7] (by decide +kernel) (by decide +kernel)
set_option maxRecDepth 20000 in
theorem gX0_extend_X2_moved_n55 : GoodIn wsX0_extend (wsX2_moved) := ggX0_extend_X2_moved
set_option maxRecDepth 20000 in
theorem ggX0_extend_X2_addTo : GoodIn wsX0_extend wsX2_addTo := goodIn_r _ [9, 10, 11, 3, 12] (by decide +kernel) (by decide +kernel)
set_option maxRecDepth 20000 in
theorem gX0_extend_X2_addTo_n45 : GoodIn wsX0_extend (wsX2_addTo) := ggX0_extend_X2_addTo
theorem dX0_extend_0 : decode cX0_extend 0 = .ok (.aload_n 0, 1) := by decide +kernel
theorem dX0_extend_1 : decode cX0_extend 1 = .ok (.getfield 16, 3) := by decide +kernel
theorem dX0_extend_4 : decode cX0_extend 4 = .ok (.iload_n 1, 1) := by decide +kernel
theorem dX0_extend_5 : decode cX0_extend 5 = .ok (.bipush 30, 2) := by decide +kernel
theorem dX0_extend_7 : decode cX0_extend 7 = .ok (.isub, 1) := by decide +kernel
theorem dX0_extend_8 : decode cX0_extend 8 = .ok (.iaload, 1) := by decide +kernel
theorem dX0_extend_9 : decode cX0_extend 9 = .ok (.istore_n 2, 1) := by decide +kernel
theorem dX0_extend_10 : decode cX0_extend 10 = .ok (.aload_n 0, 1) := by decide +kernel
theorem dX0_extend_11 : decode cX0_extend 11 = .ok (.getfield 16, 3) := by decide +kernel
theorem dX0_extend_14 : decode cX0_extend 14 = .ok (.iload_n 1, 1) := by decide +kernel
theorem dX0_extend_15 : decode cX0_extend 15 = .ok (.bipush 29, 2) := by decide +kernel
theorem dX0_extend_17 : decode cX0_extend 17 = .ok (.isub, 1) := by decide +kernel
theorem dX0_extend_18 : decode cX0_extend 18 = .ok (.iaload, 1) := by decide +kernel
theorem dX0_extend_19 : decode cX0_extend 19 = .ok (.istore_n 3, 1) := by decide +kernel
theorem dX0_extend_20 : decode cX0_extend 20 = .ok (.aload_n 0, 1) := by decide +kernel
theorem dX0_extend_21 : decode cX0_extend 21 = .ok (.getfield 16, 3) := by decide +kernel
theorem dX0_extend_24 : decode cX0_extend 24 = .ok (.iload_n 1, 1) := by decide +kernel
theorem dX0_extend_25 : decode cX0_extend 25 = .ok (.iconst 4, 1) := by decide +kernel
theorem dX0_extend_26 : decode cX0_extend 26 = .ok (.isub, 1) := by decide +kernel
theorem dX0_extend_27 : decode cX0_extend 27 = .ok (.iaload, 1) := by decide +kernel
theorem dX0_extend_28 : decode cX0_extend 28 = .ok (.istore 4, 2) := by decide +kernel
theorem dX0_extend_30 : decode cX0_extend 30 = .ok (.aload_n 0, 1) := by decide +kernel
theorem dX0_extend_31 : decode cX0_extend 31 = .ok (.getfield 16, 3) := by decide +kernel
theorem dX0_extend_34 : decode cX0_extend 34 = .ok (.iload_n 1, 1) := by decide +kernel
theorem dX0_extend_35 : decode cX0_extend 35 = .ok (.iconst 3, 1) := by decide +kernel
theorem dX0_extend_36 : decode cX0_extend 36 = .ok (.isub, 1) := by decide +kernel
theorem dX0_extend_37 : decode cX0_extend 37 = .ok (.iaload, 1) := by decide +kernel
theorem dX0_extend_38 : decode cX0_extend 38 = .ok (.istore 5, 2) := by decide +kernel
theorem dX0_extend_40 : decode cX0_extend 40 = .ok (.aload_n 0, 1) := by decide +kernel
theorem dX0_extend_41 : decode cX0_extend 41 = .ok (.getfield 16, 3) := by decide +kernel
theorem dX0_extend_44 : decode cX0_extend 44 = .ok (.iload_n 1, 1) := by decide +kernel
theorem dX0_extend_45 : decode cX0_extend 45 = .ok (.aload_n 0, 1) := by decide +kernel
theorem dX0_extend_46 : decode cX0_extend 46 = .ok (.getfield 16, 3) := by decide +kernel
theorem dX0_extend_49 : decode cX0_extend 49 = .ok (.iload_n 1, 1) := by decide +kernel
theorem dX0_extend_50 : decode cX0_extend 50 = .ok (.bipush 32, 2) := by decide +kernel
theorem dX0_extend_52 : decode cX0_extend 52 = .ok (.isub, 1) := by decide +kernel
theorem dX0_extend_53 : decode cX0_extend 53 = .ok (.iaload, 1) := by decide +kernel
theorem dX0_extend_54 : decode cX0_extend 54 = .ok (.iastore, 1) := by decide +kernel
theorem dX0_extend_55 : decode cX0_extend 55 = .ok (.aload_n 0, 1) := by decide +kernel
theorem dX0_extend_56 : decode cX0_extend 56 = .ok (.getfield 16, 3) := by decide +kernel
theorem dX0_extend_59 : decode cX0_extend 59 = .ok (.iload_n 1, 1) := by decide +kernel
theorem dX0_extend_60 : decode cX0_extend 60 = .ok (.iconst 1, 1) := by decide +kernel
theorem dX0_extend_61 : decode cX0_extend 61 = .ok (.iadd, 1) := by decide +kernel
theorem dX0_extend_62 : decode cX0_extend 62 = .ok (.aload_n 0, 1) := by decide +kernel
theorem dX0_extend_63 : decode cX0_extend 63 = .ok (.getfield 16, 3) := by decide +kernel
theorem dX0_extend_66 : decode cX0_extend 66 = .ok (.iload_n 1, 1) := by decide +kernel
theorem dX0_extend_67 : decode cX0_extend 67 = .ok (.bipush 31, 2) := by decide +kernel
theorem dX0_extend_69 : decode cX0_extend 69 = .ok (.isub, 1) := by decide +kernel
theorem dX0_extend_70 : decode cX0_extend 70 = .ok (.iaload, 1) := by decide +kernel
theorem dX0_extend_71 : decode cX0_extend 71 = .ok (.iastore, 1) := by decide +kernel
theorem dX0_extend_72 : decode cX0_extend 72 = .ok (.aload_n 0, 1) := by decide +kernel
theorem dX0_extend_73 : decode cX0_extend 73 = .ok (.getfield 16, 3) := by decide +kernel
theorem dX0_extend_76 : decode cX0_extend 76 = .ok (.iload_n 1, 1) := by decide +kernel
theorem dX0_extend_77 : decode cX0_extend 77 = .ok (.iload_n 2, 1) := by decide +kernel
theorem dX0_extend_78 : decode cX0_extend 78 = .ok (.iload_n 3, 1) := by decide +kernel
theorem dX0_extend_79 : decode cX0_extend 79 = .ok (.iconst 1, 1) := by decide +kernel
theorem dX0_extend_80 : decode cX0_extend 80 = .ok (.invokestatic 51, 3) := by decide +kernel
theorem dX0_extend_83 : decode cX0_extend 83 = .ok (.iload_n 2, 1) := by decide +kernel
theorem dX0_extend_84 : decode cX0_extend 84 = .ok (.iload_n 3, 1) := by decide +kernel
theorem dX0_extend_85 : decode cX0_extend 85 = .ok (.bipush 8, 2) := by decide +kernel
theorem dX0_extend_87 : decode cX0_extend 87 = .ok (.invokestatic 51, 3) := by decide +kernel
theorem dX0_extend_90 : decode cX0_extend 90 = .ok (.ixor, 1) := by decide +kernel
theorem dX0_extend_91 : decode cX0_extend 91 = .ok (.iload_n 2, 1) := by decide +kernel
theorem dX0_extend_92 : decode cX0_extend 92 = .ok (.bipush 7, 2) := by decide +kernel
theorem dX0_extend_94 : decode cX0_extend 94 = .ok (.iushr, 1) := by decide +kernel
theorem dX0_extend_95 : decode cX0_extend 95 = .ok (.ixor, 1) := by decide +kernel
theorem dX0_extend_96 : decode cX0_extend 96 = .ok (.iload_n 3, 1) := by decide +kernel
theorem dX0_extend_97 : decode cX0_extend 97 = .ok (.iload_n 2, 1) := by decide +kernel
theorem dX0_extend_98 : decode cX0_extend 98 = .ok (.iconst 1, 1) := by decide +kernel
theorem dX0_extend_99 : decode cX0_extend 99 = .ok (.invokestatic 51, 3) := by decide +kernel
theorem dX0_extend_102 : decode cX0_extend 102 = .ok (.iload_n 3, 1) := by decide +kernel
theorem dX0_extend_103 : decode cX0_extend 103 = .ok (.iload_n 2, 1) := by decide +kernel
theorem dX0_extend_104 : decode cX0_extend 104 = .ok (.bipush 8, 2) := by decide +kernel
theorem dX0_extend_106 : decode cX0_extend 106 = .ok (.invokestatic 51, 3) := by decide +kernel
theorem dX0_extend_109 : decode cX0_extend 109 = .ok (.ixor, 1) := by decide +kernel
theorem dX0_extend_110 : decode cX0_extend 110 = .ok (.iload_n 2, 1) := by decide +kernel
theorem dX0_extend_111 : decode cX0_extend 111 = .ok (.iload_n 3, 1) := by decide +kernel
theorem dX0_extend_112 : decode cX0_extend 112 = .ok (.bipush 7, 2) := by decide +kernel
theorem dX0_extend_114 : decode cX0_extend 114 = .ok (.invokestatic 55, 3) := by decide +kernel
theorem dX0_extend_117 : decode cX0_extend 117 = .ok (.ixor, 1) := by decide +kernel
theorem dX0_extend_118 : decode cX0_extend 118 = .ok (.invokestatic 45, 3) := by decide +kernel
theorem dX0_extend_121 : decode cX0_extend 121 = .ok (.aload_n 0, 1) := by decide +kernel
theorem dX0_extend_122 : decode cX0_extend 122 = .ok (.getfield 16, 3) := by decide +kernel
theorem dX0_extend_125 : decode cX0_extend 125 = .ok (.iload_n 1, 1) := by decide +kernel
theorem dX0_extend_126 : decode cX0_extend 126 = .ok (.aload_n 0, 1) := by decide +kernel
theorem dX0_extend_127 : decode cX0_extend 127 = .ok (.getfield 16, 3) := by decide +kernel
theorem dX0_extend_130 : decode cX0_extend 130 = .ok (.iload_n 1, 1) := by decide +kernel
theorem dX0_extend_131 : decode cX0_extend 131 = .ok (.bipush 14, 2) := by decide +kernel
theorem dX0_extend_133 : decode cX0_extend 133 = .ok (.isub, 1) := by decide +kernel
theorem dX0_extend_134 : decode cX0_extend 134 = .ok (.iaload, 1) := by decide +kernel
theorem dX0_extend_135 : decode cX0_extend 135 = .ok (.aload_n 0, 1) := by decide +kernel
theorem dX0_extend_136 : decode cX0_extend 136 = .ok (.getfield 16, 3) := by decide +kernel
theorem dX0_extend_139 : decode cX0_extend 139 = .ok (.iload_n 1, 1) := by decide +kernel
theorem dX0_extend_140 : decode cX0_extend 140 = .ok (.bipush 13, 2) := by decide +kernel
theorem dX0_extend_142 : decode cX0_extend 142 = .ok (.isub, 1) := by decide +kernel
theorem dX0_extend_143 : decode cX0_extend 143 = .ok (.iaload, 1) := by decide +kernel
theorem dX0_extend_144 : decode cX0_extend 144 = .ok (.invokestatic 45, 3) := by decide +kernel
theorem dX0_extend_147 : decode cX0_extend 147 = .ok (.aload_n 0, 1) := by decide +kernel
theorem dX0_extend_148 : decode cX0_extend 148 = .ok (.getfield 16, 3) := by decide +kernel
theorem dX0_extend_151 : decode cX0_extend 151 = .ok (.iload_n 1, 1) := by decide +kernel
theorem dX0_extend_152 : decode cX0_extend 152 = .ok (.iload 4, 2) := by decide +kernel
theorem dX0_extend_154 : decode cX0_extend 154 = .ok (.iload 5, 2) := by decide +kernel
theorem dX0_extend_156 : decode cX0_extend 156 = .ok (.bipush 19, 2) := by decide +kernel
theorem dX0_extend_158 : decode cX0_extend 158 = .ok (.invokestatic 51, 3) := by decide +kernel
theorem dX0_extend_161 : decode cX0_extend 161 = .ok (.iload 4, 2) := by decide +kernel
theorem dX0_extend_163 : decode cX0_extend 163 = .ok (.iload 5, 2) := by decide +kernel
theorem dX0_extend_165 : decode cX0_extend 165 = .ok (.bipush 61, 2) := by decide +kernel
theorem dX0_extend_167 : decode cX0_extend 167 = .ok (.invokestatic 51, 3) := by decide +kernel
theorem dX0_extend_170 : decode cX0_extend 170 = .ok (.ixor, 1) := by decide +kernel
theorem dX0_extend_171 : decode cX0_extend 171 = .ok (.iload 4, 2) := by decide +kernel
theorem dX0_extend_173 : decode cX0_extend 173 = .ok (.bipush 6, 2) := by decide +kernel
theorem dX0_extend_175 : decode cX0_extend 175 = .ok (.iushr, 1) := by decide +kernel
theorem dX0_extend_176 : decode cX0_extend 176 = .ok (.ixor, 1) := by decide +kernel
theorem dX0_extend_177 : decode cX0_extend 177 = .ok (.iload 5, 2) := by decide +kernel
theorem dX0_extend_179 : decode cX0_extend 179 = .ok (.iload 4, 2) := by decide +kernel
theorem dX0_extend_181 : decode cX0_extend 181 = .ok (.bipush 19, 2) := by decide +kernel
theorem dX0_extend_183 : decode cX0_extend 183 = .ok (.invokestatic 51, 3) := by decide +kernel
theorem dX0_extend_186 : decode cX0_extend 186 = .ok (.iload 5, 2) := by decide +kernel
theorem dX0_extend_188 : decode cX0_extend 188 = .ok (.iload 4, 2) := by decide +kernel
theorem dX0_extend_190 : decode cX0_extend 190 = .ok (.bipush 61, 2) := by decide +kernel
theorem dX0_extend_192 : decode cX0_extend 192 = .ok (.invokestatic 51, 3) := by decide +kernel
theorem dX0_extend_195 : decode cX0_extend 195 = .ok (.ixor, 1) := by decide +kernel
theorem dX0_extend_196 : decode cX0_extend 196 = .ok (.iload 4, 2) := by decide +kernel
theorem dX0_extend_198 : decode cX0_extend 198 = .ok (.iload 5, 2) := by decide +kernel
theorem dX0_extend_200 : decode cX0_extend 200 = .ok (.bipush 6, 2) := by decide +kernel
theorem dX0_extend_202 : decode cX0_extend 202 = .ok (.invokestatic 55, 3) := by decide +kernel
theorem dX0_extend_205 : decode cX0_extend 205 = .ok (.ixor, 1) := by decide +kernel
theorem dX0_extend_206 : decode cX0_extend 206 = .ok (.invokestatic 45, 3) := by decide +kernel
theorem dX0_extend_209 : decode cX0_extend 209 = .ok (.return_, 1) := by decide +kernel
set_option maxRecDepth 20000 in
theorem ggX0_mixRound_X0_turnsOfE : GoodIn wsX0_mixRound wsX0_turnsOfE := goodIn_r _ [11, 12, 13, 14, 15, 16, 17] (by decide +kernel) (by decide +kernel)
set_option maxRecDepth 20000 in
theorem gX0_mixRound_X0_turnsOfE : GoodIn wsX0_mixRound (va_wsS RX0 58 yX0_turnsOfE wsX0_turnsOfE) := goodIn_app (goodIn_of _ (by decide +kernel)) ggX0_mixRound_X0_turnsOfE
set_option maxRecDepth 20000 in
theorem ggX0_mixRound_X2_addTo : GoodIn wsX0_mixRound wsX2_addTo := goodIn_r _ [19, 20, 21, 13, 22] (by decide +kernel) (by decide +kernel)
set_option maxRecDepth 20000 in
theorem gX0_mixRound_X2_addTo_n45 : GoodIn wsX0_mixRound (wsX2_addTo) := ggX0_mixRound_X2_addTo
set_option maxRecDepth 20000 in
theorem ggX0_mixRound_X0_chosen : GoodIn wsX0_mixRound wsX0_chosen := goodIn_r _ [26, 1, 34, 35, 36, 37] (by decide +kernel) (by decide +kernel)
set_option maxRecDepth 20000 in
theorem gX0_mixRound_X0_chosen : GoodIn wsX0_mixRound (wsV RX0 62 RX0 yX0_chosen wsX0_chosen) := goodIn_app (goodIn_of _ (by decide +kernel)) ggX0_mixRound_X0_chosen
set_option maxRecDepth 20000 in
theorem ggX0_mixRound_X0_majority : GoodIn wsX0_mixRound wsX0_majority := goodIn_r _ [30, 1, 34, 35, 36, 37] (by decide +kernel) (by decide +kernel)
set_option maxRecDepth 20000 in
theorem gX0_mixRound_X0_majority : GoodIn wsX0_mixRound (wsV RX0 69 RX0 yX0_majority wsX0_majority) := goodIn_app (goodIn_of _ (by decide +kernel)) ggX0_mixRound_X0_majority
set_option maxRecDepth 20000 in
theorem ggX0_mixRound_X0_turnsOfA : GoodIn wsX0_mixRound wsX0_turnsOfA := goodIn_r _ [33, 12, 13, 14, 15, 16, 17] (by decide +kernel) (by decide +kernel)
set_option maxRecDepth 20000 in
theorem gX0_mixRound_X0_turnsOfA : GoodIn wsX0_mixRound (va_wsS RX0 72 yX0_turnsOfA wsX0_turnsOfA) := goodIn_app (goodIn_of _ (by decide +kernel)) ggX0_mixRound_X0_turnsOfA
theorem dX0_mixRound_0 : decode cX0_mixRound 0 = .ok (.aload_n 0, 1) := by decide +kernel
theorem dX0_mixRound_1 : decode cX0_mixRound 1 = .ok (.getfield 13, 3) := by decide +kernel
theorem dX0_mixRound_4 : decode cX0_mixRound 4 = .ok (.bipush 14, 2) := by decide +kernel
theorem dX0_mixRound_6 : decode cX0_mixRound 6 = .ok (.aload_n 0, 1) := by decide +kernel
theorem dX0_mixRound_7 : decode cX0_mixRound 7 = .ok (.getfield 13, 3) := by decide +kernel
theorem dX0_mixRound_10 : decode cX0_mixRound 10 = .ok (.bipush 8, 2) := by decide +kernel
theorem dX0_mixRound_12 : decode cX0_mixRound 12 = .ok (.iaload, 1) := by decide +kernel
theorem dX0_mixRound_13 : decode cX0_mixRound 13 = .ok (.aload_n 0, 1) := by decide +kernel
theorem dX0_mixRound_14 : decode cX0_mixRound 14 = .ok (.getfield 13, 3) := by decide +kernel
theorem dX0_mixRound_17 : decode cX0_mixRound 17 = .ok (.bipush 9, 2) := by decide +kernel
theorem dX0_mixRound_19 : decode cX0_mixRound 19 = .ok (.iaload, 1) := by decide +kernel
theorem dX0_mixRound_20 : decode cX0_mixRound 20 = .ok (.invokestatic 58, 3) := by decide +kernel
theorem dX0_mixRound_23 : decode cX0_mixRound 23 = .ok (.aload_n 0, 1) := by decide +kernel
theorem dX0_mixRound_24 : decode cX0_mixRound 24 = .ok (.getfield 13, 3) := by decide +kernel
theorem dX0_mixRound_27 : decode cX0_mixRound 27 = .ok (.bipush 9, 2) := by decide +kernel
theorem dX0_mixRound_29 : decode cX0_mixRound 29 = .ok (.iaload, 1) := by decide +kernel
theorem dX0_mixRound_30 : decode cX0_mixRound 30 = .ok (.aload_n 0, 1) := by decide +kernel
theorem dX0_mixRound_31 : decode cX0_mixRound 31 = .ok (.getfield 13, 3) := by decide +kernel
theorem dX0_mixRound_34 : decode cX0_mixRound 34 = .ok (.bipush 8, 2) := by decide +kernel
theorem dX0_mixRound_36 : decode cX0_mixRound 36 = .ok (.iaload, 1) := by decide +kernel
theorem dX0_mixRound_37 : decode cX0_mixRound 37 = .ok (.invokestatic 58, 3) := by decide +kernel
theorem dX0_mixRound_40 : decode cX0_mixRound 40 = .ok (.invokestatic 45, 3) := by decide +kernel
theorem dX0_mixRound_43 : decode cX0_mixRound 43 = .ok (.aload_n 0, 1) := by decide +kernel
theorem dX0_mixRound_44 : decode cX0_mixRound 44 = .ok (.getfield 13, 3) := by decide +kernel
theorem dX0_mixRound_47 : decode cX0_mixRound 47 = .ok (.bipush 14, 2) := by decide +kernel
theorem dX0_mixRound_49 : decode cX0_mixRound 49 = .ok (.aload_n 0, 1) := by decide +kernel
theorem dX0_mixRound_50 : decode cX0_mixRound 50 = .ok (.iconst 0, 1) := by decide +kernel
theorem dX0_mixRound_51 : decode cX0_mixRound 51 = .ok (.invokevirtual 62, 3) := by decide +kernel
theorem dX0_mixRound_54 : decode cX0_mixRound 54 = .ok (.aload_n 0, 1) := by decide +kernel
theorem dX0_mixRound_55 : decode cX0_mixRound 55 = .ok (.iconst 1, 1) := by decide +kernel
theorem dX0_mixRound_56 : decode cX0_mixRound 56 = .ok (.invokevirtual 62, 3) := by decide +kernel
theorem dX0_mixRound_59 : decode cX0_mixRound 59 = .ok (.invokestatic 45, 3) := by decide +kernel
theorem dX0_mixRound_62 : decode cX0_mixRound 62 = .ok (.aload_n 0, 1) := by decide +kernel
theorem dX0_mixRound_63 : decode cX0_mixRound 63 = .ok (.getfield 13, 3) := by decide +kernel
theorem dX0_mixRound_66 : decode cX0_mixRound 66 = .ok (.bipush 14, 2) := by decide +kernel
theorem dX0_mixRound_68 : decode cX0_mixRound 68 = .ok (.getstatic 66, 3) := by decide +kernel
theorem dX0_mixRound_71 : decode cX0_mixRound 71 = .ok (.iload_n 1, 1) := by decide +kernel
theorem dX0_mixRound_72 : decode cX0_mixRound 72 = .ok (.iaload, 1) := by decide +kernel
theorem dX0_mixRound_73 : decode cX0_mixRound 73 = .ok (.getstatic 66, 3) := by decide +kernel
theorem dX0_mixRound_76 : decode cX0_mixRound 76 = .ok (.iload_n 1, 1) := by decide +kernel
theorem dX0_mixRound_77 : decode cX0_mixRound 77 = .ok (.iconst 1, 1) := by decide +kernel
theorem dX0_mixRound_78 : decode cX0_mixRound 78 = .ok (.iadd, 1) := by decide +kernel
theorem dX0_mixRound_79 : decode cX0_mixRound 79 = .ok (.iaload, 1) := by decide +kernel
theorem dX0_mixRound_80 : decode cX0_mixRound 80 = .ok (.invokestatic 45, 3) := by decide +kernel
theorem dX0_mixRound_83 : decode cX0_mixRound 83 = .ok (.aload_n 0, 1) := by decide +kernel
theorem dX0_mixRound_84 : decode cX0_mixRound 84 = .ok (.getfield 13, 3) := by decide +kernel
theorem dX0_mixRound_87 : decode cX0_mixRound 87 = .ok (.bipush 14, 2) := by decide +kernel
theorem dX0_mixRound_89 : decode cX0_mixRound 89 = .ok (.aload_n 0, 1) := by decide +kernel
theorem dX0_mixRound_90 : decode cX0_mixRound 90 = .ok (.getfield 16, 3) := by decide +kernel
theorem dX0_mixRound_93 : decode cX0_mixRound 93 = .ok (.iload_n 1, 1) := by decide +kernel
theorem dX0_mixRound_94 : decode cX0_mixRound 94 = .ok (.iaload, 1) := by decide +kernel
theorem dX0_mixRound_95 : decode cX0_mixRound 95 = .ok (.aload_n 0, 1) := by decide +kernel
theorem dX0_mixRound_96 : decode cX0_mixRound 96 = .ok (.getfield 16, 3) := by decide +kernel
theorem dX0_mixRound_99 : decode cX0_mixRound 99 = .ok (.iload_n 1, 1) := by decide +kernel
theorem dX0_mixRound_100 : decode cX0_mixRound 100 = .ok (.iconst 1, 1) := by decide +kernel
theorem dX0_mixRound_101 : decode cX0_mixRound 101 = .ok (.iadd, 1) := by decide +kernel
theorem dX0_mixRound_102 : decode cX0_mixRound 102 = .ok (.iaload, 1) := by decide +kernel
theorem dX0_mixRound_103 : decode cX0_mixRound 103 = .ok (.invokestatic 45, 3) := by decide +kernel
theorem dX0_mixRound_106 : decode cX0_mixRound 106 = .ok (.aload_n 0, 1) := by decide +kernel
theorem dX0_mixRound_107 : decode cX0_mixRound 107 = .ok (.getfield 13, 3) := by decide +kernel
theorem dX0_mixRound_110 : decode cX0_mixRound 110 = .ok (.bipush 14, 2) := by decide +kernel
theorem dX0_mixRound_112 : decode cX0_mixRound 112 = .ok (.iaload, 1) := by decide +kernel
theorem dX0_mixRound_113 : decode cX0_mixRound 113 = .ok (.istore_n 2, 1) := by decide +kernel
theorem dX0_mixRound_114 : decode cX0_mixRound 114 = .ok (.aload_n 0, 1) := by decide +kernel
theorem dX0_mixRound_115 : decode cX0_mixRound 115 = .ok (.getfield 13, 3) := by decide +kernel
theorem dX0_mixRound_118 : decode cX0_mixRound 118 = .ok (.bipush 15, 2) := by decide +kernel
theorem dX0_mixRound_120 : decode cX0_mixRound 120 = .ok (.iaload, 1) := by decide +kernel
theorem dX0_mixRound_121 : decode cX0_mixRound 121 = .ok (.istore_n 3, 1) := by decide +kernel
end
section
theorem dX0_mixRound_122 : decode cX0_mixRound 122 = .ok (.aload_n 0, 1) := by decide +kernel
theorem dX0_mixRound_123 : decode cX0_mixRound 123 = .ok (.iconst 0, 1) := by decide +kernel
theorem dX0_mixRound_124 : decode cX0_mixRound 124 = .ok (.invokevirtual 69, 3) := by decide +kernel
theorem dX0_mixRound_127 : decode cX0_mixRound 127 = .ok (.istore 4, 2) := by decide +kernel
theorem dX0_mixRound_129 : decode cX0_mixRound 129 = .ok (.aload_n 0, 1) := by decide +kernel
theorem dX0_mixRound_130 : decode cX0_mixRound 130 = .ok (.iconst 1, 1) := by decide +kernel
theorem dX0_mixRound_131 : decode cX0_mixRound 131 = .ok (.invokevirtual 69, 3) := by decide +kernel
theorem dX0_mixRound_134 : decode cX0_mixRound 134 = .ok (.istore 5, 2) := by decide +kernel
theorem dX0_mixRound_136 : decode cX0_mixRound 136 = .ok (.aload_n 0, 1) := by decide +kernel
theorem dX0_mixRound_137 : decode cX0_mixRound 137 = .ok (.getfield 13, 3) := by decide +kernel
theorem dX0_mixRound_140 : decode cX0_mixRound 140 = .ok (.iconst 0, 1) := by decide +kernel
theorem dX0_mixRound_141 : decode cX0_mixRound 141 = .ok (.aload_n 0, 1) := by decide +kernel
theorem dX0_mixRound_142 : decode cX0_mixRound 142 = .ok (.getfield 13, 3) := by decide +kernel
theorem dX0_mixRound_145 : decode cX0_mixRound 145 = .ok (.iconst 2, 1) := by decide +kernel
theorem dX0_mixRound_146 : decode cX0_mixRound 146 = .ok (.bipush 14, 2) := by decide +kernel
theorem dX0_mixRound_148 : decode cX0_mixRound 148 = .ok (.invokestatic 26, 3) := by decide +kernel
theorem dX0_mixRound_151 : decode cX0_mixRound 151 = .ok (.aload_n 0, 1) := by decide +kernel
theorem dX0_mixRound_152 : decode cX0_mixRound 152 = .ok (.getfield 13, 3) := by decide +kernel
theorem dX0_mixRound_155 : decode cX0_mixRound 155 = .ok (.bipush 8, 2) := by decide +kernel
theorem dX0_mixRound_157 : decode cX0_mixRound 157 = .ok (.iload_n 2, 1) := by decide +kernel
theorem dX0_mixRound_158 : decode cX0_mixRound 158 = .ok (.iload_n 3, 1) := by decide +kernel
theorem dX0_mixRound_159 : decode cX0_mixRound 159 = .ok (.invokestatic 45, 3) := by decide +kernel
theorem dX0_mixRound_162 : decode cX0_mixRound 162 = .ok (.aload_n 0, 1) := by decide +kernel
theorem dX0_mixRound_163 : decode cX0_mixRound 163 = .ok (.getfield 13, 3) := by decide +kernel
theorem dX0_mixRound_166 : decode cX0_mixRound 166 = .ok (.iconst 0, 1) := by decide +kernel
theorem dX0_mixRound_167 : decode cX0_mixRound 167 = .ok (.iload_n 2, 1) := by decide +kernel
theorem dX0_mixRound_168 : decode cX0_mixRound 168 = .ok (.iastore, 1) := by decide +kernel
theorem dX0_mixRound_169 : decode cX0_mixRound 169 = .ok (.aload_n 0, 1) := by decide +kernel
theorem dX0_mixRound_170 : decode cX0_mixRound 170 = .ok (.getfield 13, 3) := by decide +kernel
theorem dX0_mixRound_173 : decode cX0_mixRound 173 = .ok (.iconst 1, 1) := by decide +kernel
theorem dX0_mixRound_174 : decode cX0_mixRound 174 = .ok (.iload_n 3, 1) := by decide +kernel
theorem dX0_mixRound_175 : decode cX0_mixRound 175 = .ok (.iastore, 1) := by decide +kernel
theorem dX0_mixRound_176 : decode cX0_mixRound 176 = .ok (.aload_n 0, 1) := by decide +kernel
theorem dX0_mixRound_177 : decode cX0_mixRound 177 = .ok (.getfield 13, 3) := by decide +kernel
theorem dX0_mixRound_180 : decode cX0_mixRound 180 = .ok (.iconst 0, 1) := by decide +kernel
theorem dX0_mixRound_181 : decode cX0_mixRound 181 = .ok (.aload_n 0, 1) := by decide +kernel
theorem dX0_mixRound_182 : decode cX0_mixRound 182 = .ok (.getfield 13, 3) := by decide +kernel
theorem dX0_mixRound_185 : decode cX0_mixRound 185 = .ok (.iconst 2, 1) := by decide +kernel
theorem dX0_mixRound_186 : decode cX0_mixRound 186 = .ok (.iaload, 1) := by decide +kernel
theorem dX0_mixRound_187 : decode cX0_mixRound 187 = .ok (.aload_n 0, 1) := by decide +kernel
theorem dX0_mixRound_188 : decode cX0_mixRound 188 = .ok (.getfield 13, 3) := by decide +kernel
theorem dX0_mixRound_191 : decode cX0_mixRound 191 = .ok (.iconst 3, 1) := by decide +kernel
theorem dX0_mixRound_192 : decode cX0_mixRound 192 = .ok (.iaload, 1) := by decide +kernel
theorem dX0_mixRound_193 : decode cX0_mixRound 193 = .ok (.invokestatic 72, 3) := by decide +kernel
theorem dX0_mixRound_196 : decode cX0_mixRound 196 = .ok (.aload_n 0, 1) := by decide +kernel
theorem dX0_mixRound_197 : decode cX0_mixRound 197 = .ok (.getfield 13, 3) := by decide +kernel
theorem dX0_mixRound_200 : decode cX0_mixRound 200 = .ok (.iconst 3, 1) := by decide +kernel
theorem dX0_mixRound_201 : decode cX0_mixRound 201 = .ok (.iaload, 1) := by decide +kernel
theorem dX0_mixRound_202 : decode cX0_mixRound 202 = .ok (.aload_n 0, 1) := by decide +kernel
theorem dX0_mixRound_203 : decode cX0_mixRound 203 = .ok (.getfield 13, 3) := by decide +kernel
theorem dX0_mixRound_206 : decode cX0_mixRound 206 = .ok (.iconst 2, 1) := by decide +kernel
theorem dX0_mixRound_207 : decode cX0_mixRound 207 = .ok (.iaload, 1) := by decide +kernel
theorem dX0_mixRound_208 : decode cX0_mixRound 208 = .ok (.invokestatic 72, 3) := by decide +kernel
theorem dX0_mixRound_211 : decode cX0_mixRound 211 = .ok (.invokestatic 45, 3) := by decide +kernel
theorem dX0_mixRound_214 : decode cX0_mixRound 214 = .ok (.aload_n 0, 1) := by decide +kernel
theorem dX0_mixRound_215 : decode cX0_mixRound 215 = .ok (.getfield 13, 3) := by decide +kernel
theorem dX0_mixRound_218 : decode cX0_mixRound 218 = .ok (.iconst 0, 1) := by decide +kernel
theorem dX0_mixRound_219 : decode cX0_mixRound 219 = .ok (.iload 4, 2) := by decide +kernel
theorem dX0_mixRound_221 : decode cX0_mixRound 221 = .ok (.iload 5, 2) := by decide +kernel
theorem dX0_mixRound_223 : decode cX0_mixRound 223 = .ok (.invokestatic 45, 3) := by decide +kernel
theorem dX0_mixRound_226 : decode cX0_mixRound 226 = .ok (.return_, 1) := by decide +kernel
theorem dX0_chosen_0 : decode cX0_chosen 0 = .ok (.aload_n 0, 1) := by decide +kernel
theorem dX0_chosen_1 : decode cX0_chosen 1 = .ok (.getfield 13, 3) := by decide +kernel
theorem dX0_chosen_4 : decode cX0_chosen 4 = .ok (.bipush 8, 2) := by decide +kernel
theorem dX0_chosen_6 : decode cX0_chosen 6 = .ok (.iload_n 1, 1) := by decide +kernel
theorem dX0_chosen_7 : decode cX0_chosen 7 = .ok (.iadd, 1) := by decide +kernel
theorem dX0_chosen_8 : decode cX0_chosen 8 = .ok (.iaload, 1) := by decide +kernel
theorem dX0_chosen_9 : decode cX0_chosen 9 = .ok (.istore_n 2, 1) := by decide +kernel
theorem dX0_chosen_10 : decode cX0_chosen 10 = .ok (.iload_n 2, 1) := by decide +kernel
theorem dX0_chosen_11 : decode cX0_chosen 11 = .ok (.aload_n 0, 1) := by decide +kernel
theorem dX0_chosen_12 : decode cX0_chosen 12 = .ok (.getfield 13, 3) := by decide +kernel
theorem dX0_chosen_15 : decode cX0_chosen 15 = .ok (.bipush 10, 2) := by decide +kernel
theorem dX0_chosen_17 : decode cX0_chosen 17 = .ok (.iload_n 1, 1) := by decide +kernel
theorem dX0_chosen_18 : decode cX0_chosen 18 = .ok (.iadd, 1) := by decide +kernel
theorem dX0_chosen_19 : decode cX0_chosen 19 = .ok (.iaload, 1) := by decide +kernel
theorem dX0_chosen_20 : decode cX0_chosen 20 = .ok (.iand, 1) := by decide +kernel
theorem dX0_chosen_21 : decode cX0_chosen 21 = .ok (.iload_n 2, 1) := by decide +kernel
theorem dX0_chosen_22 : decode cX0_chosen 22 = .ok (.iconst (-1), 1) := by decide +kernel
theorem dX0_chosen_23 : decode cX0_chosen 23 = .ok (.ixor, 1) := by decide +kernel
theorem dX0_chosen_24 : decode cX0_chosen 24 = .ok (.aload_n 0, 1) := by decide +kernel
theorem dX0_chosen_25 : decode cX0_chosen 25 = .ok (.getfield 13, 3) := by decide +kernel
theorem dX0_chosen_28 : decode cX0_chosen 28 = .ok (.bipush 12, 2) := by decide +kernel
theorem dX0_chosen_30 : decode cX0_chosen 30 = .ok (.iload_n 1, 1) := by decide +kernel
theorem dX0_chosen_31 : decode cX0_chosen 31 = .ok (.iadd, 1) := by decide +kernel
theorem dX0_chosen_32 : decode cX0_chosen 32 = .ok (.iaload, 1) := by decide +kernel
theorem dX0_chosen_33 : decode cX0_chosen 33 = .ok (.iand, 1) := by decide +kernel
theorem dX0_chosen_34 : decode cX0_chosen 34 = .ok (.ixor, 1) := by decide +kernel
theorem dX0_chosen_35 : decode cX0_chosen 35 = .ok (.ireturn, 1) := by decide +kernel
theorem dX0_majority_0 : decode cX0_majority 0 = .ok (.aload_n 0, 1) := by decide +kernel
theorem dX0_majority_1 : decode cX0_majority 1 = .ok (.getfield 13, 3) := by decide +kernel
theorem dX0_majority_4 : decode cX0_majority 4 = .ok (.iconst 0, 1) := by decide +kernel
theorem dX0_majority_5 : decode cX0_majority 5 = .ok (.iload_n 1, 1) := by decide +kernel
theorem dX0_majority_6 : decode cX0_majority 6 = .ok (.iadd, 1) := by decide +kernel
theorem dX0_majority_7 : decode cX0_majority 7 = .ok (.iaload, 1) := by decide +kernel
theorem dX0_majority_8 : decode cX0_majority 8 = .ok (.istore_n 2, 1) := by decide +kernel
theorem dX0_majority_9 : decode cX0_majority 9 = .ok (.aload_n 0, 1) := by decide +kernel
theorem dX0_majority_10 : decode cX0_majority 10 = .ok (.getfield 13, 3) := by decide +kernel
theorem dX0_majority_13 : decode cX0_majority 13 = .ok (.iconst 2, 1) := by decide +kernel
theorem dX0_majority_14 : decode cX0_majority 14 = .ok (.iload_n 1, 1) := by decide +kernel
theorem dX0_majority_15 : decode cX0_majority 15 = .ok (.iadd, 1) := by decide +kernel
theorem dX0_majority_16 : decode cX0_majority 16 = .ok (.iaload, 1) := by decide +kernel
theorem dX0_majority_17 : decode cX0_majority 17 = .ok (.istore_n 3, 1) := by decide +kernel
theorem dX0_majority_18 : decode cX0_majority 18 = .ok (.aload_n 0, 1) := by decide +kernel
theorem dX0_majority_19 : decode cX0_majority 19 = .ok (.getfield 13, 3) := by decide +kernel
theorem dX0_majority_22 : decode cX0_majority 22 = .ok (.iconst 4, 1) := by decide +kernel
theorem dX0_majority_23 : decode cX0_majority 23 = .ok (.iload_n 1, 1) := by decide +kernel
theorem dX0_majority_24 : decode cX0_majority 24 = .ok (.iadd, 1) := by decide +kernel
theorem dX0_majority_25 : decode cX0_majority 25 = .ok (.iaload, 1) := by decide +kernel
theorem dX0_majority_26 : decode cX0_majority 26 = .ok (.istore 4, 2) := by decide +kernel
theorem dX0_majority_28 : decode cX0_majority 28 = .ok (.iload_n 2, 1) := by decide +kernel
theorem dX0_majority_29 : decode cX0_majority 29 = .ok (.iload_n 3, 1) := by decide +kernel
theorem dX0_majority_30 : decode cX0_majority 30 = .ok (.iand, 1) := by decide +kernel
theorem dX0_majority_31 : decode cX0_majority 31 = .ok (.iload_n 2, 1) := by decide +kernel
theorem dX0_majority_32 : decode cX0_majority 32 = .ok (.iload 4, 2) := by decide +kernel
theorem dX0_majority_34 : decode cX0_majority 34 = .ok (.iand, 1) := by decide +kernel
theorem dX0_majority_35 : decode cX0_majority 35 = .ok (.ixor, 1) := by decide +kernel
theorem dX0_majority_36 : decode cX0_majority 36 = .ok (.iload_n 3, 1) := by decide +kernel
theorem dX0_majority_37 : decode cX0_majority 37 = .ok (.iload 4, 2) := by decide +kernel
theorem dX0_majority_39 : decode cX0_majority 39 = .ok (.iand, 1) := by decide +kernel
theorem dX0_majority_40 : decode cX0_majority 40 = .ok (.ixor, 1) := by decide +kernel
theorem dX0_majority_41 : decode cX0_majority 41 = .ok (.ireturn, 1) := by decide +kernel
set_option maxRecDepth 20000 in
theorem ggX0_turnsOfA_X2_turned : GoodIn wsX0_turnsOfA wsX2_turned := goodIn_r _ [3, 4, 5, 2, 6] (by decide +kernel) (by decide +kernel)
set_option maxRecDepth 20000 in
theorem gX0_turnsOfA_X2_turned_n51 : GoodIn wsX0_turnsOfA (wsX2_turned) := ggX0_turnsOfA_X2_turned
theorem dX0_turnsOfA_0 : decode cX0_turnsOfA 0 = .ok (.iload_n 0, 1) := by decide +kernel
theorem dX0_turnsOfA_1 : decode cX0_turnsOfA 1 = .ok (.iload_n 1, 1) := by decide +kernel
theorem dX0_turnsOfA_2 : decode cX0_turnsOfA 2 = .ok (.bipush 28, 2) := by decide +kernel
theorem dX0_turnsOfA_4 : decode cX0_turnsOfA 4 = .ok (.invokestatic 51, 3) := by decide +kernel
theorem dX0_turnsOfA_7 : decode cX0_turnsOfA 7 = .ok (.iload_n 0, 1) := by decide +kernel
theorem dX0_turnsOfA_8 : decode cX0_turnsOfA 8 = .ok (.iload_n 1, 1) := by decide +kernel
theorem dX0_turnsOfA_9 : decode cX0_turnsOfA 9 = .ok (.bipush 34, 2) := by decide +kernel
theorem dX0_turnsOfA_11 : decode cX0_turnsOfA 11 = .ok (.invokestatic 51, 3) := by decide +kernel
theorem dX0_turnsOfA_14 : decode cX0_turnsOfA 14 = .ok (.ixor, 1) := by decide +kernel
theorem dX0_turnsOfA_15 : decode cX0_turnsOfA 15 = .ok (.iload_n 0, 1) := by decide +kernel
theorem dX0_turnsOfA_16 : decode cX0_turnsOfA 16 = .ok (.iload_n 1, 1) := by decide +kernel
theorem dX0_turnsOfA_17 : decode cX0_turnsOfA 17 = .ok (.bipush 39, 2) := by decide +kernel
theorem dX0_turnsOfA_19 : decode cX0_turnsOfA 19 = .ok (.invokestatic 51, 3) := by decide +kernel
theorem dX0_turnsOfA_22 : decode cX0_turnsOfA 22 = .ok (.ixor, 1) := by decide +kernel
theorem dX0_turnsOfA_23 : decode cX0_turnsOfA 23 = .ok (.ireturn, 1) := by decide +kernel
set_option maxRecDepth 20000 in
theorem ggX0_turnsOfE_X2_turned : GoodIn wsX0_turnsOfE wsX2_turned := goodIn_r _ [3, 4, 5, 2, 6] (by decide +kernel) (by decide +kernel)
set_option maxRecDepth 20000 in
theorem gX0_turnsOfE_X2_turned_n51 : GoodIn wsX0_turnsOfE (wsX2_turned) := ggX0_turnsOfE_X2_turned
theorem dX0_turnsOfE_0 : decode cX0_turnsOfE 0 = .ok (.iload_n 0, 1) := by decide +kernel
theorem dX0_turnsOfE_1 : decode cX0_turnsOfE 1 = .ok (.iload_n 1, 1) := by decide +kernel
theorem dX0_turnsOfE_2 : decode cX0_turnsOfE 2 = .ok (.bipush 14, 2) := by decide +kernel
theorem dX0_turnsOfE_4 : decode cX0_turnsOfE 4 = .ok (.invokestatic 51, 3) := by decide +kernel
theorem dX0_turnsOfE_7 : decode cX0_turnsOfE 7 = .ok (.iload_n 0, 1) := by decide +kernel
theorem dX0_turnsOfE_8 : decode cX0_turnsOfE 8 = .ok (.iload_n 1, 1) := by decide +kernel
theorem dX0_turnsOfE_9 : decode cX0_turnsOfE 9 = .ok (.bipush 18, 2) := by decide +kernel
theorem dX0_turnsOfE_11 : decode cX0_turnsOfE 11 = .ok (.invokestatic 51, 3) := by decide +kernel
theorem dX0_turnsOfE_14 : decode cX0_turnsOfE 14 = .ok (.ixor, 1) := by decide +kernel
theorem dX0_turnsOfE_15 : decode cX0_turnsOfE 15 = .ok (.iload_n 0, 1) := by decide +kernel
theorem dX0_turnsOfE_16 : decode cX0_turnsOfE 16 = .ok (.iload_n 1, 1) := by decide +kernel
theorem dX0_turnsOfE_17 : decode cX0_turnsOfE 17 = .ok (.bipush 41, 2) := by decide +kernel
theorem dX0_turnsOfE_19 : decode cX0_turnsOfE 19 = .ok (.invokestatic 51, 3) := by decide +kernel
theorem dX0_turnsOfE_22 : decode cX0_turnsOfE 22 = .ok (.ixor, 1) := by decide +kernel
theorem dX0_turnsOfE_23 : decode cX0_turnsOfE 23 = .ok (.ireturn, 1) := by decide +kernel
theorem dX1_init_0 : decode cX1_init 0 = .ok (.aload_n 0, 1) := by decide +kernel
theorem dX1_init_1 : decode cX1_init 1 = .ok (.invokespecial 1, 3) := by decide +kernel
theorem dX1_init_4 : decode cX1_init 4 = .ok (.aload_n 0, 1) := by decide +kernel
theorem dX1_init_5 : decode cX1_init 5 = .ok (.bipush 8, 2) := by decide +kernel
theorem dX1_init_7 : decode cX1_init 7 = .ok (.newarray .int, 2) := by decide +kernel
theorem dX1_init_9 : decode cX1_init 9 = .ok (.putfield 7, 3) := by decide +kernel
theorem dX1_init_12 : decode cX1_init 12 = .ok (.aload_n 0, 1) := by decide +kernel
theorem dX1_init_13 : decode cX1_init 13 = .ok (.iconst 0, 1) := by decide +kernel
theorem dX1_init_14 : decode cX1_init 14 = .ok (.putfield 13, 3) := by decide +kernel
theorem dX1_init_17 : decode cX1_init 17 = .ok (.aload_n 0, 1) := by decide +kernel
theorem dX1_init_18 : decode cX1_init 18 = .ok (.iconst 0, 1) := by decide +kernel
theorem dX1_init_19 : decode cX1_init 19 = .ok (.putfield 17, 3) := by decide +kernel
theorem dX1_init_22 : decode cX1_init 22 = .ok (.aload_n 0, 1) := by decide +kernel
theorem dX1_init_23 : decode cX1_init 23 = .ok (.iconst 0, 1) := by decide +kernel
theorem dX1_init_24 : decode cX1_init 24 = .ok (.putfield 20, 3) := by decide +kernel
theorem dX1_init_27 : decode cX1_init 27 = .ok (.return_, 1) := by decide +kernel
theorem dX1_begin_0 : decode cX1_begin 0 = .ok (.iconst 0, 1) := by decide +kernel
theorem dX1_begin_1 : decode cX1_begin 1 = .ok (.istore_n 2, 1) := by decide +kernel
theorem dX1_begin_2 : decode cX1_begin 2 = .ok (.iload_n 2, 1) := by decide +kernel
theorem dX1_begin_3 : decode cX1_begin 3 = .ok (.bipush 6, 2) := by decide +kernel
theorem dX1_begin_5 : decode cX1_begin 5 = .ok (.if_icmp .gt 49, 3) := by decide +kernel
theorem dX1_begin_8 : decode cX1_begin 8 = .ok (.iload_n 2, 1) := by decide +kernel
theorem dX1_begin_9 : decode cX1_begin 9 = .ok (.iconst 2, 1) := by decide +kernel
theorem dX1_begin_10 : decode cX1_begin 10 = .ok (.iand, 1) := by decide +kernel
theorem dX1_begin_11 : decode cX1_begin 11 = .ok (.istore_n 3, 1) := by decide +kernel
theorem dX1_begin_12 : decode cX1_begin 12 = .ok (.aload_n 0, 1) := by decide +kernel
theorem dX1_begin_13 : decode cX1_begin 13 = .ok (.getfield 7, 3) := by decide +kernel
theorem dX1_begin_16 : decode cX1_begin 16 = .ok (.iload_n 2, 1) := by decide +kernel
theorem dX1_begin_17 : decode cX1_begin 17 = .ok (.getstatic 23, 3) := by decide +kernel
theorem dX1_begin_20 : decode cX1_begin 20 = .ok (.iload_n 2, 1) := by decide +kernel
theorem dX1_begin_21 : decode cX1_begin 21 = .ok (.iaload, 1) := by decide +kernel
theorem dX1_begin_22 : decode cX1_begin 22 = .ok (.aload_n 1, 1) := by decide +kernel
theorem dX1_begin_23 : decode cX1_begin 23 = .ok (.iload_n 3, 1) := by decide +kernel
theorem dX1_begin_24 : decode cX1_begin 24 = .ok (.iconst 1, 1) := by decide +kernel
theorem dX1_begin_25 : decode cX1_begin 25 = .ok (.iadd, 1) := by decide +kernel
theorem dX1_begin_26 : decode cX1_begin 26 = .ok (.iaload, 1) := by decide +kernel
theorem dX1_begin_27 : decode cX1_begin 27 = .ok (.ixor, 1) := by decide +kernel
theorem dX1_begin_28 : decode cX1_begin 28 = .ok (.iastore, 1) := by decide +kernel
theorem dX1_begin_29 : decode cX1_begin 29 = .ok (.aload_n 0, 1) := by decide +kernel
theorem dX1_begin_30 : decode cX1_begin 30 = .ok (.getfield 7, 3) := by decide +kernel
theorem dX1_begin_33 : decode cX1_begin 33 = .ok (.iload_n 2, 1) := by decide +kernel
theorem dX1_begin_34 : decode cX1_begin 34 = .ok (.iconst 1, 1) := by decide +kernel
theorem dX1_begin_35 : decode cX1_begin 35 = .ok (.iadd, 1) := by decide +kernel
theorem dX1_begin_36 : decode cX1_begin 36 = .ok (.getstatic 23, 3) := by decide +kernel
theorem dX1_begin_39 : decode cX1_begin 39 = .ok (.iload_n 2, 1) := by decide +kernel
theorem dX1_begin_40 : decode cX1_begin 40 = .ok (.iconst 1, 1) := by decide +kernel
theorem dX1_begin_41 : decode cX1_begin 41 = .ok (.iadd, 1) := by decide +kernel
theorem dX1_begin_42 : decode cX1_begin 42 = .ok (.iaload, 1) := by decide +kernel
theorem dX1_begin_43 : decode cX1_begin 43 = .ok (.aload_n 1, 1) := by decide +kernel
theorem dX1_begin_44 : decode cX1_begin 44 = .ok (.iload_n 3, 1) := by decide +kernel
theorem dX1_begin_45 : decode cX1_begin 45 = .ok (.iaload, 1) := by decide +kernel
theorem dX1_begin_46 : decode cX1_begin 46 = .ok (.ixor, 1) := by decide +kernel
theorem dX1_begin_47 : decode cX1_begin 47 = .ok (.iastore, 1) := by decide +kernel
theorem dX1_begin_48 : decode cX1_begin 48 = .ok (.iinc 2 2, 3) := by decide +kernel
theorem dX1_begin_51 : decode cX1_begin 51 = .ok (.goto (-49), 3) := by decide +kernel
theorem dX1_begin_54 : decode cX1_begin 54 = .ok (.aload_n 0, 1) := by decide +kernel
theorem dX1_begin_55 : decode cX1_begin 55 = .ok (.iconst 0, 1) := by decide +kernel
theorem dX1_begin_56 : decode cX1_begin 56 = .ok (.putfield 20, 3) := by decide +kernel
theorem dX1_begin_59 : decode cX1_begin 59 = .ok (.return_, 1) := by decide +kernel
set_option maxRecDepth 20000 in
theorem ggX1_take_X2_moved : GoodIn wsX1_take wsX2_moved := goodIn_r _ [6] (by decide +kernel) (by decide +kernel)
set_option maxRecDepth 20000 in
theorem gX1_take_X2_moved_n26 : GoodIn wsX1_take (wsX2_moved) := ggX1_take_X2_moved
set_option maxRecDepth 20000 in
theorem ggX1_take_X1_mixGroup : GoodIn wsX1_take wsX1_mixGroup := goodIn_r _ [11, 12, 1, 2, 13, 14, 15, 10, 16, 17, 18, 19, 20, 21, 5, 22, 23, 24, 25, 26, 27, 28, 29, 30, 31, 32, 4, 6, 33, 34, 35, 36] (by decide +kernel) (by decide +kernel)
set_option maxRecDepth 20000 in
theorem gX1_take_X1_mixGroup : GoodIn wsX1_take (wsV RX1 32 RX1 yX1_mixGroup wsX1_mixGroup) := goodIn_app (goodIn_of _ (by decide +kernel)) ggX1_take_X1_mixGroup
theorem dX1_take_0 : decode cX1_take 0 = .ok (.aload_n 0, 1) := by decide +kernel
theorem dX1_take_1 : decode cX1_take 1 = .ok (.aload_n 0, 1) := by decide +kernel
theorem dX1_take_2 : decode cX1_take 2 = .ok (.getfield 13, 3) := by decide +kernel
theorem dX1_take_5 : decode cX1_take 5 = .ok (.aload_n 0, 1) := by decide +kernel
theorem dX1_take_6 : decode cX1_take 6 = .ok (.getfield 17, 3) := by decide +kernel
theorem dX1_take_9 : decode cX1_take 9 = .ok (.bipush 8, 2) := by decide +kernel
theorem dX1_take_11 : decode cX1_take 11 = .ok (.invokestatic 26, 3) := by decide +kernel
theorem dX1_take_14 : decode cX1_take 14 = .ok (.putfield 17, 3) := by decide +kernel
theorem dX1_take_17 : decode cX1_take 17 = .ok (.aload_n 0, 1) := by decide +kernel
theorem dX1_take_18 : decode cX1_take 18 = .ok (.aload_n 0, 1) := by decide +kernel
theorem dX1_take_19 : decode cX1_take 19 = .ok (.getfield 13, 3) := by decide +kernel
theorem dX1_take_22 : decode cX1_take 22 = .ok (.bipush 8, 2) := by decide +kernel
theorem dX1_take_24 : decode cX1_take 24 = .ok (.iushr, 1) := by decide +kernel
theorem dX1_take_25 : decode cX1_take 25 = .ok (.iload_n 1, 1) := by decide +kernel
theorem dX1_take_26 : decode cX1_take 26 = .ok (.bipush 24, 2) := by decide +kernel
theorem dX1_take_28 : decode cX1_take 28 = .ok (.ishl, 1) := by decide +kernel
theorem dX1_take_29 : decode cX1_take 29 = .ok (.ior, 1) := by decide +kernel
theorem dX1_take_30 : decode cX1_take 30 = .ok (.putfield 13, 3) := by decide +kernel
theorem dX1_take_33 : decode cX1_take 33 = .ok (.aload_n 0, 1) := by decide +kernel
theorem dX1_take_34 : decode cX1_take 34 = .ok (.dup, 1) := by decide +kernel
theorem dX1_take_35 : decode cX1_take 35 = .ok (.getfield 20, 3) := by decide +kernel
theorem dX1_take_38 : decode cX1_take 38 = .ok (.iconst 1, 1) := by decide +kernel
theorem dX1_take_39 : decode cX1_take 39 = .ok (.iadd, 1) := by decide +kernel
theorem dX1_take_40 : decode cX1_take 40 = .ok (.putfield 20, 3) := by decide +kernel
theorem dX1_take_43 : decode cX1_take 43 = .ok (.aload_n 0, 1) := by decide +kernel
theorem dX1_take_44 : decode cX1_take 44 = .ok (.getfield 20, 3) := by decide +kernel
theorem dX1_take_47 : decode cX1_take 47 = .ok (.bipush 8, 2) := by decide +kernel
theorem dX1_take_49 : decode cX1_take 49 = .ok (.if_icmp .ne 12, 3) := by decide +kernel
theorem dX1_take_52 : decode cX1_take 52 = .ok (.aload_n 0, 1) := by decide +kernel
theorem dX1_take_53 : decode cX1_take 53 = .ok (.invokevirtual 32, 3) := by decide +kernel
theorem dX1_take_56 : decode cX1_take 56 = .ok (.aload_n 0, 1) := by decide +kernel
theorem dX1_take_57 : decode cX1_take 57 = .ok (.iconst 0, 1) := by decide +kernel
theorem dX1_take_58 : decode cX1_take 58 = .ok (.putfield 20, 3) := by decide +kernel
theorem dX1_take_61 : decode cX1_take 61 = .ok (.return_, 1) := by decide +kernel
set_option maxRecDepth 20000 in
theorem ggX1_end_X1_take : GoodIn wsX1_end wsX1_take := goodIn_r _ [6, 7, 8, 9, 10, 11, 12, 13, 14, 15, 5, 16, 1, 17, 18, 19, 20, 21, 22, 23, 24, 25, 26, 27, 28, 29, 30, 31, 32, 33, 34, 35, 36, 37, 38, 39, 40] (by decide +kernel) (by decide +kernel)
set_option maxRecDepth 20000 in
theorem gX1_end_X1_take : GoodIn wsX1_end (wsV RX1 35 RX1 yX1_take wsX1_take) := goodIn_app (goodIn_of _ (by decide +kernel)) ggX1_end_X1_take
set_option maxRecDepth 20000 in
theorem ggX1_end_X1_mixRound : GoodIn wsX1_end wsX1_mixRound := goodIn_r _ [20, 21, 22, 23, 5, 24, 1, 25, 11, 26, 27, 28, 29, 30, 31, 32, 33, 34, 35, 36, 10, 12, 37, 38, 39, 40] (by decide +kernel) (by decide +kernel)
set_option maxRecDepth 20000 in
theorem gX1_end_X1_mixRound : GoodIn wsX1_end (wsV RX1 39 RX1 yX1_mixRound wsX1_mixRound) := goodIn_app (goodIn_of _ (by decide +kernel)) ggX1_end_X1_mixRound
theorem dX1_end_0 : decode cX1_end 0 = .ok (.bipush 7, 2) := by decide +kernel
theorem dX1_end_2 : decode cX1_end 2 = .ok (.iload_n 1, 1) := by decide +kernel
theorem dX1_end_3 : decode cX1_end 3 = .ok (.isub, 1) := by decide +kernel
theorem dX1_end_4 : decode cX1_end 4 = .ok (.bipush 7, 2) := by decide +kernel
theorem dX1_end_6 : decode cX1_end 6 = .ok (.iand, 1) := by decide +kernel
theorem dX1_end_7 : decode cX1_end 7 = .ok (.istore_n 2, 1) := by decide +kernel
theorem dX1_end_8 : decode cX1_end 8 = .ok (.iconst 0, 1) := by decide +kernel
theorem dX1_end_9 : decode cX1_end 9 = .ok (.istore_n 3, 1) := by decide +kernel
theorem dX1_end_10 : decode cX1_end 10 = .ok (.iload_n 3, 1) := by decide +kernel
theorem dX1_end_11 : decode cX1_end 11 = .ok (.iload_n 2, 1) := by decide +kernel
theorem dX1_end_12 : decode cX1_end 12 = .ok (.if_icmp .ge 14, 3) := by decide +kernel
theorem dX1_end_15 : decode cX1_end 15 = .ok (.aload_n 0, 1) := by decide +kernel
theorem dX1_end_16 : decode cX1_end 16 = .ok (.iconst 0, 1) := by decide +kernel
theorem dX1_end_17 : decode cX1_end 17 = .ok (.invokevirtual 35, 3) := by decide +kernel
theorem dX1_end_20 : decode cX1_end 20 = .ok (.iinc 3 1, 3) := by decide +kernel
theorem dX1_end_23 : decode cX1_end 23 = .ok (.goto (-13), 3) := by decide +kernel
theorem dX1_end_26 : decode cX1_end 26 = .ok (.aload_n 0, 1) := by decide +kernel
theorem dX1_end_27 : decode cX1_end 27 = .ok (.iload_n 1, 1) := by decide +kernel
theorem dX1_end_28 : decode cX1_end 28 = .ok (.sipush 255, 3) := by decide +kernel
theorem dX1_end_31 : decode cX1_end 31 = .ok (.iand, 1) := by decide +kernel
theorem dX1_end_32 : decode cX1_end 32 = .ok (.invokevirtual 35, 3) := by decide +kernel
theorem dX1_end_35 : decode cX1_end 35 = .ok (.aload_n 0, 1) := by decide +kernel
theorem dX1_end_36 : decode cX1_end 36 = .ok (.getfield 7, 3) := by decide +kernel
theorem dX1_end_39 : decode cX1_end 39 = .ok (.iconst 5, 1) := by decide +kernel
theorem dX1_end_40 : decode cX1_end 40 = .ok (.dup2, 1) := by decide +kernel
theorem dX1_end_41 : decode cX1_end 41 = .ok (.iaload, 1) := by decide +kernel
theorem dX1_end_42 : decode cX1_end 42 = .ok (.sipush 255, 3) := by decide +kernel
theorem dX1_end_45 : decode cX1_end 45 = .ok (.ixor, 1) := by decide +kernel
theorem dX1_end_46 : decode cX1_end 46 = .ok (.iastore, 1) := by decide +kernel
theorem dX1_end_47 : decode cX1_end 47 = .ok (.iconst 0, 1) := by decide +kernel
theorem dX1_end_48 : decode cX1_end 48 = .ok (.istore_n 3, 1) := by decide +kernel
theorem dX1_end_49 : decode cX1_end 49 = .ok (.iload_n 3, 1) := by decide +kernel
theorem dX1_end_50 : decode cX1_end 50 = .ok (.iconst 4, 1) := by decide +kernel
theorem dX1_end_51 : decode cX1_end 51 = .ok (.if_icmp .ge 13, 3) := by decide +kernel
theorem dX1_end_54 : decode cX1_end 54 = .ok (.aload_n 0, 1) := by decide +kernel
theorem dX1_end_55 : decode cX1_end 55 = .ok (.invokevirtual 39, 3) := by decide +kernel
theorem dX1_end_58 : decode cX1_end 58 = .ok (.iinc 3 1, 3) := by decide +kernel
theorem dX1_end_61 : decode cX1_end 61 = .ok (.goto (-12), 3) := by decide +kernel
theorem dX1_end_64 : decode cX1_end 64 = .ok (.return_, 1) := by decide +kernel
theorem dX1_wordAt_0 : decode cX1_wordAt 0 = .ok (.aload_n 0, 1) := by decide +kernel
theorem dX1_wordAt_1 : decode cX1_wordAt 1 = .ok (.getfield 7, 3) := by decide +kernel
theorem dX1_wordAt_4 : decode cX1_wordAt 4 = .ok (.iconst 0, 1) := by decide +kernel
theorem dX1_wordAt_5 : decode cX1_wordAt 5 = .ok (.iload_n 1, 1) := by decide +kernel
theorem dX1_wordAt_6 : decode cX1_wordAt 6 = .ok (.iadd, 1) := by decide +kernel
theorem dX1_wordAt_7 : decode cX1_wordAt 7 = .ok (.iaload, 1) := by decide +kernel
theorem dX1_wordAt_8 : decode cX1_wordAt 8 = .ok (.aload_n 0, 1) := by decide +kernel
theorem dX1_wordAt_9 : decode cX1_wordAt 9 = .ok (.getfield 7, 3) := by decide +kernel
theorem dX1_wordAt_12 : decode cX1_wordAt 12 = .ok (.iconst 2, 1) := by decide +kernel
theorem dX1_wordAt_13 : decode cX1_wordAt 13 = .ok (.iload_n 1, 1) := by decide +kernel
theorem dX1_wordAt_14 : decode cX1_wordAt 14 = .ok (.iadd, 1) := by decide +kernel
theorem dX1_wordAt_15 : decode cX1_wordAt 15 = .ok (.iaload, 1) := by decide +kernel
theorem dX1_wordAt_16 : decode cX1_wordAt 16 = .ok (.ixor, 1) := by decide +kernel
theorem dX1_wordAt_17 : decode cX1_wordAt 17 = .ok (.aload_n 0, 1) := by decide +kernel
theorem dX1_wordAt_18 : decode cX1_wordAt 18 = .ok (.getfield 7, 3) := by decide +kernel
theorem dX1_wordAt_21 : decode cX1_wordAt 21 = .ok (.iconst 4, 1) := by decide +kernel
theorem dX1_wordAt_22 : decode cX1_wordAt 22 = .ok (.iload_n 1, 1) := by decide +kernel
theorem dX1_wordAt_23 : decode cX1_wordAt 23 = .ok (.iadd, 1) := by decide +kernel
theorem dX1_wordAt_24 : decode cX1_wordAt 24 = .ok (.iaload, 1) := by decide +kernel
theorem dX1_wordAt_25 : decode cX1_wordAt 25 = .ok (.ixor, 1) := by decide +kernel
theorem dX1_wordAt_26 : decode cX1_wordAt 26 = .ok (.aload_n 0, 1) := by decide +kernel
theorem dX1_wordAt_27 : decode cX1_wordAt 27 = .ok (.getfield 7, 3) := by decide +kernel
theorem dX1_wordAt_30 : decode cX1_wordAt 30 = .ok (.bipush 6, 2) := by decide +kernel
theorem dX1_wordAt_32 : decode cX1_wordAt 32 = .ok (.iload_n 1, 1) := by decide +kernel
theorem dX1_wordAt_33 : decode cX1_wordAt 33 = .ok (.iadd, 1) := by decide +kernel
theorem dX1_wordAt_34 : decode cX1_wordAt 34 = .ok (.iaload, 1) := by decide +kernel
theorem dX1_wordAt_35 : decode cX1_wordAt 35 = .ok (.ixor, 1) := by decide +kernel
theorem dX1_wordAt_36 : decode cX1_wordAt 36 = .ok (.ireturn, 1) := by decide +kernel
set_option maxRecDepth 20000 in
theorem ggX1_mixGroup_X1_mixRound : GoodIn wsX1_mixGroup wsX1_mixRound := goodIn_r _ [8, 9, 10, 11, 7, 12, 1, 13, 14, 15, 16, 17, 18, 19, 20, 21, 22, 23, 24, 25, 26, 27, 28, 29, 30, 31] (by decide +kernel) (by decide +kernel)
set_option maxRecDepth 20000 in
theorem gX1_mixGroup_X1_mixRound : GoodIn wsX1_mixGroup (wsV RX1 39 RX1 yX1_mixRound wsX1_mixRound) := goodIn_app (goodIn_of _ (by decide +kernel)) ggX1_mixGroup_X1_mixRound
theorem dX1_mixGroup_0 : decode cX1_mixGroup 0 = .ok (.aload_n 0, 1) := by decide +kernel
theorem dX1_mixGroup_1 : decode cX1_mixGroup 1 = .ok (.getfield 7, 3) := by decide +kernel
theorem dX1_mixGroup_4 : decode cX1_mixGroup 4 = .ok (.bipush 6, 2) := by decide +kernel
theorem dX1_mixGroup_6 : decode cX1_mixGroup 6 = .ok (.dup2, 1) := by decide +kernel
theorem dX1_mixGroup_7 : decode cX1_mixGroup 7 = .ok (.iaload, 1) := by decide +kernel
theorem dX1_mixGroup_8 : decode cX1_mixGroup 8 = .ok (.aload_n 0, 1) := by decide +kernel
theorem dX1_mixGroup_9 : decode cX1_mixGroup 9 = .ok (.getfield 13, 3) := by decide +kernel
theorem dX1_mixGroup_12 : decode cX1_mixGroup 12 = .ok (.ixor, 1) := by decide +kernel
theorem dX1_mixGroup_13 : decode cX1_mixGroup 13 = .ok (.iastore, 1) := by decide +kernel
theorem dX1_mixGroup_14 : decode cX1_mixGroup 14 = .ok (.aload_n 0, 1) := by decide +kernel
theorem dX1_mixGroup_15 : decode cX1_mixGroup 15 = .ok (.getfield 7, 3) := by decide +kernel
theorem dX1_mixGroup_18 : decode cX1_mixGroup 18 = .ok (.bipush 7, 2) := by decide +kernel
theorem dX1_mixGroup_20 : decode cX1_mixGroup 20 = .ok (.dup2, 1) := by decide +kernel
theorem dX1_mixGroup_21 : decode cX1_mixGroup 21 = .ok (.iaload, 1) := by decide +kernel
theorem dX1_mixGroup_22 : decode cX1_mixGroup 22 = .ok (.aload_n 0, 1) := by decide +kernel
theorem dX1_mixGroup_23 : decode cX1_mixGroup 23 = .ok (.getfield 17, 3) := by decide +kernel
theorem dX1_mixGroup_26 : decode cX1_mixGroup 26 = .ok (.ixor, 1) := by decide +kernel
theorem dX1_mixGroup_27 : decode cX1_mixGroup 27 = .ok (.iastore, 1) := by decide +kernel
theorem dX1_mixGroup_28 : decode cX1_mixGroup 28 = .ok (.aload_n 0, 1) := by decide +kernel
theorem dX1_mixGroup_29 : decode cX1_mixGroup 29 = .ok (.invokevirtual 39, 3) := by decide +kernel
theorem dX1_mixGroup_32 : decode cX1_mixGroup 32 = .ok (.aload_n 0, 1) := by decide +kernel
theorem dX1_mixGroup_33 : decode cX1_mixGroup 33 = .ok (.invokevirtual 39, 3) := by decide +kernel
theorem dX1_mixGroup_36 : decode cX1_mixGroup 36 = .ok (.aload_n 0, 1) := by decide +kernel
theorem dX1_mixGroup_37 : decode cX1_mixGroup 37 = .ok (.getfield 7, 3) := by decide +kernel
theorem dX1_mixGroup_40 : decode cX1_mixGroup 40 = .ok (.iconst 0, 1) := by decide +kernel
theorem dX1_mixGroup_41 : decode cX1_mixGroup 41 = .ok (.dup2, 1) := by decide +kernel
theorem dX1_mixGroup_42 : decode cX1_mixGroup 42 = .ok (.iaload, 1) := by decide +kernel
theorem dX1_mixGroup_43 : decode cX1_mixGroup 43 = .ok (.aload_n 0, 1) := by decide +kernel
theorem dX1_mixGroup_44 : decode cX1_mixGroup 44 = .ok (.getfield 13, 3) := by decide +kernel
theorem dX1_mixGroup_47 : decode cX1_mixGroup 47 = .ok (.ixor, 1) := by decide +kernel
theorem dX1_mixGroup_48 : decode cX1_mixGroup 48 = .ok (.iastore, 1) := by decide +kernel
theorem dX1_mixGroup_49 : decode cX1_mixGroup 49 = .ok (.aload_n 0, 1) := by decide +kernel
theorem dX1_mixGroup_50 : decode cX1_mixGroup 50 = .ok (.getfield 7, 3) := by decide +kernel
theorem dX1_mixGroup_53 : decode cX1_mixGroup 53 = .ok (.iconst 1, 1) := by decide +kernel
theorem dX1_mixGroup_54 : decode cX1_mixGroup 54 = .ok (.dup2, 1) := by decide +kernel
theorem dX1_mixGroup_55 : decode cX1_mixGroup 55 = .ok (.iaload, 1) := by decide +kernel
theorem dX1_mixGroup_56 : decode cX1_mixGroup 56 = .ok (.aload_n 0, 1) := by decide +kernel
theorem dX1_mixGroup_57 : decode cX1_mixGroup 57 = .ok (.getfield 17, 3) := by decide +kernel
theorem dX1_mixGroup_60 : decode cX1_mixGroup 60 = .ok (.ixor, 1) := by decide +kernel
theorem dX1_mixGroup_61 : decode cX1_mixGroup 61 = .ok (.iastore, 1) := by decide +kernel
theorem dX1_mixGroup_62 : decode cX1_mixGroup 62 = .ok (.return_, 1) := by decide +kernel
set_option maxRecDepth 20000 in
theorem ggX1_mixRound_X1_mixPair : GoodIn wsX1_mixRound wsX1_mixPair := goodIn_r _ [5, 6, 7, 8, 9, 10, 11, 12, 13, 14, 15, 4, 16, 17, 18, 19, 20, 21, 22, 23, 24, 25] (by decide +kernel) (by decide +kernel)
set_option maxRecDepth 20000 in
theorem gX1_mixRound_X1_mixPair : GoodIn wsX1_mixRound (wsV RX1 42 RX1 yX1_mixPair wsX1_mixPair) := goodIn_app (goodIn_of _ (by decide +kernel)) ggX1_mixRound_X1_mixPair
set_option maxRecDepth 20000 in
theorem ggX1_mixRound_X1_turnLeft : GoodIn wsX1_mixRound wsX1_turnLeft := goodIn_r _ [16, 6, 17, 8, 18, 19, 20, 21, 22, 23, 24, 25] (by decide +kernel) (by decide +kernel)
set_option maxRecDepth 20000 in
theorem gX1_mixRound_X1_turnLeft : GoodIn wsX1_mixRound (wsV RX1 46 RX1 yX1_turnLeft wsX1_turnLeft) := goodIn_app (goodIn_of _ (by decide +kernel)) ggX1_mixRound_X1_turnLeft
theorem dX1_mixRound_0 : decode cX1_mixRound 0 = .ok (.aload_n 0, 1) := by decide +kernel
theorem dX1_mixRound_1 : decode cX1_mixRound 1 = .ok (.iconst 0, 1) := by decide +kernel
theorem dX1_mixRound_2 : decode cX1_mixRound 2 = .ok (.iconst 2, 1) := by decide +kernel
theorem dX1_mixRound_3 : decode cX1_mixRound 3 = .ok (.bipush 13, 2) := by decide +kernel
theorem dX1_mixRound_5 : decode cX1_mixRound 5 = .ok (.invokevirtual 42, 3) := by decide +kernel
theorem dX1_mixRound_8 : decode cX1_mixRound 8 = .ok (.aload_n 0, 1) := by decide +kernel
theorem dX1_mixRound_9 : decode cX1_mixRound 9 = .ok (.iconst 0, 1) := by decide +kernel
theorem dX1_mixRound_10 : decode cX1_mixRound 10 = .ok (.bipush 32, 2) := by decide +kernel
theorem dX1_mixRound_12 : decode cX1_mixRound 12 = .ok (.invokevirtual 46, 3) := by decide +kernel
theorem dX1_mixRound_15 : decode cX1_mixRound 15 = .ok (.aload_n 0, 1) := by decide +kernel
theorem dX1_mixRound_16 : decode cX1_mixRound 16 = .ok (.iconst 4, 1) := by decide +kernel
theorem dX1_mixRound_17 : decode cX1_mixRound 17 = .ok (.bipush 6, 2) := by decide +kernel
theorem dX1_mixRound_19 : decode cX1_mixRound 19 = .ok (.bipush 16, 2) := by decide +kernel
theorem dX1_mixRound_21 : decode cX1_mixRound 21 = .ok (.invokevirtual 42, 3) := by decide +kernel
theorem dX1_mixRound_24 : decode cX1_mixRound 24 = .ok (.aload_n 0, 1) := by decide +kernel
theorem dX1_mixRound_25 : decode cX1_mixRound 25 = .ok (.iconst 0, 1) := by decide +kernel
theorem dX1_mixRound_26 : decode cX1_mixRound 26 = .ok (.bipush 6, 2) := by decide +kernel
theorem dX1_mixRound_28 : decode cX1_mixRound 28 = .ok (.bipush 21, 2) := by decide +kernel
theorem dX1_mixRound_30 : decode cX1_mixRound 30 = .ok (.invokevirtual 42, 3) := by decide +kernel
theorem dX1_mixRound_33 : decode cX1_mixRound 33 = .ok (.aload_n 0, 1) := by decide +kernel
theorem dX1_mixRound_34 : decode cX1_mixRound 34 = .ok (.iconst 4, 1) := by decide +kernel
theorem dX1_mixRound_35 : decode cX1_mixRound 35 = .ok (.iconst 2, 1) := by decide +kernel
theorem dX1_mixRound_36 : decode cX1_mixRound 36 = .ok (.bipush 17, 2) := by decide +kernel
theorem dX1_mixRound_38 : decode cX1_mixRound 38 = .ok (.invokevirtual 42, 3) := by decide +kernel
theorem dX1_mixRound_41 : decode cX1_mixRound 41 = .ok (.aload_n 0, 1) := by decide +kernel
theorem dX1_mixRound_42 : decode cX1_mixRound 42 = .ok (.iconst 4, 1) := by decide +kernel
theorem dX1_mixRound_43 : decode cX1_mixRound 43 = .ok (.bipush 32, 2) := by decide +kernel
theorem dX1_mixRound_45 : decode cX1_mixRound 45 = .ok (.invokevirtual 46, 3) := by decide +kernel
theorem dX1_mixRound_48 : decode cX1_mixRound 48 = .ok (.return_, 1) := by decide +kernel
set_option maxRecDepth 20000 in
theorem ggX1_mixPair_X2_addTo : GoodIn wsX1_mixPair wsX2_addTo := goodIn_r _ [4, 5, 6, 3, 7] (by decide +kernel) (by decide +kernel)
set_option maxRecDepth 20000 in
theorem gX1_mixPair_X2_addTo_n50 : GoodIn wsX1_mixPair (wsX2_addTo) := ggX1_mixPair_X2_addTo
end
section
set_option maxRecDepth 20000 in
theorem ggX1_mixPair_X1_turnLeft : GoodIn wsX1_mixPair wsX1_turnLeft := goodIn_r _ [12, 1, 13, 3, 14, 15, 16, 17, 18, 19, 20, 21] (by decide +kernel) (by decide +kernel)
set_option maxRecDepth 20000 in
theorem gX1_mixPair_X1_turnLeft : GoodIn wsX1_mixPair (wsV RX1 46 RX1 yX1_turnLeft wsX1_turnLeft) := goodIn_app (goodIn_of _ (by decide +kernel)) ggX1_mixPair_X1_turnLeft
theorem dX1_mixPair_0 : decode cX1_mixPair 0 = .ok (.aload_n 0, 1) := by decide +kernel
theorem dX1_mixPair_1 : decode cX1_mixPair 1 = .ok (.getfield 7, 3) := by decide +kernel
theorem dX1_mixPair_4 : decode cX1_mixPair 4 = .ok (.iload_n 1, 1) := by decide +kernel
theorem dX1_mixPair_5 : decode cX1_mixPair 5 = .ok (.aload_n 0, 1) := by decide +kernel
theorem dX1_mixPair_6 : decode cX1_mixPair 6 = .ok (.getfield 7, 3) := by decide +kernel
theorem dX1_mixPair_9 : decode cX1_mixPair 9 = .ok (.iload_n 2, 1) := by decide +kernel
theorem dX1_mixPair_10 : decode cX1_mixPair 10 = .ok (.iaload, 1) := by decide +kernel
theorem dX1_mixPair_11 : decode cX1_mixPair 11 = .ok (.aload_n 0, 1) := by decide +kernel
theorem dX1_mixPair_12 : decode cX1_mixPair 12 = .ok (.getfield 7, 3) := by decide +kernel
theorem dX1_mixPair_15 : decode cX1_mixPair 15 = .ok (.iload_n 2, 1) := by decide +kernel
theorem dX1_mixPair_16 : decode cX1_mixPair 16 = .ok (.iconst 1, 1) := by decide +kernel
theorem dX1_mixPair_17 : decode cX1_mixPair 17 = .ok (.iadd, 1) := by decide +kernel
theorem dX1_mixPair_18 : decode cX1_mixPair 18 = .ok (.iaload, 1) := by decide +kernel
theorem dX1_mixPair_19 : decode cX1_mixPair 19 = .ok (.invokestatic 50, 3) := by decide +kernel
theorem dX1_mixPair_22 : decode cX1_mixPair 22 = .ok (.aload_n 0, 1) := by decide +kernel
theorem dX1_mixPair_23 : decode cX1_mixPair 23 = .ok (.iload_n 2, 1) := by decide +kernel
theorem dX1_mixPair_24 : decode cX1_mixPair 24 = .ok (.iload_n 3, 1) := by decide +kernel
theorem dX1_mixPair_25 : decode cX1_mixPair 25 = .ok (.invokevirtual 46, 3) := by decide +kernel
theorem dX1_mixPair_28 : decode cX1_mixPair 28 = .ok (.aload_n 0, 1) := by decide +kernel
theorem dX1_mixPair_29 : decode cX1_mixPair 29 = .ok (.getfield 7, 3) := by decide +kernel
theorem dX1_mixPair_32 : decode cX1_mixPair 32 = .ok (.iload_n 2, 1) := by decide +kernel
theorem dX1_mixPair_33 : decode cX1_mixPair 33 = .ok (.dup2, 1) := by decide +kernel
theorem dX1_mixPair_34 : decode cX1_mixPair 34 = .ok (.iaload, 1) := by decide +kernel
theorem dX1_mixPair_35 : decode cX1_mixPair 35 = .ok (.aload_n 0, 1) := by decide +kernel
theorem dX1_mixPair_36 : decode cX1_mixPair 36 = .ok (.getfield 7, 3) := by decide +kernel
theorem dX1_mixPair_39 : decode cX1_mixPair 39 = .ok (.iload_n 1, 1) := by decide +kernel
theorem dX1_mixPair_40 : decode cX1_mixPair 40 = .ok (.iaload, 1) := by decide +kernel
theorem dX1_mixPair_41 : decode cX1_mixPair 41 = .ok (.ixor, 1) := by decide +kernel
theorem dX1_mixPair_42 : decode cX1_mixPair 42 = .ok (.iastore, 1) := by decide +kernel
theorem dX1_mixPair_43 : decode cX1_mixPair 43 = .ok (.aload_n 0, 1) := by decide +kernel
theorem dX1_mixPair_44 : decode cX1_mixPair 44 = .ok (.getfield 7, 3) := by decide +kernel
theorem dX1_mixPair_47 : decode cX1_mixPair 47 = .ok (.iload_n 2, 1) := by decide +kernel
theorem dX1_mixPair_48 : decode cX1_mixPair 48 = .ok (.iconst 1, 1) := by decide +kernel
theorem dX1_mixPair_49 : decode cX1_mixPair 49 = .ok (.iadd, 1) := by decide +kernel
theorem dX1_mixPair_50 : decode cX1_mixPair 50 = .ok (.dup2, 1) := by decide +kernel
theorem dX1_mixPair_51 : decode cX1_mixPair 51 = .ok (.iaload, 1) := by decide +kernel
theorem dX1_mixPair_52 : decode cX1_mixPair 52 = .ok (.aload_n 0, 1) := by decide +kernel
theorem dX1_mixPair_53 : decode cX1_mixPair 53 = .ok (.getfield 7, 3) := by decide +kernel
theorem dX1_mixPair_56 : decode cX1_mixPair 56 = .ok (.iload_n 1, 1) := by decide +kernel
theorem dX1_mixPair_57 : decode cX1_mixPair 57 = .ok (.iconst 1, 1) := by decide +kernel
theorem dX1_mixPair_58 : decode cX1_mixPair 58 = .ok (.iadd, 1) := by decide +kernel
theorem dX1_mixPair_59 : decode cX1_mixPair 59 = .ok (.iaload, 1) := by decide +kernel
theorem dX1_mixPair_60 : decode cX1_mixPair 60 = .ok (.ixor, 1) := by decide +kernel
theorem dX1_mixPair_61 : decode cX1_mixPair 61 = .ok (.iastore, 1) := by decide +kernel
theorem dX1_mixPair_62 : decode cX1_mixPair 62 = .ok (.return_, 1) := by decide +kernel
set_option maxRecDepth 20000 in
theorem ggX1_turnLeft_X2_turned : GoodIn wsX1_turnLeft wsX2_turned := goodIn_r _ [4, 5, 6, 3, 7] (by decide +kernel) (by decide +kernel)
set_option maxRecDepth 20000 in
theorem gX1_turnLeft_X2_turned_n54 : GoodIn wsX1_turnLeft (wsX2_turned) := ggX1_turnLeft_X2_turned
theorem dX1_turnLeft_0 : decode cX1_turnLeft 0 = .ok (.aload_n 0, 1) := by decide +kernel
theorem dX1_turnLeft_1 : decode cX1_turnLeft 1 = .ok (.getfield 7, 3) := by decide +kernel
theorem dX1_turnLeft_4 : decode cX1_turnLeft 4 = .ok (.iload_n 1, 1) := by decide +kernel
theorem dX1_turnLeft_5 : decode cX1_turnLeft 5 = .ok (.iaload, 1) := by decide +kernel
theorem dX1_turnLeft_6 : decode cX1_turnLeft 6 = .ok (.istore_n 3, 1) := by decide +kernel
theorem dX1_turnLeft_7 : decode cX1_turnLeft 7 = .ok (.aload_n 0, 1) := by decide +kernel
theorem dX1_turnLeft_8 : decode cX1_turnLeft 8 = .ok (.getfield 7, 3) := by decide +kernel
theorem dX1_turnLeft_11 : decode cX1_turnLeft 11 = .ok (.iload_n 1, 1) := by decide +kernel
theorem dX1_turnLeft_12 : decode cX1_turnLeft 12 = .ok (.iconst 1, 1) := by decide +kernel
theorem dX1_turnLeft_13 : decode cX1_turnLeft 13 = .ok (.iadd, 1) := by decide +kernel
theorem dX1_turnLeft_14 : decode cX1_turnLeft 14 = .ok (.iaload, 1) := by decide +kernel
theorem dX1_turnLeft_15 : decode cX1_turnLeft 15 = .ok (.istore 4, 2) := by decide +kernel
theorem dX1_turnLeft_17 : decode cX1_turnLeft 17 = .ok (.aload_n 0, 1) := by decide +kernel
theorem dX1_turnLeft_18 : decode cX1_turnLeft 18 = .ok (.getfield 7, 3) := by decide +kernel
theorem dX1_turnLeft_21 : decode cX1_turnLeft 21 = .ok (.iload_n 1, 1) := by decide +kernel
theorem dX1_turnLeft_22 : decode cX1_turnLeft 22 = .ok (.iload_n 3, 1) := by decide +kernel
theorem dX1_turnLeft_23 : decode cX1_turnLeft 23 = .ok (.iload 4, 2) := by decide +kernel
theorem dX1_turnLeft_25 : decode cX1_turnLeft 25 = .ok (.iload_n 2, 1) := by decide +kernel
theorem dX1_turnLeft_26 : decode cX1_turnLeft 26 = .ok (.ineg, 1) := by decide +kernel
theorem dX1_turnLeft_27 : decode cX1_turnLeft 27 = .ok (.invokestatic 54, 3) := by decide +kernel
theorem dX1_turnLeft_30 : decode cX1_turnLeft 30 = .ok (.iastore, 1) := by decide +kernel
theorem dX1_turnLeft_31 : decode cX1_turnLeft 31 = .ok (.aload_n 0, 1) := by decide +kernel
theorem dX1_turnLeft_32 : decode cX1_turnLeft 32 = .ok (.getfield 7, 3) := by decide +kernel
theorem dX1_turnLeft_35 : decode cX1_turnLeft 35 = .ok (.iload_n 1, 1) := by decide +kernel
theorem dX1_turnLeft_36 : decode cX1_turnLeft 36 = .ok (.iconst 1, 1) := by decide +kernel
theorem dX1_turnLeft_37 : decode cX1_turnLeft 37 = .ok (.iadd, 1) := by decide +kernel
theorem dX1_turnLeft_38 : decode cX1_turnLeft 38 = .ok (.iload 4, 2) := by decide +kernel
theorem dX1_turnLeft_40 : decode cX1_turnLeft 40 = .ok (.iload_n 3, 1) := by decide +kernel
theorem dX1_turnLeft_41 : decode cX1_turnLeft 41 = .ok (.iload_n 2, 1) := by decide +kernel
theorem dX1_turnLeft_42 : decode cX1_turnLeft 42 = .ok (.ineg, 1) := by decide +kernel
theorem dX1_turnLeft_43 : decode cX1_turnLeft 43 = .ok (.invokestatic 54, 3) := by decide +kernel
theorem dX1_turnLeft_46 : decode cX1_turnLeft 46 = .ok (.iastore, 1) := by decide +kernel
theorem dX1_turnLeft_47 : decode cX1_turnLeft 47 = .ok (.return_, 1) := by decide +kernel
set_option maxRecDepth 20000 in
theorem ggX2_init_X0_init : GoodIn wsX2_init wsX0_init := goodIn_r _ [19, 20, 2, 3, 12, 21, 22, 23, 24, 32, 33, 34, 35] (by decide +kernel) (by decide +kernel)
set_option maxRecDepth 20000 in
theorem gX2_init_X0_init_n9 : GoodIn wsX2_init (wsX0_init) := ggX2_init_X0_init
set_option maxRecDepth 20000 in
theorem ggX2_init_X1_init : GoodIn wsX2_init wsX1_init := goodIn_r _ [26, 27, 2, 3, 12, 28, 29, 30, 31, 43, 44, 45, 46] (by decide +kernel) (by decide +kernel)
set_option maxRecDepth 20000 in
theorem gX2_init_X1_init_n18 : GoodIn wsX2_init (wsX1_init) := ggX2_init_X1_init
theorem dX2_init_0 : decode cX2_init 0 = .ok (.aload_n 0, 1) := by decide +kernel
theorem dX2_init_1 : decode cX2_init 1 = .ok (.invokespecial 1, 3) := by decide +kernel
theorem dX2_init_4 : decode cX2_init 4 = .ok (.aload_n 0, 1) := by decide +kernel
theorem dX2_init_5 : decode cX2_init 5 = .ok (.new 7, 3) := by decide +kernel
theorem dX2_init_8 : decode cX2_init 8 = .ok (.dup, 1) := by decide +kernel
theorem dX2_init_9 : decode cX2_init 9 = .ok (.invokespecial 9, 3) := by decide +kernel
theorem dX2_init_12 : decode cX2_init 12 = .ok (.putfield 10, 3) := by decide +kernel
theorem dX2_init_15 : decode cX2_init 15 = .ok (.aload_n 0, 1) := by decide +kernel
theorem dX2_init_16 : decode cX2_init 16 = .ok (.new 16, 3) := by decide +kernel
theorem dX2_init_19 : decode cX2_init 19 = .ok (.dup, 1) := by decide +kernel
theorem dX2_init_20 : decode cX2_init 20 = .ok (.invokespecial 18, 3) := by decide +kernel
theorem dX2_init_23 : decode cX2_init 23 = .ok (.putfield 19, 3) := by decide +kernel
theorem dX2_init_26 : decode cX2_init 26 = .ok (.aload_n 0, 1) := by decide +kernel
theorem dX2_init_27 : decode cX2_init 27 = .ok (.iconst 4, 1) := by decide +kernel
theorem dX2_init_28 : decode cX2_init 28 = .ok (.newarray .int, 2) := by decide +kernel
theorem dX2_init_30 : decode cX2_init 30 = .ok (.putfield 23, 3) := by decide +kernel
theorem dX2_init_33 : decode cX2_init 33 = .ok (.aload_n 0, 1) := by decide +kernel
theorem dX2_init_34 : decode cX2_init 34 = .ok (.iconst 0, 1) := by decide +kernel
theorem dX2_init_35 : decode cX2_init 35 = .ok (.putfield 27, 3) := by decide +kernel
theorem dX2_init_38 : decode cX2_init 38 = .ok (.aload_n 0, 1) := by decide +kernel
theorem dX2_init_39 : decode cX2_init 39 = .ok (.iconst 0, 1) := by decide +kernel
theorem dX2_init_40 : decode cX2_init 40 = .ok (.putfield 31, 3) := by decide +kernel
theorem dX2_init_43 : decode cX2_init 43 = .ok (.aload_n 0, 1) := by decide +kernel
theorem dX2_init_44 : decode cX2_init 44 = .ok (.iconst 0, 1) := by decide +kernel
theorem dX2_init_45 : decode cX2_init 45 = .ok (.putfield 34, 3) := by decide +kernel
theorem dX2_init_48 : decode cX2_init 48 = .ok (.aload_n 0, 1) := by decide +kernel
theorem dX2_init_49 : decode cX2_init 49 = .ok (.iconst 0, 1) := by decide +kernel
theorem dX2_init_50 : decode cX2_init 50 = .ok (.putfield 38, 3) := by decide +kernel
theorem dX2_init_53 : decode cX2_init 53 = .ok (.return_, 1) := by decide +kernel
theorem dX2_init__0 : decode cX2_init_ 0 = .ok (.aload_n 0, 1) := by decide +kernel
theorem dX2_init__1 : decode cX2_init_ 1 = .ok (.iconst 1, 1) := by decide +kernel
theorem dX2_init__2 : decode cX2_init_ 2 = .ok (.putfield 27, 3) := by decide +kernel
theorem dX2_init__5 : decode cX2_init_ 5 = .ok (.return_, 1) := by decide +kernel
set_option maxRecDepth 20000 in
theorem ggX2_beginSha_X0_begin : GoodIn wsX2_beginSha wsX0_begin := goodIn_r _ [7, 8, 9, 10, 11, 12, 13, 14, 30, 31, 32, 33] (by decide +kernel) (by decide +kernel)
set_option maxRecDepth 20000 in
theorem gX2_beginSha_X0_begin : GoodIn wsX2_beginSha (wsV RX2 41 RX0 yX0_begin wsX0_begin) := goodIn_app (goodIn_of _ (by decide +kernel)) ggX2_beginSha_X0_begin
set_option maxRecDepth 20000 in
theorem ggX2_beginSha_X2_openAs : GoodIn wsX2_beginSha wsX2_openAs := goodIn_r _ [19, 20, 21, 22, 23, 24, 25, 26, 27, 28, 29] (by decide +kernel) (by decide +kernel)
set_option maxRecDepth 20000 in
theorem gX2_beginSha_X2_openAs : GoodIn wsX2_beginSha (wsV RX2 45 RX2 yX2_openAs wsX2_openAs) := goodIn_app (goodIn_of _ (by decide +kernel)) ggX2_beginSha_X2_openAs
theorem dX2_beginSha_0 : decode cX2_beginSha 0 = .ok (.aload_n 0, 1) := by decide +kernel
theorem dX2_beginSha_1 : decode cX2_beginSha 1 = .ok (.getfield 27, 3) := by decide +kernel
theorem dX2_beginSha_4 : decode cX2_beginSha 4 = .ok (.ifCond .eq 17, 3) := by decide +kernel
theorem dX2_beginSha_7 : decode cX2_beginSha 7 = .ok (.iload_n 1, 1) := by decide +kernel
theorem dX2_beginSha_8 : decode cX2_beginSha 8 = .ok (.sipush 512, 3) := by decide +kernel
theorem dX2_beginSha_11 : decode cX2_beginSha 11 = .ok (.if_icmp .eq 12, 3) := by decide +kernel
theorem dX2_beginSha_14 : decode cX2_beginSha 14 = .ok (.iload_n 1, 1) := by decide +kernel
theorem dX2_beginSha_15 : decode cX2_beginSha 15 = .ok (.sipush 384, 3) := by decide +kernel
theorem dX2_beginSha_18 : decode cX2_beginSha 18 = .ok (.if_icmp .eq 5, 3) := by decide +kernel
theorem dX2_beginSha_21 : decode cX2_beginSha 21 = .ok (.iconst 0, 1) := by decide +kernel
theorem dX2_beginSha_22 : decode cX2_beginSha 22 = .ok (.ireturn, 1) := by decide +kernel
theorem dX2_beginSha_23 : decode cX2_beginSha 23 = .ok (.aload_n 0, 1) := by decide +kernel
theorem dX2_beginSha_24 : decode cX2_beginSha 24 = .ok (.getfield 10, 3) := by decide +kernel
theorem dX2_beginSha_27 : decode cX2_beginSha 27 = .ok (.iload_n 1, 1) := by decide +kernel
theorem dX2_beginSha_28 : decode cX2_beginSha 28 = .ok (.sipush 384, 3) := by decide +kernel
theorem dX2_beginSha_31 : decode cX2_beginSha 31 = .ok (.if_icmp .ne 7, 3) := by decide +kernel
theorem dX2_beginSha_34 : decode cX2_beginSha 34 = .ok (.iconst 1, 1) := by decide +kernel
theorem dX2_beginSha_35 : decode cX2_beginSha 35 = .ok (.goto 4, 3) := by decide +kernel
theorem dX2_beginSha_38 : decode cX2_beginSha 38 = .ok (.iconst 0, 1) := by decide +kernel
theorem dX2_beginSha_39 : decode cX2_beginSha 39 = .ok (.invokevirtual 41, 3) := by decide +kernel
theorem dX2_beginSha_42 : decode cX2_beginSha 42 = .ok (.aload_n 0, 1) := by decide +kernel
theorem dX2_beginSha_43 : decode cX2_beginSha 43 = .ok (.iload_n 1, 1) := by decide +kernel
theorem dX2_beginSha_44 : decode cX2_beginSha 44 = .ok (.sipush 384, 3) := by decide +kernel
theorem dX2_beginSha_47 : decode cX2_beginSha 47 = .ok (.if_icmp .ne 7, 3) := by decide +kernel
theorem dX2_beginSha_50 : decode cX2_beginSha 50 = .ok (.iconst 2, 1) := by decide +kernel
theorem dX2_beginSha_51 : decode cX2_beginSha 51 = .ok (.goto 4, 3) := by decide +kernel
theorem dX2_beginSha_54 : decode cX2_beginSha 54 = .ok (.iconst 1, 1) := by decide +kernel
theorem dX2_beginSha_55 : decode cX2_beginSha 55 = .ok (.invokevirtual 45, 3) := by decide +kernel
theorem dX2_beginSha_58 : decode cX2_beginSha 58 = .ok (.iconst 1, 1) := by decide +kernel
theorem dX2_beginSha_59 : decode cX2_beginSha 59 = .ok (.ireturn, 1) := by decide +kernel
theorem dX2_sipKey_0 : decode cX2_sipKey 0 = .ok (.iload_n 1, 1) := by decide +kernel
theorem dX2_sipKey_1 : decode cX2_sipKey 1 = .ok (.ifCond .lt 8, 3) := by decide +kernel
theorem dX2_sipKey_4 : decode cX2_sipKey 4 = .ok (.iload_n 1, 1) := by decide +kernel
theorem dX2_sipKey_5 : decode cX2_sipKey 5 = .ok (.iconst 4, 1) := by decide +kernel
theorem dX2_sipKey_6 : decode cX2_sipKey 6 = .ok (.if_icmp .lt 5, 3) := by decide +kernel
theorem dX2_sipKey_9 : decode cX2_sipKey 9 = .ok (.iconst 0, 1) := by decide +kernel
theorem dX2_sipKey_10 : decode cX2_sipKey 10 = .ok (.ireturn, 1) := by decide +kernel
theorem dX2_sipKey_11 : decode cX2_sipKey 11 = .ok (.aload_n 0, 1) := by decide +kernel
theorem dX2_sipKey_12 : decode cX2_sipKey 12 = .ok (.getfield 23, 3) := by decide +kernel
theorem dX2_sipKey_15 : decode cX2_sipKey 15 = .ok (.iload_n 1, 1) := by decide +kernel
theorem dX2_sipKey_16 : decode cX2_sipKey 16 = .ok (.iload_n 2, 1) := by decide +kernel
theorem dX2_sipKey_17 : decode cX2_sipKey 17 = .ok (.iastore, 1) := by decide +kernel
theorem dX2_sipKey_18 : decode cX2_sipKey 18 = .ok (.iconst 1, 1) := by decide +kernel
theorem dX2_sipKey_19 : decode cX2_sipKey 19 = .ok (.ireturn, 1) := by decide +kernel
set_option maxRecDepth 20000 in
theorem ggX2_beginSip_X1_begin : GoodIn wsX2_beginSip wsX1_begin := goodIn_r _ [8, 9, 10, 11, 27, 28, 29, 30] (by decide +kernel) (by decide +kernel)
set_option maxRecDepth 20000 in
theorem gX2_beginSip_X1_begin : GoodIn wsX2_beginSip (wsV RX2 49 RX1 yX1_begin wsX1_begin) := goodIn_app (goodIn_of _ (by decide +kernel)) ggX2_beginSip_X1_begin
set_option maxRecDepth 20000 in
theorem ggX2_beginSip_X2_openAs : GoodIn wsX2_beginSip wsX2_openAs := goodIn_r _ [16, 17, 18, 19, 20, 21, 22, 23, 24, 25, 26] (by decide +kernel) (by decide +kernel)
set_option maxRecDepth 20000 in
theorem gX2_beginSip_X2_openAs : GoodIn wsX2_beginSip (wsV RX2 45 RX2 yX2_openAs wsX2_openAs) := goodIn_app (goodIn_of _ (by decide +kernel)) ggX2_beginSip_X2_openAs
theorem dX2_beginSip_0 : decode cX2_beginSip 0 = .ok (.aload_n 0, 1) := by decide +kernel
theorem dX2_beginSip_1 : decode cX2_beginSip 1 = .ok (.getfield 27, 3) := by decide +kernel
theorem dX2_beginSip_4 : decode cX2_beginSip 4 = .ok (.ifCond .ne 5, 3) := by decide +kernel
theorem dX2_beginSip_7 : decode cX2_beginSip 7 = .ok (.iconst 0, 1) := by decide +kernel
theorem dX2_beginSip_8 : decode cX2_beginSip 8 = .ok (.ireturn, 1) := by decide +kernel
theorem dX2_beginSip_9 : decode cX2_beginSip 9 = .ok (.aload_n 0, 1) := by decide +kernel
theorem dX2_beginSip_10 : decode cX2_beginSip 10 = .ok (.getfield 19, 3) := by decide +kernel
theorem dX2_beginSip_13 : decode cX2_beginSip 13 = .ok (.aload_n 0, 1) := by decide +kernel
theorem dX2_beginSip_14 : decode cX2_beginSip 14 = .ok (.getfield 23, 3) := by decide +kernel
theorem dX2_beginSip_17 : decode cX2_beginSip 17 = .ok (.invokevirtual 49, 3) := by decide +kernel
theorem dX2_beginSip_20 : decode cX2_beginSip 20 = .ok (.aload_n 0, 1) := by decide +kernel
theorem dX2_beginSip_21 : decode cX2_beginSip 21 = .ok (.iconst 3, 1) := by decide +kernel
theorem dX2_beginSip_22 : decode cX2_beginSip 22 = .ok (.invokevirtual 45, 3) := by decide +kernel
theorem dX2_beginSip_25 : decode cX2_beginSip 25 = .ok (.iconst 1, 1) := by decide +kernel
theorem dX2_beginSip_26 : decode cX2_beginSip 26 = .ok (.ireturn, 1) := by decide +kernel
set_option maxRecDepth 20000 in
theorem ggX2_update_X2_take : GoodIn wsX2_update wsX2_take := goodIn_r _ [6, 7, 8, 9, 10, 11, 12, 13, 14, 15, 16, 17, 18, 19, 5, 20, 21, 22, 23, 24, 25, 26, 27, 28, 29, 30, 31, 32, 33, 34, 35, 36, 37, 38, 39, 40, 41, 42, 43, 44, 45, 46, 47, 48, 49, 50, 51, 52, 53, 54, 55, 56, 57, 58, 59, 60, 61, 62, 63, 64, 65, 66, 67, 68, 69, 70, 71, 72, 73, 74, 75, 76, 77, 78, 79, 80, 81, 82, 83, 84, 85, 86, 87, 88, 89, 90, 91, 92, 93, 94, 95, 96, 97, 98, 99, 100] (by decide +kernel) (by decide +kernel)
set_option maxRecDepth 20000 in
theorem gX2_update_X2_take : GoodIn wsX2_update (wsV RX2 52 RX2 yX2_take wsX2_take) := goodIn_app (goodIn_of _ (by decide +kernel)) ggX2_update_X2_take
theorem dX2_update_0 : decode cX2_update 0 = .ok (.aload_n 0, 1) := by decide +kernel
theorem dX2_update_1 : decode cX2_update 1 = .ok (.getfield 31, 3) := by decide +kernel
theorem dX2_update_4 : decode cX2_update 4 = .ok (.ifCond .eq 14, 3) := by decide +kernel
theorem dX2_update_7 : decode cX2_update 7 = .ok (.iload_n 1, 1) := by decide +kernel
theorem dX2_update_8 : decode cX2_update 8 = .ok (.ifCond .lt 10, 3) := by decide +kernel
theorem dX2_update_11 : decode cX2_update 11 = .ok (.iload_n 1, 1) := by decide +kernel
theorem dX2_update_12 : decode cX2_update 12 = .ok (.sipush 255, 3) := by decide +kernel
theorem dX2_update_15 : decode cX2_update 15 = .ok (.if_icmp .le 5, 3) := by decide +kernel
theorem dX2_update_18 : decode cX2_update 18 = .ok (.iconst 0, 1) := by decide +kernel
theorem dX2_update_19 : decode cX2_update 19 = .ok (.ireturn, 1) := by decide +kernel
theorem dX2_update_20 : decode cX2_update 20 = .ok (.aload_n 0, 1) := by decide +kernel
theorem dX2_update_21 : decode cX2_update 21 = .ok (.iload_n 1, 1) := by decide +kernel
theorem dX2_update_22 : decode cX2_update 22 = .ok (.invokevirtual 52, 3) := by decide +kernel
theorem dX2_update_25 : decode cX2_update 25 = .ok (.iconst 1, 1) := by decide +kernel
theorem dX2_update_26 : decode cX2_update 26 = .ok (.ireturn, 1) := by decide +kernel
set_option maxRecDepth 20000 in
theorem ggX2_updates_X2_take : GoodIn wsX2_updates wsX2_take := goodIn_r _ [6, 7, 8, 9, 10, 11, 12, 13, 14, 15, 16, 17, 18, 19, 5, 20, 21, 22, 23, 24, 25, 26, 27, 28, 29, 30, 31, 32, 33, 34, 35, 36, 37, 38, 39, 40, 41, 42, 43, 44, 45, 46, 47, 48, 49, 50, 51, 52, 53, 54, 55, 56, 57, 58, 59, 60, 61, 62, 63, 64, 65, 66, 67, 68, 69, 70, 71, 72, 73, 74, 75, 76, 77, 78, 79, 80, 81, 82, 83, 84, 85, 86, 87, 88, 89, 90, 91, 92, 93, 94, 95, 96, 97, 98, 99, 100] (by decide +kernel) (by decide +kernel)
set_option maxRecDepth 20000 in
theorem gX2_updates_X2_take : GoodIn wsX2_updates (wsV RX2 52 RX2 yX2_take wsX2_take) := goodIn_app (goodIn_of _ (by decide +kernel)) ggX2_updates_X2_take
theorem dX2_updates_0 : decode cX2_updates 0 = .ok (.aload_n 0, 1) := by decide +kernel
theorem dX2_updates_1 : decode cX2_updates 1 = .ok (.getfield 31, 3) := by decide +kernel
theorem dX2_updates_4 : decode cX2_updates 4 = .ok (.ifCond .eq 14, 3) := by decide +kernel
theorem dX2_updates_7 : decode cX2_updates 7 = .ok (.iload_n 1, 1) := by decide +kernel
theorem dX2_updates_8 : decode cX2_updates 8 = .ok (.ifCond .lt 10, 3) := by decide +kernel
theorem dX2_updates_11 : decode cX2_updates 11 = .ok (.iload_n 1, 1) := by decide +kernel
theorem dX2_updates_12 : decode cX2_updates 12 = .ok (.sipush 2000, 3) := by decide +kernel
theorem dX2_updates_15 : decode cX2_updates 15 = .ok (.if_icmp .le 5, 3) := by decide +kernel
theorem dX2_updates_18 : decode cX2_updates 18 = .ok (.iconst 0, 1) := by decide +kernel
theorem dX2_updates_19 : decode cX2_updates 19 = .ok (.ireturn, 1) := by decide +kernel
theorem dX2_updates_20 : decode cX2_updates 20 = .ok (.iconst 0, 1) := by decide +kernel
theorem dX2_updates_21 : decode cX2_updates 21 = .ok (.istore 4, 2) := by decide +kernel
theorem dX2_updates_23 : decode cX2_updates 23 = .ok (.iload 4, 2) := by decide +kernel
theorem dX2_updates_25 : decode cX2_updates 25 = .ok (.iload_n 1, 1) := by decide +kernel
theorem dX2_updates_26 : decode cX2_updates 26 = .ok (.if_icmp .ge 23, 3) := by decide +kernel
theorem dX2_updates_29 : decode cX2_updates 29 = .ok (.aload_n 0, 1) := by decide +kernel
theorem dX2_updates_30 : decode cX2_updates 30 = .ok (.iload_n 2, 1) := by decide +kernel
theorem dX2_updates_31 : decode cX2_updates 31 = .ok (.iload 4, 2) := by decide +kernel
theorem dX2_updates_33 : decode cX2_updates 33 = .ok (.iload_n 3, 1) := by decide +kernel
theorem dX2_updates_34 : decode cX2_updates 34 = .ok (.imul, 1) := by decide +kernel
theorem dX2_updates_35 : decode cX2_updates 35 = .ok (.iadd, 1) := by decide +kernel
theorem dX2_updates_36 : decode cX2_updates 36 = .ok (.sipush 255, 3) := by decide +kernel
theorem dX2_updates_39 : decode cX2_updates 39 = .ok (.iand, 1) := by decide +kernel
theorem dX2_updates_40 : decode cX2_updates 40 = .ok (.invokevirtual 52, 3) := by decide +kernel
theorem dX2_updates_43 : decode cX2_updates 43 = .ok (.iinc 4 1, 3) := by decide +kernel
theorem dX2_updates_46 : decode cX2_updates 46 = .ok (.goto (-23), 3) := by decide +kernel
theorem dX2_updates_49 : decode cX2_updates 49 = .ok (.iconst 1, 1) := by decide +kernel
theorem dX2_updates_50 : decode cX2_updates 50 = .ok (.ireturn, 1) := by decide +kernel
set_option maxRecDepth 20000 in
theorem ggX2_close_X1_end : GoodIn wsX2_close wsX1_end := goodIn_r _ [10, 11, 12, 13, 14, 9, 15, 16, 17, 18, 19, 20, 21, 22, 23, 24, 25, 26, 27, 28, 29, 30, 31, 32, 33, 34, 35, 36, 37, 38, 39, 40, 41, 42, 43, 44, 45, 97, 98, 99, 100] (by decide +kernel) (by decide +kernel)
set_option maxRecDepth 20000 in
theorem gX2_close_X1_end : GoodIn wsX2_close (wsV RX2 55 RX1 yX1_end wsX1_end) := goodIn_app (goodIn_of _ (by decide +kernel)) ggX2_close_X1_end
set_option maxRecDepth 20000 in
theorem ggX2_close_X0_end : GoodIn wsX2_close wsX0_end := goodIn_r _ [50, 51, 52, 53, 54, 49, 55, 56, 57, 58, 59, 60, 61, 62, 63, 64, 65, 66, 67, 68, 69, 70, 43, 20, 44, 45, 19, 21, 34, 35, 36, 37, 38, 71, 72, 73, 74, 75, 76, 77, 78, 79, 80, 81, 82, 83, 84, 85, 86, 87, 88, 89, 101, 102, 103, 104] (by decide +kernel) (by decide +kernel)
set_option maxRecDepth 20000 in
theorem gX2_close_X0_end : GoodIn wsX2_close (wsV RX2 58 RX0 yX0_end wsX0_end) := goodIn_app (goodIn_of _ (by decide +kernel)) ggX2_close_X0_end
theorem dX2_close_0 : decode cX2_close 0 = .ok (.aload_n 0, 1) := by decide +kernel
theorem dX2_close_1 : decode cX2_close 1 = .ok (.getfield 31, 3) := by decide +kernel
theorem dX2_close_4 : decode cX2_close 4 = .ok (.ifCond .ne 5, 3) := by decide +kernel
theorem dX2_close_7 : decode cX2_close 7 = .ok (.iconst 0, 1) := by decide +kernel
theorem dX2_close_8 : decode cX2_close 8 = .ok (.ireturn, 1) := by decide +kernel
theorem dX2_close_9 : decode cX2_close 9 = .ok (.aload_n 0, 1) := by decide +kernel
theorem dX2_close_10 : decode cX2_close 10 = .ok (.getfield 34, 3) := by decide +kernel
theorem dX2_close_13 : decode cX2_close 13 = .ok (.iconst 3, 1) := by decide +kernel
theorem dX2_close_14 : decode cX2_close 14 = .ok (.if_icmp .ne 17, 3) := by decide +kernel
theorem dX2_close_17 : decode cX2_close 17 = .ok (.aload_n 0, 1) := by decide +kernel
theorem dX2_close_18 : decode cX2_close 18 = .ok (.getfield 19, 3) := by decide +kernel
theorem dX2_close_21 : decode cX2_close 21 = .ok (.aload_n 0, 1) := by decide +kernel
theorem dX2_close_22 : decode cX2_close 22 = .ok (.getfield 38, 3) := by decide +kernel
theorem dX2_close_25 : decode cX2_close 25 = .ok (.invokevirtual 55, 3) := by decide +kernel
theorem dX2_close_28 : decode cX2_close 28 = .ok (.goto 14, 3) := by decide +kernel
theorem dX2_close_31 : decode cX2_close 31 = .ok (.aload_n 0, 1) := by decide +kernel
theorem dX2_close_32 : decode cX2_close 32 = .ok (.getfield 10, 3) := by decide +kernel
theorem dX2_close_35 : decode cX2_close 35 = .ok (.aload_n 0, 1) := by decide +kernel
theorem dX2_close_36 : decode cX2_close 36 = .ok (.getfield 38, 3) := by decide +kernel
theorem dX2_close_39 : decode cX2_close 39 = .ok (.invokevirtual 58, 3) := by decide +kernel
theorem dX2_close_42 : decode cX2_close 42 = .ok (.aload_n 0, 1) := by decide +kernel
theorem dX2_close_43 : decode cX2_close 43 = .ok (.iconst 0, 1) := by decide +kernel
theorem dX2_close_44 : decode cX2_close 44 = .ok (.putfield 31, 3) := by decide +kernel
theorem dX2_close_47 : decode cX2_close 47 = .ok (.iconst 1, 1) := by decide +kernel
theorem dX2_close_48 : decode cX2_close 48 = .ok (.ireturn, 1) := by decide +kernel
set_option maxRecDepth 20000 in
theorem ggX2_word_X2_wordsOf : GoodIn wsX2_word wsX2_wordsOf := goodIn_r _ [8] (by decide +kernel) (by decide +kernel)
set_option maxRecDepth 20000 in
theorem gX2_word_X2_wordsOf : GoodIn wsX2_word (va_wsS RX2 59 yX2_wordsOf wsX2_wordsOf) := goodIn_app (goodIn_of _ (by decide +kernel)) ggX2_word_X2_wordsOf
set_option maxRecDepth 20000 in
theorem ggX2_word_X1_wordAt : GoodIn wsX2_word wsX1_wordAt := goodIn_r _ [13, 14, 28, 29, 30, 31] (by decide +kernel) (by decide +kernel)
set_option maxRecDepth 20000 in
theorem gX2_word_X1_wordAt : GoodIn wsX2_word (wsV RX2 63 RX1 yX1_wordAt wsX1_wordAt) := goodIn_app (goodIn_of _ (by decide +kernel)) ggX2_word_X1_wordAt
set_option maxRecDepth 20000 in
theorem ggX2_word_X0_wordAt : GoodIn wsX2_word wsX0_wordAt := goodIn_r _ [19, 20, 32, 33, 34, 35] (by decide +kernel) (by decide +kernel)
set_option maxRecDepth 20000 in
theorem gX2_word_X0_wordAt : GoodIn wsX2_word (wsV RX2 66 RX0 yX0_wordAt wsX0_wordAt) := goodIn_app (goodIn_of _ (by decide +kernel)) ggX2_word_X0_wordAt
theorem dX2_word_0 : decode cX2_word 0 = .ok (.aload_n 0, 1) := by decide +kernel
theorem dX2_word_1 : decode cX2_word 1 = .ok (.getfield 31, 3) := by decide +kernel
theorem dX2_word_4 : decode cX2_word 4 = .ok (.ifCond .ne 18, 3) := by decide +kernel
theorem dX2_word_7 : decode cX2_word 7 = .ok (.iload_n 1, 1) := by decide +kernel
theorem dX2_word_8 : decode cX2_word 8 = .ok (.ifCond .lt 14, 3) := by decide +kernel
theorem dX2_word_11 : decode cX2_word 11 = .ok (.iload_n 1, 1) := by decide +kernel
theorem dX2_word_12 : decode cX2_word 12 = .ok (.aload_n 0, 1) := by decide +kernel
theorem dX2_word_13 : decode cX2_word 13 = .ok (.getfield 34, 3) := by decide +kernel
theorem dX2_word_16 : decode cX2_word 16 = .ok (.invokestatic 59, 3) := by decide +kernel
theorem dX2_word_19 : decode cX2_word 19 = .ok (.if_icmp .lt 5, 3) := by decide +kernel
theorem dX2_word_22 : decode cX2_word 22 = .ok (.iconst 0, 1) := by decide +kernel
theorem dX2_word_23 : decode cX2_word 23 = .ok (.ireturn, 1) := by decide +kernel
theorem dX2_word_24 : decode cX2_word 24 = .ok (.aload_n 0, 1) := by decide +kernel
theorem dX2_word_25 : decode cX2_word 25 = .ok (.getfield 34, 3) := by decide +kernel
theorem dX2_word_28 : decode cX2_word 28 = .ok (.iconst 3, 1) := by decide +kernel
theorem dX2_word_29 : decode cX2_word 29 = .ok (.if_icmp .ne 14, 3) := by decide +kernel
theorem dX2_word_32 : decode cX2_word 32 = .ok (.aload_n 0, 1) := by decide +kernel
theorem dX2_word_33 : decode cX2_word 33 = .ok (.getfield 19, 3) := by decide +kernel
theorem dX2_word_36 : decode cX2_word 36 = .ok (.iload_n 1, 1) := by decide +kernel
theorem dX2_word_37 : decode cX2_word 37 = .ok (.invokevirtual 63, 3) := by decide +kernel
theorem dX2_word_40 : decode cX2_word 40 = .ok (.goto 11, 3) := by decide +kernel
theorem dX2_word_43 : decode cX2_word 43 = .ok (.aload_n 0, 1) := by decide +kernel
theorem dX2_word_44 : decode cX2_word 44 = .ok (.getfield 10, 3) := by decide +kernel
theorem dX2_word_47 : decode cX2_word 47 = .ok (.iload_n 1, 1) := by decide +kernel
theorem dX2_word_48 : decode cX2_word 48 = .ok (.invokevirtual 66, 3) := by decide +kernel
theorem dX2_word_51 : decode cX2_word 51 = .ok (.ireturn, 1) := by decide +kernel
theorem dX2_length_0 : decode cX2_length 0 = .ok (.aload_n 0, 1) := by decide +kernel
theorem dX2_length_1 : decode cX2_length 1 = .ok (.getfield 38, 3) := by decide +kernel
theorem dX2_length_4 : decode cX2_length 4 = .ok (.ireturn, 1) := by decide +kernel
theorem dX2_state_0 : decode cX2_state 0 = .ok (.aload_n 0, 1) := by decide +kernel
theorem dX2_state_1 : decode cX2_state 1 = .ok (.getfield 34, 3) := by decide +kernel
theorem dX2_state_4 : decode cX2_state 4 = .ok (.ifCond .eq 10, 3) := by decide +kernel
theorem dX2_state_7 : decode cX2_state 7 = .ok (.aload_n 0, 1) := by decide +kernel
theorem dX2_state_8 : decode cX2_state 8 = .ok (.getfield 31, 3) := by decide +kernel
theorem dX2_state_11 : decode cX2_state 11 = .ok (.ifCond .eq 10, 3) := by decide +kernel
theorem dX2_state_14 : decode cX2_state 14 = .ok (.aload_n 0, 1) := by decide +kernel
theorem dX2_state_15 : decode cX2_state 15 = .ok (.getfield 34, 3) := by decide +kernel
theorem dX2_state_18 : decode cX2_state 18 = .ok (.goto 9, 3) := by decide +kernel
theorem dX2_state_21 : decode cX2_state 21 = .ok (.aload_n 0, 1) := by decide +kernel
theorem dX2_state_22 : decode cX2_state 22 = .ok (.getfield 34, 3) := by decide +kernel
theorem dX2_state_25 : decode cX2_state 25 = .ok (.iconst 4, 1) := by decide +kernel
theorem dX2_state_26 : decode cX2_state 26 = .ok (.iadd, 1) := by decide +kernel
theorem dX2_state_27 : decode cX2_state 27 = .ok (.ireturn, 1) := by decide +kernel
theorem dX2_add64Lo_0 : decode cX2_add64Lo 0 = .ok (.iload_n 2, 1) := by decide +kernel
theorem dX2_add64Lo_1 : decode cX2_add64Lo 1 = .ok (.iload 4, 2) := by decide +kernel
theorem dX2_add64Lo_3 : decode cX2_add64Lo 3 = .ok (.iadd, 1) := by decide +kernel
theorem dX2_add64Lo_4 : decode cX2_add64Lo 4 = .ok (.ireturn, 1) := by decide +kernel
set_option maxRecDepth 20000 in
theorem ggX2_add64Hi_X2_carry : GoodIn wsX2_add64Hi wsX2_carry := goodIn_r _ [4] (by decide +kernel) (by decide +kernel)
set_option maxRecDepth 20000 in
theorem gX2_add64Hi_X2_carry : GoodIn wsX2_add64Hi (va_wsS RX2 67 yX2_carry wsX2_carry) := goodIn_app (goodIn_of _ (by decide +kernel)) ggX2_add64Hi_X2_carry
theorem dX2_add64Hi_0 : decode cX2_add64Hi 0 = .ok (.iload_n 1, 1) := by decide +kernel
theorem dX2_add64Hi_1 : decode cX2_add64Hi 1 = .ok (.iload_n 3, 1) := by decide +kernel
theorem dX2_add64Hi_2 : decode cX2_add64Hi 2 = .ok (.iadd, 1) := by decide +kernel
theorem dX2_add64Hi_3 : decode cX2_add64Hi 3 = .ok (.iload_n 2, 1) := by decide +kernel
theorem dX2_add64Hi_4 : decode cX2_add64Hi 4 = .ok (.iload 4, 2) := by decide +kernel
theorem dX2_add64Hi_6 : decode cX2_add64Hi 6 = .ok (.invokestatic 67, 3) := by decide +kernel
theorem dX2_add64Hi_9 : decode cX2_add64Hi 9 = .ok (.iadd, 1) := by decide +kernel
theorem dX2_add64Hi_10 : decode cX2_add64Hi 10 = .ok (.ireturn, 1) := by decide +kernel
set_option maxRecDepth 20000 in
theorem ggX2_rotr64Hi_X2_turned : GoodIn wsX2_rotr64Hi wsX2_turned := goodIn_r _ [4, 5, 6, 3, 7] (by decide +kernel) (by decide +kernel)
set_option maxRecDepth 20000 in
theorem gX2_rotr64Hi_X2_turned : GoodIn wsX2_rotr64Hi (va_wsS RX2 71 yX2_turned wsX2_turned) := goodIn_app (goodIn_of _ (by decide +kernel)) ggX2_rotr64Hi_X2_turned
theorem dX2_rotr64Hi_0 : decode cX2_rotr64Hi 0 = .ok (.iload_n 1, 1) := by decide +kernel
theorem dX2_rotr64Hi_1 : decode cX2_rotr64Hi 1 = .ok (.iload_n 2, 1) := by decide +kernel
theorem dX2_rotr64Hi_2 : decode cX2_rotr64Hi 2 = .ok (.iload_n 3, 1) := by decide +kernel
theorem dX2_rotr64Hi_3 : decode cX2_rotr64Hi 3 = .ok (.invokestatic 71, 3) := by decide +kernel
theorem dX2_rotr64Hi_6 : decode cX2_rotr64Hi 6 = .ok (.ireturn, 1) := by decide +kernel
set_option maxRecDepth 20000 in
theorem ggX2_rotr64Lo_X2_turned : GoodIn wsX2_rotr64Lo wsX2_turned := goodIn_r _ [4, 5, 6, 3, 7] (by decide +kernel) (by decide +kernel)
set_option maxRecDepth 20000 in
theorem gX2_rotr64Lo_X2_turned : GoodIn wsX2_rotr64Lo (va_wsS RX2 71 yX2_turned wsX2_turned) := goodIn_app (goodIn_of _ (by decide +kernel)) ggX2_rotr64Lo_X2_turned
theorem dX2_rotr64Lo_0 : decode cX2_rotr64Lo 0 = .ok (.iload_n 2, 1) := by decide +kernel
theorem dX2_rotr64Lo_1 : decode cX2_rotr64Lo 1 = .ok (.iload_n 1, 1) := by decide +kernel
theorem dX2_rotr64Lo_2 : decode cX2_rotr64Lo 2 = .ok (.iload_n 3, 1) := by decide +kernel
theorem dX2_rotr64Lo_3 : decode cX2_rotr64Lo 3 = .ok (.invokestatic 71, 3) := by decide +kernel
theorem dX2_rotr64Lo_6 : decode cX2_rotr64Lo 6 = .ok (.ireturn, 1) := by decide +kernel
theorem dX2_openAs_0 : decode cX2_openAs 0 = .ok (.aload_n 0, 1) := by decide +kernel
theorem dX2_openAs_1 : decode cX2_openAs 1 = .ok (.iload_n 1, 1) := by decide +kernel
theorem dX2_openAs_2 : decode cX2_openAs 2 = .ok (.putfield 34, 3) := by decide +kernel
theorem dX2_openAs_5 : decode cX2_openAs 5 = .ok (.aload_n 0, 1) := by decide +kernel
theorem dX2_openAs_6 : decode cX2_openAs 6 = .ok (.iconst 1, 1) := by decide +kernel
theorem dX2_openAs_7 : decode cX2_openAs 7 = .ok (.putfield 31, 3) := by decide +kernel
theorem dX2_openAs_10 : decode cX2_openAs 10 = .ok (.aload_n 0, 1) := by decide +kernel
theorem dX2_openAs_11 : decode cX2_openAs 11 = .ok (.iconst 0, 1) := by decide +kernel
theorem dX2_openAs_12 : decode cX2_openAs 12 = .ok (.putfield 38, 3) := by decide +kernel
theorem dX2_openAs_15 : decode cX2_openAs 15 = .ok (.return_, 1) := by decide +kernel
set_option maxRecDepth 20000 in
theorem ggX2_take_X1_take : GoodIn wsX2_take wsX1_take := goodIn_r _ [9, 10, 11, 12, 13, 14, 15, 16, 17, 18, 8, 19, 20, 21, 22, 23, 24, 25, 26, 27, 28, 29, 30, 31, 32, 33, 34, 35, 36, 37, 38, 39, 40, 88, 89, 90, 91] (by decide +kernel) (by decide +kernel)
set_option maxRecDepth 20000 in
theorem gX2_take_X1_take : GoodIn wsX2_take (wsV RX2 75 RX1 yX1_take wsX1_take) := goodIn_app (goodIn_of _ (by decide +kernel)) ggX2_take_X1_take
set_option maxRecDepth 20000 in
theorem ggX2_take_X0_take : GoodIn wsX2_take wsX0_take := goodIn_r _ [45, 46, 47, 48, 49, 50, 44, 51, 52, 53, 54, 55, 56, 57, 58, 59, 60, 61, 38, 14, 39, 40, 13, 15, 29, 30, 31, 32, 33, 62, 63, 64, 65, 66, 67, 68, 69, 70, 71, 72, 73, 74, 75, 76, 77, 78, 79, 80, 92, 93, 94, 95] (by decide +kernel) (by decide +kernel)
set_option maxRecDepth 20000 in
theorem gX2_take_X0_take : GoodIn wsX2_take (wsV RX2 76 RX0 yX0_take wsX0_take) := goodIn_app (goodIn_of _ (by decide +kernel)) ggX2_take_X0_take
theorem dX2_take_0 : decode cX2_take 0 = .ok (.aload_n 0, 1) := by decide +kernel
theorem dX2_take_1 : decode cX2_take 1 = .ok (.getfield 34, 3) := by decide +kernel
theorem dX2_take_4 : decode cX2_take 4 = .ok (.iconst 3, 1) := by decide +kernel
theorem dX2_take_5 : decode cX2_take 5 = .ok (.if_icmp .ne 14, 3) := by decide +kernel
theorem dX2_take_8 : decode cX2_take 8 = .ok (.aload_n 0, 1) := by decide +kernel
theorem dX2_take_9 : decode cX2_take 9 = .ok (.getfield 19, 3) := by decide +kernel
theorem dX2_take_12 : decode cX2_take 12 = .ok (.iload_n 1, 1) := by decide +kernel
theorem dX2_take_13 : decode cX2_take 13 = .ok (.invokevirtual 75, 3) := by decide +kernel
theorem dX2_take_16 : decode cX2_take 16 = .ok (.goto 11, 3) := by decide +kernel
theorem dX2_take_19 : decode cX2_take 19 = .ok (.aload_n 0, 1) := by decide +kernel
theorem dX2_take_20 : decode cX2_take 20 = .ok (.getfield 10, 3) := by decide +kernel
theorem dX2_take_23 : decode cX2_take 23 = .ok (.iload_n 1, 1) := by decide +kernel
theorem dX2_take_24 : decode cX2_take 24 = .ok (.invokevirtual 76, 3) := by decide +kernel
theorem dX2_take_27 : decode cX2_take 27 = .ok (.aload_n 0, 1) := by decide +kernel
theorem dX2_take_28 : decode cX2_take 28 = .ok (.dup, 1) := by decide +kernel
theorem dX2_take_29 : decode cX2_take 29 = .ok (.getfield 38, 3) := by decide +kernel
theorem dX2_take_32 : decode cX2_take 32 = .ok (.iconst 1, 1) := by decide +kernel
theorem dX2_take_33 : decode cX2_take 33 = .ok (.iadd, 1) := by decide +kernel
theorem dX2_take_34 : decode cX2_take 34 = .ok (.putfield 38, 3) := by decide +kernel
theorem dX2_take_37 : decode cX2_take 37 = .ok (.return_, 1) := by decide +kernel
theorem dX2_wordsOf_0 : decode cX2_wordsOf 0 = .ok (.iload_n 0, 1) := by decide +kernel
theorem dX2_wordsOf_1 : decode cX2_wordsOf 1 = .ok (.tableswitch 35 1 3 #[27, 30, 33], 27) := by decide +kernel
theorem dX2_wordsOf_28 : decode cX2_wordsOf 28 = .ok (.bipush 16, 2) := by decide +kernel
theorem dX2_wordsOf_30 : decode cX2_wordsOf 30 = .ok (.ireturn, 1) := by decide +kernel
theorem dX2_wordsOf_31 : decode cX2_wordsOf 31 = .ok (.bipush 12, 2) := by decide +kernel
theorem dX2_wordsOf_33 : decode cX2_wordsOf 33 = .ok (.ireturn, 1) := by decide +kernel
theorem dX2_wordsOf_34 : decode cX2_wordsOf 34 = .ok (.iconst 2, 1) := by decide +kernel
end
section
theorem dX2_wordsOf_35 : decode cX2_wordsOf 35 = .ok (.ireturn, 1) := by decide +kernel
theorem dX2_wordsOf_36 : decode cX2_wordsOf 36 = .ok (.iconst 0, 1) := by decide +kernel
theorem dX2_wordsOf_37 : decode cX2_wordsOf 37 = .ok (.ireturn, 1) := by decide +kernel
theorem dX2_carry_0 : decode cX2_carry 0 = .ok (.iload_n 0, 1) := by decide +kernel
theorem dX2_carry_1 : decode cX2_carry 1 = .ok (.iload_n 1, 1) := by decide +kernel
theorem dX2_carry_2 : decode cX2_carry 2 = .ok (.iand, 1) := by decide +kernel
theorem dX2_carry_3 : decode cX2_carry 3 = .ok (.iload_n 0, 1) := by decide +kernel
theorem dX2_carry_4 : decode cX2_carry 4 = .ok (.iload_n 1, 1) := by decide +kernel
theorem dX2_carry_5 : decode cX2_carry 5 = .ok (.ior, 1) := by decide +kernel
theorem dX2_carry_6 : decode cX2_carry 6 = .ok (.iload_n 0, 1) := by decide +kernel
theorem dX2_carry_7 : decode cX2_carry 7 = .ok (.iload_n 1, 1) := by decide +kernel
theorem dX2_carry_8 : decode cX2_carry 8 = .ok (.iadd, 1) := by decide +kernel
theorem dX2_carry_9 : decode cX2_carry 9 = .ok (.iconst (-1), 1) := by decide +kernel
theorem dX2_carry_10 : decode cX2_carry 10 = .ok (.ixor, 1) := by decide +kernel
theorem dX2_carry_11 : decode cX2_carry 11 = .ok (.iand, 1) := by decide +kernel
theorem dX2_carry_12 : decode cX2_carry 12 = .ok (.ior, 1) := by decide +kernel
theorem dX2_carry_13 : decode cX2_carry 13 = .ok (.bipush 31, 2) := by decide +kernel
theorem dX2_carry_15 : decode cX2_carry 15 = .ok (.iushr, 1) := by decide +kernel
theorem dX2_carry_16 : decode cX2_carry 16 = .ok (.ireturn, 1) := by decide +kernel
set_option maxRecDepth 20000 in
theorem ggX2_addTo_X2_carry : GoodIn wsX2_addTo wsX2_carry := goodIn_r _ [4] (by decide +kernel) (by decide +kernel)
set_option maxRecDepth 20000 in
theorem gX2_addTo_X2_carry : GoodIn wsX2_addTo (va_wsS RX2 67 yX2_carry wsX2_carry) := goodIn_app (goodIn_of _ (by decide +kernel)) ggX2_addTo_X2_carry
theorem dX2_addTo_0 : decode cX2_addTo 0 = .ok (.aload_n 0, 1) := by decide +kernel
theorem dX2_addTo_1 : decode cX2_addTo 1 = .ok (.iload_n 1, 1) := by decide +kernel
theorem dX2_addTo_2 : decode cX2_addTo 2 = .ok (.dup2, 1) := by decide +kernel
theorem dX2_addTo_3 : decode cX2_addTo 3 = .ok (.iaload, 1) := by decide +kernel
theorem dX2_addTo_4 : decode cX2_addTo 4 = .ok (.iload_n 2, 1) := by decide +kernel
theorem dX2_addTo_5 : decode cX2_addTo 5 = .ok (.aload_n 0, 1) := by decide +kernel
theorem dX2_addTo_6 : decode cX2_addTo 6 = .ok (.iload_n 1, 1) := by decide +kernel
theorem dX2_addTo_7 : decode cX2_addTo 7 = .ok (.iconst 1, 1) := by decide +kernel
theorem dX2_addTo_8 : decode cX2_addTo 8 = .ok (.iadd, 1) := by decide +kernel
theorem dX2_addTo_9 : decode cX2_addTo 9 = .ok (.iaload, 1) := by decide +kernel
theorem dX2_addTo_10 : decode cX2_addTo 10 = .ok (.iload_n 3, 1) := by decide +kernel
theorem dX2_addTo_11 : decode cX2_addTo 11 = .ok (.invokestatic 67, 3) := by decide +kernel
theorem dX2_addTo_14 : decode cX2_addTo 14 = .ok (.iadd, 1) := by decide +kernel
theorem dX2_addTo_15 : decode cX2_addTo 15 = .ok (.iadd, 1) := by decide +kernel
theorem dX2_addTo_16 : decode cX2_addTo 16 = .ok (.iastore, 1) := by decide +kernel
theorem dX2_addTo_17 : decode cX2_addTo 17 = .ok (.aload_n 0, 1) := by decide +kernel
theorem dX2_addTo_18 : decode cX2_addTo 18 = .ok (.iload_n 1, 1) := by decide +kernel
theorem dX2_addTo_19 : decode cX2_addTo 19 = .ok (.iconst 1, 1) := by decide +kernel
theorem dX2_addTo_20 : decode cX2_addTo 20 = .ok (.iadd, 1) := by decide +kernel
theorem dX2_addTo_21 : decode cX2_addTo 21 = .ok (.dup2, 1) := by decide +kernel
theorem dX2_addTo_22 : decode cX2_addTo 22 = .ok (.iaload, 1) := by decide +kernel
theorem dX2_addTo_23 : decode cX2_addTo 23 = .ok (.iload_n 3, 1) := by decide +kernel
theorem dX2_addTo_24 : decode cX2_addTo 24 = .ok (.iadd, 1) := by decide +kernel
theorem dX2_addTo_25 : decode cX2_addTo 25 = .ok (.iastore, 1) := by decide +kernel
theorem dX2_addTo_26 : decode cX2_addTo 26 = .ok (.return_, 1) := by decide +kernel
theorem dX2_moved_0 : decode cX2_moved 0 = .ok (.iload_n 1, 1) := by decide +kernel
theorem dX2_moved_1 : decode cX2_moved 1 = .ok (.iload_n 2, 1) := by decide +kernel
theorem dX2_moved_2 : decode cX2_moved 2 = .ok (.iushr, 1) := by decide +kernel
theorem dX2_moved_3 : decode cX2_moved 3 = .ok (.iload_n 0, 1) := by decide +kernel
theorem dX2_moved_4 : decode cX2_moved 4 = .ok (.iconst 1, 1) := by decide +kernel
theorem dX2_moved_5 : decode cX2_moved 5 = .ok (.ishl, 1) := by decide +kernel
theorem dX2_moved_6 : decode cX2_moved 6 = .ok (.bipush 31, 2) := by decide +kernel
theorem dX2_moved_8 : decode cX2_moved 8 = .ok (.iload_n 2, 1) := by decide +kernel
theorem dX2_moved_9 : decode cX2_moved 9 = .ok (.isub, 1) := by decide +kernel
theorem dX2_moved_10 : decode cX2_moved 10 = .ok (.ishl, 1) := by decide +kernel
theorem dX2_moved_11 : decode cX2_moved 11 = .ok (.ior, 1) := by decide +kernel
theorem dX2_moved_12 : decode cX2_moved 12 = .ok (.ireturn, 1) := by decide +kernel
set_option maxRecDepth 20000 in
theorem ggX2_turned_X2_moved : GoodIn wsX2_turned wsX2_moved := goodIn_r _ [4] (by decide +kernel) (by decide +kernel)
set_option maxRecDepth 20000 in
theorem gX2_turned_X2_moved : GoodIn wsX2_turned (va_wsS RX2 77 yX2_moved wsX2_moved) := goodIn_app (goodIn_of _ (by decide +kernel)) ggX2_turned_X2_moved
theorem dX2_turned_0 : decode cX2_turned 0 = .ok (.iload_n 2, 1) := by decide +kernel
theorem dX2_turned_1 : decode cX2_turned 1 = .ok (.bipush 31, 2) := by decide +kernel
theorem dX2_turned_3 : decode cX2_turned 3 = .ok (.iand, 1) := by decide +kernel
theorem dX2_turned_4 : decode cX2_turned 4 = .ok (.istore_n 3, 1) := by decide +kernel
theorem dX2_turned_5 : decode cX2_turned 5 = .ok (.iload_n 2, 1) := by decide +kernel
theorem dX2_turned_6 : decode cX2_turned 6 = .ok (.bipush 32, 2) := by decide +kernel
theorem dX2_turned_8 : decode cX2_turned 8 = .ok (.iand, 1) := by decide +kernel
theorem dX2_turned_9 : decode cX2_turned 9 = .ok (.ifCond .ne 12, 3) := by decide +kernel
theorem dX2_turned_12 : decode cX2_turned 12 = .ok (.iload_n 1, 1) := by decide +kernel
theorem dX2_turned_13 : decode cX2_turned 13 = .ok (.iload_n 0, 1) := by decide +kernel
theorem dX2_turned_14 : decode cX2_turned 14 = .ok (.iload_n 3, 1) := by decide +kernel
theorem dX2_turned_15 : decode cX2_turned 15 = .ok (.invokestatic 77, 3) := by decide +kernel
theorem dX2_turned_18 : decode cX2_turned 18 = .ok (.goto 9, 3) := by decide +kernel
theorem dX2_turned_21 : decode cX2_turned 21 = .ok (.iload_n 0, 1) := by decide +kernel
theorem dX2_turned_22 : decode cX2_turned 22 = .ok (.iload_n 1, 1) := by decide +kernel
theorem dX2_turned_23 : decode cX2_turned 23 = .ok (.iload_n 3, 1) := by decide +kernel
theorem dX2_turned_24 : decode cX2_turned 24 = .ok (.invokestatic 77, 3) := by decide +kernel
theorem dX2_turned_27 : decode cX2_turned 27 = .ok (.ireturn, 1) := by decide +kernel
set_option maxRecDepth 20000 in
theorem ggX3_init_X3_isPrime : GoodIn wsX3_init wsX3_isPrime := goodIn_r _ [19] (by decide +kernel) (by decide +kernel)
set_option maxRecDepth 20000 in
theorem gX3_init_X3_isPrime : GoodIn wsX3_init (va_wsS RX3 41 yX3_isPrime wsX3_isPrime) := goodIn_app (goodIn_of _ (by decide +kernel)) ggX3_init_X3_isPrime
set_option maxRecDepth 20000 in
theorem ggX3_init_X3_rootOf : GoodIn wsX3_init wsX3_rootOf := goodIn_r _ [23, 13, 24, 25, 26, 18, 27, 14, 15, 28, 29, 30, 31, 32, 33, 34, 35, 36, 37, 38, 39, 40, 41, 42, 43, 44, 45, 46, 47, 48] (by decide +kernel) (by decide +kernel)
set_option maxRecDepth 20000 in
theorem gX3_init_X3_rootOf : GoodIn wsX3_init (wsV RX3 45 RX3 yX3_rootOf wsX3_rootOf) := goodIn_app (goodIn_of _ (by decide +kernel)) ggX3_init_X3_rootOf
theorem dX3_init_0 : decode cX3_init 0 = .ok (.aload_n 0, 1) := by decide +kernel
theorem dX3_init_1 : decode cX3_init 1 = .ok (.invokespecial 1, 3) := by decide +kernel
theorem dX3_init_4 : decode cX3_init 4 = .ok (.aload_n 0, 1) := by decide +kernel
theorem dX3_init_5 : decode cX3_init 5 = .ok (.iconst 4, 1) := by decide +kernel
theorem dX3_init_6 : decode cX3_init 6 = .ok (.newarray .int, 2) := by decide +kernel
theorem dX3_init_8 : decode cX3_init 8 = .ok (.putfield 7, 3) := by decide +kernel
theorem dX3_init_11 : decode cX3_init 11 = .ok (.aload_n 0, 1) := by decide +kernel
theorem dX3_init_12 : decode cX3_init 12 = .ok (.sipush 128, 3) := by decide +kernel
theorem dX3_init_15 : decode cX3_init 15 = .ok (.newarray .int, 2) := by decide +kernel
theorem dX3_init_17 : decode cX3_init 17 = .ok (.putfield 13, 3) := by decide +kernel
theorem dX3_init_20 : decode cX3_init 20 = .ok (.aload_n 0, 1) := by decide +kernel
theorem dX3_init_21 : decode cX3_init 21 = .ok (.bipush 8, 2) := by decide +kernel
theorem dX3_init_23 : decode cX3_init 23 = .ok (.newarray .long, 2) := by decide +kernel
theorem dX3_init_25 : decode cX3_init 25 = .ok (.putfield 16, 3) := by decide +kernel
theorem dX3_init_28 : decode cX3_init 28 = .ok (.aload_n 0, 1) := by decide +kernel
theorem dX3_init_29 : decode cX3_init 29 = .ok (.bipush 80, 2) := by decide +kernel
theorem dX3_init_31 : decode cX3_init 31 = .ok (.newarray .long, 2) := by decide +kernel
theorem dX3_init_33 : decode cX3_init 33 = .ok (.putfield 20, 3) := by decide +kernel
theorem dX3_init_36 : decode cX3_init 36 = .ok (.aload_n 0, 1) := by decide +kernel
theorem dX3_init_37 : decode cX3_init 37 = .ok (.bipush 16, 2) := by decide +kernel
theorem dX3_init_39 : decode cX3_init 39 = .ok (.newarray .long, 2) := by decide +kernel
theorem dX3_init_41 : decode cX3_init 41 = .ok (.putfield 23, 3) := by decide +kernel
theorem dX3_init_44 : decode cX3_init 44 = .ok (.aload_n 0, 1) := by decide +kernel
theorem dX3_init_45 : decode cX3_init 45 = .ok (.bipush 80, 2) := by decide +kernel
theorem dX3_init_47 : decode cX3_init 47 = .ok (.newarray .long, 2) := by decide +kernel
theorem dX3_init_49 : decode cX3_init 49 = .ok (.putfield 26, 3) := by decide +kernel
theorem dX3_init_52 : decode cX3_init 52 = .ok (.aload_n 0, 1) := by decide +kernel
theorem dX3_init_53 : decode cX3_init 53 = .ok (.bipush 8, 2) := by decide +kernel
theorem dX3_init_55 : decode cX3_init 55 = .ok (.newarray .long, 2) := by decide +kernel
theorem dX3_init_57 : decode cX3_init 57 = .ok (.putfield 29, 3) := by decide +kernel
theorem dX3_init_60 : decode cX3_init 60 = .ok (.aload_n 0, 1) := by decide +kernel
theorem dX3_init_61 : decode cX3_init 61 = .ok (.iconst 5, 1) := by decide +kernel
theorem dX3_init_62 : decode cX3_init 62 = .ok (.newarray .long, 2) := by decide +kernel
theorem dX3_init_64 : decode cX3_init 64 = .ok (.putfield 32, 3) := by decide +kernel
theorem dX3_init_67 : decode cX3_init 67 = .ok (.aload_n 0, 1) := by decide +kernel
theorem dX3_init_68 : decode cX3_init 68 = .ok (.bipush 10, 2) := by decide +kernel
theorem dX3_init_70 : decode cX3_init 70 = .ok (.newarray .long, 2) := by decide +kernel
theorem dX3_init_72 : decode cX3_init 72 = .ok (.putfield 35, 3) := by decide +kernel
theorem dX3_init_75 : decode cX3_init 75 = .ok (.aload_n 0, 1) := by decide +kernel
theorem dX3_init_76 : decode cX3_init 76 = .ok (.bipush 15, 2) := by decide +kernel
theorem dX3_init_78 : decode cX3_init 78 = .ok (.newarray .long, 2) := by decide +kernel
theorem dX3_init_80 : decode cX3_init 80 = .ok (.putfield 38, 3) := by decide +kernel
theorem dX3_init_83 : decode cX3_init 83 = .ok (.iconst 2, 1) := by decide +kernel
theorem dX3_init_84 : decode cX3_init 84 = .ok (.istore_n 1, 1) := by decide +kernel
theorem dX3_init_85 : decode cX3_init 85 = .ok (.iconst 0, 1) := by decide +kernel
theorem dX3_init_86 : decode cX3_init 86 = .ok (.istore_n 2, 1) := by decide +kernel
theorem dX3_init_87 : decode cX3_init 87 = .ok (.iload_n 2, 1) := by decide +kernel
theorem dX3_init_88 : decode cX3_init 88 = .ok (.bipush 80, 2) := by decide +kernel
theorem dX3_init_90 : decode cX3_init 90 = .ok (.if_icmp .ge 55, 3) := by decide +kernel
theorem dX3_init_93 : decode cX3_init 93 = .ok (.iload_n 1, 1) := by decide +kernel
theorem dX3_init_94 : decode cX3_init 94 = .ok (.invokestatic 41, 3) := by decide +kernel
theorem dX3_init_97 : decode cX3_init 97 = .ok (.ifCond .ne 9, 3) := by decide +kernel
theorem dX3_init_100 : decode cX3_init 100 = .ok (.iinc 1 1, 3) := by decide +kernel
theorem dX3_init_103 : decode cX3_init 103 = .ok (.goto (-10), 3) := by decide +kernel
theorem dX3_init_106 : decode cX3_init 106 = .ok (.aload_n 0, 1) := by decide +kernel
theorem dX3_init_107 : decode cX3_init 107 = .ok (.getfield 20, 3) := by decide +kernel
theorem dX3_init_110 : decode cX3_init 110 = .ok (.iload_n 2, 1) := by decide +kernel
theorem dX3_init_111 : decode cX3_init 111 = .ok (.aload_n 0, 1) := by decide +kernel
theorem dX3_init_112 : decode cX3_init 112 = .ok (.iload_n 1, 1) := by decide +kernel
theorem dX3_init_113 : decode cX3_init 113 = .ok (.iconst 1, 1) := by decide +kernel
theorem dX3_init_114 : decode cX3_init 114 = .ok (.invokevirtual 45, 3) := by decide +kernel
theorem dX3_init_117 : decode cX3_init 117 = .ok (.lastore, 1) := by decide +kernel
theorem dX3_init_118 : decode cX3_init 118 = .ok (.iload_n 2, 1) := by decide +kernel
theorem dX3_init_119 : decode cX3_init 119 = .ok (.bipush 16, 2) := by decide +kernel
theorem dX3_init_121 : decode cX3_init 121 = .ok (.if_icmp .ge 15, 3) := by decide +kernel
theorem dX3_init_124 : decode cX3_init 124 = .ok (.aload_n 0, 1) := by decide +kernel
theorem dX3_init_125 : decode cX3_init 125 = .ok (.getfield 23, 3) := by decide +kernel
theorem dX3_init_128 : decode cX3_init 128 = .ok (.iload_n 2, 1) := by decide +kernel
theorem dX3_init_129 : decode cX3_init 129 = .ok (.aload_n 0, 1) := by decide +kernel
theorem dX3_init_130 : decode cX3_init 130 = .ok (.iload_n 1, 1) := by decide +kernel
theorem dX3_init_131 : decode cX3_init 131 = .ok (.iconst 0, 1) := by decide +kernel
theorem dX3_init_132 : decode cX3_init 132 = .ok (.invokevirtual 45, 3) := by decide +kernel
theorem dX3_init_135 : decode cX3_init 135 = .ok (.lastore, 1) := by decide +kernel
theorem dX3_init_136 : decode cX3_init 136 = .ok (.iinc 1 1, 3) := by decide +kernel
theorem dX3_init_139 : decode cX3_init 139 = .ok (.iinc 2 1, 3) := by decide +kernel
theorem dX3_init_142 : decode cX3_init 142 = .ok (.goto (-55), 3) := by decide +kernel
theorem dX3_init_145 : decode cX3_init 145 = .ok (.return_, 1) := by decide +kernel
theorem dX3_isPrime_0 : decode cX3_isPrime 0 = .ok (.iconst 2, 1) := by decide +kernel
theorem dX3_isPrime_1 : decode cX3_isPrime 1 = .ok (.istore_n 1, 1) := by decide +kernel
theorem dX3_isPrime_2 : decode cX3_isPrime 2 = .ok (.iload_n 1, 1) := by decide +kernel
theorem dX3_isPrime_3 : decode cX3_isPrime 3 = .ok (.iload_n 1, 1) := by decide +kernel
theorem dX3_isPrime_4 : decode cX3_isPrime 4 = .ok (.imul, 1) := by decide +kernel
theorem dX3_isPrime_5 : decode cX3_isPrime 5 = .ok (.iload_n 0, 1) := by decide +kernel
theorem dX3_isPrime_6 : decode cX3_isPrime 6 = .ok (.if_icmp .gt 17, 3) := by decide +kernel
theorem dX3_isPrime_9 : decode cX3_isPrime 9 = .ok (.iload_n 0, 1) := by decide +kernel
theorem dX3_isPrime_10 : decode cX3_isPrime 10 = .ok (.iload_n 1, 1) := by decide +kernel
theorem dX3_isPrime_11 : decode cX3_isPrime 11 = .ok (.irem, 1) := by decide +kernel
theorem dX3_isPrime_12 : decode cX3_isPrime 12 = .ok (.ifCond .ne 5, 3) := by decide +kernel
theorem dX3_isPrime_15 : decode cX3_isPrime 15 = .ok (.iconst 0, 1) := by decide +kernel
theorem dX3_isPrime_16 : decode cX3_isPrime 16 = .ok (.ireturn, 1) := by decide +kernel
theorem dX3_isPrime_17 : decode cX3_isPrime 17 = .ok (.iinc 1 1, 3) := by decide +kernel
theorem dX3_isPrime_20 : decode cX3_isPrime 20 = .ok (.goto (-18), 3) := by decide +kernel
theorem dX3_isPrime_23 : decode cX3_isPrime 23 = .ok (.iconst 1, 1) := by decide +kernel
theorem dX3_isPrime_24 : decode cX3_isPrime 24 = .ok (.ireturn, 1) := by decide +kernel
theorem dX3_multiply_0 : decode cX3_multiply 0 = .ok (.iconst 0, 1) := by decide +kernel
theorem dX3_multiply_1 : decode cX3_multiply 1 = .ok (.istore 5, 2) := by decide +kernel
theorem dX3_multiply_3 : decode cX3_multiply 3 = .ok (.iload 5, 2) := by decide +kernel
theorem dX3_multiply_5 : decode cX3_multiply 5 = .ok (.iload_n 1, 1) := by decide +kernel
theorem dX3_multiply_6 : decode cX3_multiply 6 = .ok (.iload_n 3, 1) := by decide +kernel
theorem dX3_multiply_7 : decode cX3_multiply 7 = .ok (.iadd, 1) := by decide +kernel
theorem dX3_multiply_8 : decode cX3_multiply 8 = .ok (.if_icmp .ge 15, 3) := by decide +kernel
theorem dX3_multiply_11 : decode cX3_multiply 11 = .ok (.aload 4, 2) := by decide +kernel
theorem dX3_multiply_13 : decode cX3_multiply 13 = .ok (.iload 5, 2) := by decide +kernel
theorem dX3_multiply_15 : decode cX3_multiply 15 = .ok (.lconst 0, 1) := by decide +kernel
theorem dX3_multiply_16 : decode cX3_multiply 16 = .ok (.lastore, 1) := by decide +kernel
theorem dX3_multiply_17 : decode cX3_multiply 17 = .ok (.iinc 5 1, 3) := by decide +kernel
theorem dX3_multiply_20 : decode cX3_multiply 20 = .ok (.goto (-17), 3) := by decide +kernel
theorem dX3_multiply_23 : decode cX3_multiply 23 = .ok (.iconst 0, 1) := by decide +kernel
theorem dX3_multiply_24 : decode cX3_multiply 24 = .ok (.istore 5, 2) := by decide +kernel
theorem dX3_multiply_26 : decode cX3_multiply 26 = .ok (.iload 5, 2) := by decide +kernel
theorem dX3_multiply_28 : decode cX3_multiply 28 = .ok (.iload_n 1, 1) := by decide +kernel
theorem dX3_multiply_29 : decode cX3_multiply 29 = .ok (.if_icmp .ge 80, 3) := by decide +kernel
theorem dX3_multiply_32 : decode cX3_multiply 32 = .ok (.lconst 0, 1) := by decide +kernel
theorem dX3_multiply_33 : decode cX3_multiply 33 = .ok (.lstore 6, 2) := by decide +kernel
theorem dX3_multiply_35 : decode cX3_multiply 35 = .ok (.iconst 0, 1) := by decide +kernel
theorem dX3_multiply_36 : decode cX3_multiply 36 = .ok (.istore 8, 2) := by decide +kernel
theorem dX3_multiply_38 : decode cX3_multiply 38 = .ok (.iload 8, 2) := by decide +kernel
theorem dX3_multiply_40 : decode cX3_multiply 40 = .ok (.iload_n 3, 1) := by decide +kernel
theorem dX3_multiply_41 : decode cX3_multiply 41 = .ok (.if_icmp .ge 53, 3) := by decide +kernel
theorem dX3_multiply_44 : decode cX3_multiply 44 = .ok (.aload 4, 2) := by decide +kernel
theorem dX3_multiply_46 : decode cX3_multiply 46 = .ok (.iload 5, 2) := by decide +kernel
theorem dX3_multiply_48 : decode cX3_multiply 48 = .ok (.iload 8, 2) := by decide +kernel
theorem dX3_multiply_50 : decode cX3_multiply 50 = .ok (.iadd, 1) := by decide +kernel
theorem dX3_multiply_51 : decode cX3_multiply 51 = .ok (.laload, 1) := by decide +kernel
theorem dX3_multiply_52 : decode cX3_multiply 52 = .ok (.aload_n 0, 1) := by decide +kernel
theorem dX3_multiply_53 : decode cX3_multiply 53 = .ok (.iload 5, 2) := by decide +kernel
theorem dX3_multiply_55 : decode cX3_multiply 55 = .ok (.laload, 1) := by decide +kernel
theorem dX3_multiply_56 : decode cX3_multiply 56 = .ok (.aload_n 2, 1) := by decide +kernel
theorem dX3_multiply_57 : decode cX3_multiply 57 = .ok (.iload 8, 2) := by decide +kernel
theorem dX3_multiply_59 : decode cX3_multiply 59 = .ok (.laload, 1) := by decide +kernel
theorem dX3_multiply_60 : decode cX3_multiply 60 = .ok (.lmul, 1) := by decide +kernel
theorem dX3_multiply_61 : decode cX3_multiply 61 = .ok (.ladd, 1) := by decide +kernel
theorem dX3_multiply_62 : decode cX3_multiply 62 = .ok (.lload 6, 2) := by decide +kernel
theorem dX3_multiply_64 : decode cX3_multiply 64 = .ok (.ladd, 1) := by decide +kernel
theorem dX3_multiply_65 : decode cX3_multiply 65 = .ok (.lstore 9, 2) := by decide +kernel
theorem dX3_multiply_67 : decode cX3_multiply 67 = .ok (.aload 4, 2) := by decide +kernel
theorem dX3_multiply_69 : decode cX3_multiply 69 = .ok (.iload 5, 2) := by decide +kernel
theorem dX3_multiply_71 : decode cX3_multiply 71 = .ok (.iload 8, 2) := by decide +kernel
theorem dX3_multiply_73 : decode cX3_multiply 73 = .ok (.iadd, 1) := by decide +kernel
theorem dX3_multiply_74 : decode cX3_multiply 74 = .ok (.lload 9, 2) := by decide +kernel
theorem dX3_multiply_76 : decode cX3_multiply 76 = .ok (.ldc2_w 49, 3) := by decide +kernel
theorem dX3_multiply_79 : decode cX3_multiply 79 = .ok (.land, 1) := by decide +kernel
theorem dX3_multiply_80 : decode cX3_multiply 80 = .ok (.lastore, 1) := by decide +kernel
theorem dX3_multiply_81 : decode cX3_multiply 81 = .ok (.lload 9, 2) := by decide +kernel
theorem dX3_multiply_83 : decode cX3_multiply 83 = .ok (.bipush 16, 2) := by decide +kernel
theorem dX3_multiply_85 : decode cX3_multiply 85 = .ok (.lshr, 1) := by decide +kernel
theorem dX3_multiply_86 : decode cX3_multiply 86 = .ok (.lstore 6, 2) := by decide +kernel
theorem dX3_multiply_88 : decode cX3_multiply 88 = .ok (.iinc 8 1, 3) := by decide +kernel
theorem dX3_multiply_91 : decode cX3_multiply 91 = .ok (.goto (-53), 3) := by decide +kernel
theorem dX3_multiply_94 : decode cX3_multiply 94 = .ok (.aload 4, 2) := by decide +kernel
theorem dX3_multiply_96 : decode cX3_multiply 96 = .ok (.iload 5, 2) := by decide +kernel
theorem dX3_multiply_98 : decode cX3_multiply 98 = .ok (.iload_n 3, 1) := by decide +kernel
theorem dX3_multiply_99 : decode cX3_multiply 99 = .ok (.iadd, 1) := by decide +kernel
theorem dX3_multiply_100 : decode cX3_multiply 100 = .ok (.lload 6, 2) := by decide +kernel
theorem dX3_multiply_102 : decode cX3_multiply 102 = .ok (.lastore, 1) := by decide +kernel
theorem dX3_multiply_103 : decode cX3_multiply 103 = .ok (.iinc 5 1, 3) := by decide +kernel
theorem dX3_multiply_106 : decode cX3_multiply 106 = .ok (.goto (-80), 3) := by decide +kernel
theorem dX3_multiply_109 : decode cX3_multiply 109 = .ok (.return_, 1) := by decide +kernel
set_option maxRecDepth 20000 in
theorem ggX3_isBelow_X3_multiply : GoodIn wsX3_isBelow wsX3_multiply := goodIn_r _ [7, 8] (by decide +kernel) (by decide +kernel)
set_option maxRecDepth 20000 in
theorem gX3_isBelow_X3_multiply : GoodIn wsX3_isBelow (va_wsS RX3 51 yX3_multiply wsX3_multiply) := goodIn_app (goodIn_of _ (by decide +kernel)) ggX3_isBelow_X3_multiply
theorem dX3_isBelow_0 : decode cX3_isBelow 0 = .ok (.aload_n 0, 1) := by decide +kernel
theorem dX3_isBelow_1 : decode cX3_isBelow 1 = .ok (.getfield 32, 3) := by decide +kernel
theorem dX3_isBelow_4 : decode cX3_isBelow 4 = .ok (.iconst 5, 1) := by decide +kernel
theorem dX3_isBelow_5 : decode cX3_isBelow 5 = .ok (.aload_n 0, 1) := by decide +kernel
theorem dX3_isBelow_6 : decode cX3_isBelow 6 = .ok (.getfield 32, 3) := by decide +kernel
theorem dX3_isBelow_9 : decode cX3_isBelow 9 = .ok (.iconst 5, 1) := by decide +kernel
theorem dX3_isBelow_10 : decode cX3_isBelow 10 = .ok (.aload_n 0, 1) := by decide +kernel
theorem dX3_isBelow_11 : decode cX3_isBelow 11 = .ok (.getfield 35, 3) := by decide +kernel
theorem dX3_isBelow_14 : decode cX3_isBelow 14 = .ok (.invokestatic 51, 3) := by decide +kernel
theorem dX3_isBelow_17 : decode cX3_isBelow 17 = .ok (.iload_n 2, 1) := by decide +kernel
theorem dX3_isBelow_18 : decode cX3_isBelow 18 = .ok (.ifCond .ne 33, 3) := by decide +kernel
theorem dX3_isBelow_21 : decode cX3_isBelow 21 = .ok (.aload_n 0, 1) := by decide +kernel
theorem dX3_isBelow_22 : decode cX3_isBelow 22 = .ok (.getfield 35, 3) := by decide +kernel
theorem dX3_isBelow_25 : decode cX3_isBelow 25 = .ok (.bipush 8, 2) := by decide +kernel
theorem dX3_isBelow_27 : decode cX3_isBelow 27 = .ok (.laload, 1) := by decide +kernel
theorem dX3_isBelow_28 : decode cX3_isBelow 28 = .ok (.aload_n 0, 1) := by decide +kernel
theorem dX3_isBelow_29 : decode cX3_isBelow 29 = .ok (.getfield 35, 3) := by decide +kernel
theorem dX3_isBelow_32 : decode cX3_isBelow 32 = .ok (.bipush 9, 2) := by decide +kernel
theorem dX3_isBelow_34 : decode cX3_isBelow 34 = .ok (.laload, 1) := by decide +kernel
theorem dX3_isBelow_35 : decode cX3_isBelow 35 = .ok (.bipush 16, 2) := by decide +kernel
theorem dX3_isBelow_37 : decode cX3_isBelow 37 = .ok (.lshl, 1) := by decide +kernel
theorem dX3_isBelow_38 : decode cX3_isBelow 38 = .ok (.ladd, 1) := by decide +kernel
theorem dX3_isBelow_39 : decode cX3_isBelow 39 = .ok (.iload_n 1, 1) := by decide +kernel
theorem dX3_isBelow_40 : decode cX3_isBelow 40 = .ok (.i2l, 1) := by decide +kernel
theorem dX3_isBelow_41 : decode cX3_isBelow 41 = .ok (.lcmp, 1) := by decide +kernel
theorem dX3_isBelow_42 : decode cX3_isBelow 42 = .ok (.ifCond .ge 7, 3) := by decide +kernel
theorem dX3_isBelow_45 : decode cX3_isBelow 45 = .ok (.iconst 1, 1) := by decide +kernel
theorem dX3_isBelow_46 : decode cX3_isBelow 46 = .ok (.goto 4, 3) := by decide +kernel
theorem dX3_isBelow_49 : decode cX3_isBelow 49 = .ok (.iconst 0, 1) := by decide +kernel
theorem dX3_isBelow_50 : decode cX3_isBelow 50 = .ok (.ireturn, 1) := by decide +kernel
theorem dX3_isBelow_51 : decode cX3_isBelow 51 = .ok (.aload_n 0, 1) := by decide +kernel
theorem dX3_isBelow_52 : decode cX3_isBelow 52 = .ok (.getfield 35, 3) := by decide +kernel
theorem dX3_isBelow_55 : decode cX3_isBelow 55 = .ok (.bipush 10, 2) := by decide +kernel
theorem dX3_isBelow_57 : decode cX3_isBelow 57 = .ok (.aload_n 0, 1) := by decide +kernel
theorem dX3_isBelow_58 : decode cX3_isBelow 58 = .ok (.getfield 32, 3) := by decide +kernel
theorem dX3_isBelow_61 : decode cX3_isBelow 61 = .ok (.iconst 5, 1) := by decide +kernel
theorem dX3_isBelow_62 : decode cX3_isBelow 62 = .ok (.aload_n 0, 1) := by decide +kernel
theorem dX3_isBelow_63 : decode cX3_isBelow 63 = .ok (.getfield 38, 3) := by decide +kernel
theorem dX3_isBelow_66 : decode cX3_isBelow 66 = .ok (.invokestatic 51, 3) := by decide +kernel
theorem dX3_isBelow_69 : decode cX3_isBelow 69 = .ok (.aload_n 0, 1) := by decide +kernel
theorem dX3_isBelow_70 : decode cX3_isBelow 70 = .ok (.getfield 38, 3) := by decide +kernel
theorem dX3_isBelow_73 : decode cX3_isBelow 73 = .ok (.bipush 12, 2) := by decide +kernel
theorem dX3_isBelow_75 : decode cX3_isBelow 75 = .ok (.laload, 1) := by decide +kernel
theorem dX3_isBelow_76 : decode cX3_isBelow 76 = .ok (.aload_n 0, 1) := by decide +kernel
theorem dX3_isBelow_77 : decode cX3_isBelow 77 = .ok (.getfield 38, 3) := by decide +kernel
theorem dX3_isBelow_80 : decode cX3_isBelow 80 = .ok (.bipush 13, 2) := by decide +kernel
theorem dX3_isBelow_82 : decode cX3_isBelow 82 = .ok (.laload, 1) := by decide +kernel
theorem dX3_isBelow_83 : decode cX3_isBelow 83 = .ok (.bipush 16, 2) := by decide +kernel
theorem dX3_isBelow_85 : decode cX3_isBelow 85 = .ok (.lshl, 1) := by decide +kernel
theorem dX3_isBelow_86 : decode cX3_isBelow 86 = .ok (.ladd, 1) := by decide +kernel
theorem dX3_isBelow_87 : decode cX3_isBelow 87 = .ok (.aload_n 0, 1) := by decide +kernel
theorem dX3_isBelow_88 : decode cX3_isBelow 88 = .ok (.getfield 38, 3) := by decide +kernel
theorem dX3_isBelow_91 : decode cX3_isBelow 91 = .ok (.bipush 14, 2) := by decide +kernel
theorem dX3_isBelow_93 : decode cX3_isBelow 93 = .ok (.laload, 1) := by decide +kernel
theorem dX3_isBelow_94 : decode cX3_isBelow 94 = .ok (.bipush 32, 2) := by decide +kernel
theorem dX3_isBelow_96 : decode cX3_isBelow 96 = .ok (.lshl, 1) := by decide +kernel
theorem dX3_isBelow_97 : decode cX3_isBelow 97 = .ok (.ladd, 1) := by decide +kernel
theorem dX3_isBelow_98 : decode cX3_isBelow 98 = .ok (.iload_n 1, 1) := by decide +kernel
theorem dX3_isBelow_99 : decode cX3_isBelow 99 = .ok (.i2l, 1) := by decide +kernel
theorem dX3_isBelow_100 : decode cX3_isBelow 100 = .ok (.lcmp, 1) := by decide +kernel
theorem dX3_isBelow_101 : decode cX3_isBelow 101 = .ok (.ifCond .ge 7, 3) := by decide +kernel
theorem dX3_isBelow_104 : decode cX3_isBelow 104 = .ok (.iconst 1, 1) := by decide +kernel
theorem dX3_isBelow_105 : decode cX3_isBelow 105 = .ok (.goto 4, 3) := by decide +kernel
theorem dX3_isBelow_108 : decode cX3_isBelow 108 = .ok (.iconst 0, 1) := by decide +kernel
theorem dX3_isBelow_109 : decode cX3_isBelow 109 = .ok (.ireturn, 1) := by decide +kernel
set_option maxRecDepth 20000 in
theorem ggX3_rootOf_X3_isBelow : GoodIn wsX3_rootOf wsX3_isBelow := goodIn_r _ [6, 1, 7, 8, 9, 10, 5, 11, 12, 13, 14, 15, 16, 17, 18, 19, 20, 21, 22, 23, 24, 25, 26, 27, 28, 29] (by decide +kernel) (by decide +kernel)
set_option maxRecDepth 20000 in
theorem gX3_rootOf_X3_isBelow : GoodIn wsX3_rootOf (wsV RX3 55 RX3 yX3_isBelow wsX3_isBelow) := goodIn_app (goodIn_of _ (by decide +kernel)) ggX3_rootOf_X3_isBelow
theorem dX3_rootOf_0 : decode cX3_rootOf 0 = .ok (.iconst 0, 1) := by decide +kernel
theorem dX3_rootOf_1 : decode cX3_rootOf 1 = .ok (.istore_n 3, 1) := by decide +kernel
theorem dX3_rootOf_2 : decode cX3_rootOf 2 = .ok (.iload_n 3, 1) := by decide +kernel
theorem dX3_rootOf_3 : decode cX3_rootOf 3 = .ok (.iconst 5, 1) := by decide +kernel
theorem dX3_rootOf_4 : decode cX3_rootOf 4 = .ok (.if_icmp .ge 16, 3) := by decide +kernel
theorem dX3_rootOf_7 : decode cX3_rootOf 7 = .ok (.aload_n 0, 1) := by decide +kernel
theorem dX3_rootOf_8 : decode cX3_rootOf 8 = .ok (.getfield 32, 3) := by decide +kernel
theorem dX3_rootOf_11 : decode cX3_rootOf 11 = .ok (.iload_n 3, 1) := by decide +kernel
theorem dX3_rootOf_12 : decode cX3_rootOf 12 = .ok (.lconst 0, 1) := by decide +kernel
theorem dX3_rootOf_13 : decode cX3_rootOf 13 = .ok (.lastore, 1) := by decide +kernel
theorem dX3_rootOf_14 : decode cX3_rootOf 14 = .ok (.iinc 3 1, 3) := by decide +kernel
theorem dX3_rootOf_17 : decode cX3_rootOf 17 = .ok (.goto (-15), 3) := by decide +kernel
theorem dX3_rootOf_20 : decode cX3_rootOf 20 = .ok (.bipush 69, 2) := by decide +kernel
theorem dX3_rootOf_22 : decode cX3_rootOf 22 = .ok (.istore_n 3, 1) := by decide +kernel
theorem dX3_rootOf_23 : decode cX3_rootOf 23 = .ok (.iload_n 3, 1) := by decide +kernel
theorem dX3_rootOf_24 : decode cX3_rootOf 24 = .ok (.ifCond .lt 54, 3) := by decide +kernel
theorem dX3_rootOf_27 : decode cX3_rootOf 27 = .ok (.aload_n 0, 1) := by decide +kernel
theorem dX3_rootOf_28 : decode cX3_rootOf 28 = .ok (.getfield 32, 3) := by decide +kernel
theorem dX3_rootOf_31 : decode cX3_rootOf 31 = .ok (.iload_n 3, 1) := by decide +kernel
theorem dX3_rootOf_32 : decode cX3_rootOf 32 = .ok (.bipush 16, 2) := by decide +kernel
theorem dX3_rootOf_34 : decode cX3_rootOf 34 = .ok (.idiv, 1) := by decide +kernel
theorem dX3_rootOf_35 : decode cX3_rootOf 35 = .ok (.dup2, 1) := by decide +kernel
theorem dX3_rootOf_36 : decode cX3_rootOf 36 = .ok (.laload, 1) := by decide +kernel
theorem dX3_rootOf_37 : decode cX3_rootOf 37 = .ok (.lconst 1, 1) := by decide +kernel
theorem dX3_rootOf_38 : decode cX3_rootOf 38 = .ok (.iload_n 3, 1) := by decide +kernel
theorem dX3_rootOf_39 : decode cX3_rootOf 39 = .ok (.bipush 16, 2) := by decide +kernel
theorem dX3_rootOf_41 : decode cX3_rootOf 41 = .ok (.irem, 1) := by decide +kernel
theorem dX3_rootOf_42 : decode cX3_rootOf 42 = .ok (.lshl, 1) := by decide +kernel
theorem dX3_rootOf_43 : decode cX3_rootOf 43 = .ok (.ladd, 1) := by decide +kernel
theorem dX3_rootOf_44 : decode cX3_rootOf 44 = .ok (.lastore, 1) := by decide +kernel
theorem dX3_rootOf_45 : decode cX3_rootOf 45 = .ok (.aload_n 0, 1) := by decide +kernel
theorem dX3_rootOf_46 : decode cX3_rootOf 46 = .ok (.iload_n 1, 1) := by decide +kernel
theorem dX3_rootOf_47 : decode cX3_rootOf 47 = .ok (.iload_n 2, 1) := by decide +kernel
theorem dX3_rootOf_48 : decode cX3_rootOf 48 = .ok (.invokevirtual 55, 3) := by decide +kernel
theorem dX3_rootOf_51 : decode cX3_rootOf 51 = .ok (.ifCond .ne 21, 3) := by decide +kernel
theorem dX3_rootOf_54 : decode cX3_rootOf 54 = .ok (.aload_n 0, 1) := by decide +kernel
theorem dX3_rootOf_55 : decode cX3_rootOf 55 = .ok (.getfield 32, 3) := by decide +kernel
theorem dX3_rootOf_58 : decode cX3_rootOf 58 = .ok (.iload_n 3, 1) := by decide +kernel
theorem dX3_rootOf_59 : decode cX3_rootOf 59 = .ok (.bipush 16, 2) := by decide +kernel
theorem dX3_rootOf_61 : decode cX3_rootOf 61 = .ok (.idiv, 1) := by decide +kernel
theorem dX3_rootOf_62 : decode cX3_rootOf 62 = .ok (.dup2, 1) := by decide +kernel
theorem dX3_rootOf_63 : decode cX3_rootOf 63 = .ok (.laload, 1) := by decide +kernel
theorem dX3_rootOf_64 : decode cX3_rootOf 64 = .ok (.lconst 1, 1) := by decide +kernel
theorem dX3_rootOf_65 : decode cX3_rootOf 65 = .ok (.iload_n 3, 1) := by decide +kernel
theorem dX3_rootOf_66 : decode cX3_rootOf 66 = .ok (.bipush 16, 2) := by decide +kernel
theorem dX3_rootOf_68 : decode cX3_rootOf 68 = .ok (.irem, 1) := by decide +kernel
theorem dX3_rootOf_69 : decode cX3_rootOf 69 = .ok (.lshl, 1) := by decide +kernel
theorem dX3_rootOf_70 : decode cX3_rootOf 70 = .ok (.lsub, 1) := by decide +kernel
theorem dX3_rootOf_71 : decode cX3_rootOf 71 = .ok (.lastore, 1) := by decide +kernel
theorem dX3_rootOf_72 : decode cX3_rootOf 72 = .ok (.iinc 3 (-1), 3) := by decide +kernel
theorem dX3_rootOf_75 : decode cX3_rootOf 75 = .ok (.goto (-52), 3) := by decide +kernel
theorem dX3_rootOf_78 : decode cX3_rootOf 78 = .ok (.aload_n 0, 1) := by decide +kernel
theorem dX3_rootOf_79 : decode cX3_rootOf 79 = .ok (.getfield 32, 3) := by decide +kernel
theorem dX3_rootOf_82 : decode cX3_rootOf 82 = .ok (.iconst 3, 1) := by decide +kernel
theorem dX3_rootOf_83 : decode cX3_rootOf 83 = .ok (.laload, 1) := by decide +kernel
theorem dX3_rootOf_84 : decode cX3_rootOf 84 = .ok (.bipush 48, 2) := by decide +kernel
theorem dX3_rootOf_86 : decode cX3_rootOf 86 = .ok (.lshl, 1) := by decide +kernel
theorem dX3_rootOf_87 : decode cX3_rootOf 87 = .ok (.aload_n 0, 1) := by decide +kernel
theorem dX3_rootOf_88 : decode cX3_rootOf 88 = .ok (.getfield 32, 3) := by decide +kernel
theorem dX3_rootOf_91 : decode cX3_rootOf 91 = .ok (.iconst 2, 1) := by decide +kernel
theorem dX3_rootOf_92 : decode cX3_rootOf 92 = .ok (.laload, 1) := by decide +kernel
theorem dX3_rootOf_93 : decode cX3_rootOf 93 = .ok (.bipush 32, 2) := by decide +kernel
theorem dX3_rootOf_95 : decode cX3_rootOf 95 = .ok (.lshl, 1) := by decide +kernel
theorem dX3_rootOf_96 : decode cX3_rootOf 96 = .ok (.lor, 1) := by decide +kernel
theorem dX3_rootOf_97 : decode cX3_rootOf 97 = .ok (.aload_n 0, 1) := by decide +kernel
theorem dX3_rootOf_98 : decode cX3_rootOf 98 = .ok (.getfield 32, 3) := by decide +kernel
theorem dX3_rootOf_101 : decode cX3_rootOf 101 = .ok (.iconst 1, 1) := by decide +kernel
theorem dX3_rootOf_102 : decode cX3_rootOf 102 = .ok (.laload, 1) := by decide +kernel
theorem dX3_rootOf_103 : decode cX3_rootOf 103 = .ok (.bipush 16, 2) := by decide +kernel
theorem dX3_rootOf_105 : decode cX3_rootOf 105 = .ok (.lshl, 1) := by decide +kernel
theorem dX3_rootOf_106 : decode cX3_rootOf 106 = .ok (.lor, 1) := by decide +kernel
theorem dX3_rootOf_107 : decode cX3_rootOf 107 = .ok (.aload_n 0, 1) := by decide +kernel
theorem dX3_rootOf_108 : decode cX3_rootOf 108 = .ok (.getfield 32, 3) := by decide +kernel
theorem dX3_rootOf_111 : decode cX3_rootOf 111 = .ok (.iconst 0, 1) := by decide +kernel
theorem dX3_rootOf_112 : decode cX3_rootOf 112 = .ok (.laload, 1) := by decide +kernel
theorem dX3_rootOf_113 : decode cX3_rootOf 113 = .ok (.lor, 1) := by decide +kernel
theorem dX3_rootOf_114 : decode cX3_rootOf 114 = .ok (.lreturn, 1) := by decide +kernel
theorem dX3_of_0 : decode cX3_of 0 = .ok (.iload_n 0, 1) := by decide +kernel
theorem dX3_of_1 : decode cX3_of 1 = .ok (.i2l, 1) := by decide +kernel
theorem dX3_of_2 : decode cX3_of 2 = .ok (.bipush 32, 2) := by decide +kernel
theorem dX3_of_4 : decode cX3_of 4 = .ok (.lshl, 1) := by decide +kernel
theorem dX3_of_5 : decode cX3_of 5 = .ok (.iload_n 1, 1) := by decide +kernel
theorem dX3_of_6 : decode cX3_of 6 = .ok (.i2l, 1) := by decide +kernel
theorem dX3_of_7 : decode cX3_of 7 = .ok (.ldc2_w 59, 3) := by decide +kernel
theorem dX3_of_10 : decode cX3_of 10 = .ok (.land, 1) := by decide +kernel
theorem dX3_of_11 : decode cX3_of 11 = .ok (.lor, 1) := by decide +kernel
theorem dX3_of_12 : decode cX3_of 12 = .ok (.lreturn, 1) := by decide +kernel
theorem dX3_right_0 : decode cX3_right 0 = .ok (.iload_n 2, 1) := by decide +kernel
theorem dX3_right_1 : decode cX3_right 1 = .ok (.bipush 63, 2) := by decide +kernel
theorem dX3_right_3 : decode cX3_right 3 = .ok (.iand, 1) := by decide +kernel
theorem dX3_right_4 : decode cX3_right 4 = .ok (.istore_n 3, 1) := by decide +kernel
theorem dX3_right_5 : decode cX3_right 5 = .ok (.iload_n 3, 1) := by decide +kernel
theorem dX3_right_6 : decode cX3_right 6 = .ok (.ifCond .ne 7, 3) := by decide +kernel
theorem dX3_right_9 : decode cX3_right 9 = .ok (.lload_n 0, 1) := by decide +kernel
theorem dX3_right_10 : decode cX3_right 10 = .ok (.goto 13, 3) := by decide +kernel
theorem dX3_right_13 : decode cX3_right 13 = .ok (.lload_n 0, 1) := by decide +kernel
theorem dX3_right_14 : decode cX3_right 14 = .ok (.iload_n 3, 1) := by decide +kernel
theorem dX3_right_15 : decode cX3_right 15 = .ok (.lushr, 1) := by decide +kernel
theorem dX3_right_16 : decode cX3_right 16 = .ok (.lload_n 0, 1) := by decide +kernel
end
section
theorem dX3_right_17 : decode cX3_right 17 = .ok (.bipush 64, 2) := by decide +kernel
theorem dX3_right_19 : decode cX3_right 19 = .ok (.iload_n 3, 1) := by decide +kernel
theorem dX3_right_20 : decode cX3_right 20 = .ok (.isub, 1) := by decide +kernel
theorem dX3_right_21 : decode cX3_right 21 = .ok (.lshl, 1) := by decide +kernel
theorem dX3_right_22 : decode cX3_right 22 = .ok (.lor, 1) := by decide +kernel
theorem dX3_right_23 : decode cX3_right 23 = .ok (.lreturn, 1) := by decide +kernel
set_option maxRecDepth 20000 in
theorem ggX3_left_X3_right : GoodIn wsX3_left wsX3_right := goodIn_r _ [4] (by decide +kernel) (by decide +kernel)
set_option maxRecDepth 20000 in
theorem gX3_left_X3_right : GoodIn wsX3_left (va_wsS RX3 61 yX3_right wsX3_right) := goodIn_app (goodIn_of _ (by decide +kernel)) ggX3_left_X3_right
theorem dX3_left_0 : decode cX3_left 0 = .ok (.lload_n 0, 1) := by decide +kernel
theorem dX3_left_1 : decode cX3_left 1 = .ok (.bipush 64, 2) := by decide +kernel
theorem dX3_left_3 : decode cX3_left 3 = .ok (.iload_n 2, 1) := by decide +kernel
theorem dX3_left_4 : decode cX3_left 4 = .ok (.isub, 1) := by decide +kernel
theorem dX3_left_5 : decode cX3_left 5 = .ok (.invokestatic 61, 3) := by decide +kernel
theorem dX3_left_8 : decode cX3_left 8 = .ok (.lreturn, 1) := by decide +kernel
set_option maxRecDepth 20000 in
theorem ggX3_add64Lo_X3_of : GoodIn wsX3_add64Lo wsX3_of := goodIn_r _ [4, 5] (by decide +kernel) (by decide +kernel)
set_option maxRecDepth 20000 in
theorem gX3_add64Lo_X3_of : GoodIn wsX3_add64Lo (va_wsS RX3 65 yX3_of wsX3_of) := goodIn_app (goodIn_of _ (by decide +kernel)) ggX3_add64Lo_X3_of
theorem dX3_add64Lo_0 : decode cX3_add64Lo 0 = .ok (.iload_n 1, 1) := by decide +kernel
theorem dX3_add64Lo_1 : decode cX3_add64Lo 1 = .ok (.iload_n 2, 1) := by decide +kernel
theorem dX3_add64Lo_2 : decode cX3_add64Lo 2 = .ok (.invokestatic 65, 3) := by decide +kernel
theorem dX3_add64Lo_5 : decode cX3_add64Lo 5 = .ok (.iload_n 3, 1) := by decide +kernel
theorem dX3_add64Lo_6 : decode cX3_add64Lo 6 = .ok (.iload 4, 2) := by decide +kernel
theorem dX3_add64Lo_8 : decode cX3_add64Lo 8 = .ok (.invokestatic 65, 3) := by decide +kernel
theorem dX3_add64Lo_11 : decode cX3_add64Lo 11 = .ok (.ladd, 1) := by decide +kernel
theorem dX3_add64Lo_12 : decode cX3_add64Lo 12 = .ok (.l2i, 1) := by decide +kernel
theorem dX3_add64Lo_13 : decode cX3_add64Lo 13 = .ok (.ireturn, 1) := by decide +kernel
set_option maxRecDepth 20000 in
theorem ggX3_add64Hi_X3_of : GoodIn wsX3_add64Hi wsX3_of := goodIn_r _ [4, 5] (by decide +kernel) (by decide +kernel)
set_option maxRecDepth 20000 in
theorem gX3_add64Hi_X3_of : GoodIn wsX3_add64Hi (va_wsS RX3 65 yX3_of wsX3_of) := goodIn_app (goodIn_of _ (by decide +kernel)) ggX3_add64Hi_X3_of
theorem dX3_add64Hi_0 : decode cX3_add64Hi 0 = .ok (.iload_n 1, 1) := by decide +kernel
theorem dX3_add64Hi_1 : decode cX3_add64Hi 1 = .ok (.iload_n 2, 1) := by decide +kernel
theorem dX3_add64Hi_2 : decode cX3_add64Hi 2 = .ok (.invokestatic 65, 3) := by decide +kernel
theorem dX3_add64Hi_5 : decode cX3_add64Hi 5 = .ok (.iload_n 3, 1) := by decide +kernel
theorem dX3_add64Hi_6 : decode cX3_add64Hi 6 = .ok (.iload 4, 2) := by decide +kernel
theorem dX3_add64Hi_8 : decode cX3_add64Hi 8 = .ok (.invokestatic 65, 3) := by decide +kernel
theorem dX3_add64Hi_11 : decode cX3_add64Hi 11 = .ok (.ladd, 1) := by decide +kernel
theorem dX3_add64Hi_12 : decode cX3_add64Hi 12 = .ok (.bipush 32, 2) := by decide +kernel
theorem dX3_add64Hi_14 : decode cX3_add64Hi 14 = .ok (.lshr, 1) := by decide +kernel
theorem dX3_add64Hi_15 : decode cX3_add64Hi 15 = .ok (.l2i, 1) := by decide +kernel
theorem dX3_add64Hi_16 : decode cX3_add64Hi 16 = .ok (.ireturn, 1) := by decide +kernel
set_option maxRecDepth 20000 in
theorem ggX3_rotr64Hi_X3_of : GoodIn wsX3_rotr64Hi wsX3_of := goodIn_r _ [4, 5] (by decide +kernel) (by decide +kernel)
set_option maxRecDepth 20000 in
theorem gX3_rotr64Hi_X3_of : GoodIn wsX3_rotr64Hi (va_wsS RX3 65 yX3_of wsX3_of) := goodIn_app (goodIn_of _ (by decide +kernel)) ggX3_rotr64Hi_X3_of
set_option maxRecDepth 20000 in
theorem ggX3_rotr64Hi_X3_right : GoodIn wsX3_rotr64Hi wsX3_right := goodIn_r _ [8] (by decide +kernel) (by decide +kernel)
set_option maxRecDepth 20000 in
theorem gX3_rotr64Hi_X3_right : GoodIn wsX3_rotr64Hi (va_wsS RX3 61 yX3_right wsX3_right) := goodIn_app (goodIn_of _ (by decide +kernel)) ggX3_rotr64Hi_X3_right
theorem dX3_rotr64Hi_0 : decode cX3_rotr64Hi 0 = .ok (.iload_n 1, 1) := by decide +kernel
theorem dX3_rotr64Hi_1 : decode cX3_rotr64Hi 1 = .ok (.iload_n 2, 1) := by decide +kernel
theorem dX3_rotr64Hi_2 : decode cX3_rotr64Hi 2 = .ok (.invokestatic 65, 3) := by decide +kernel
theorem dX3_rotr64Hi_5 : decode cX3_rotr64Hi 5 = .ok (.iload_n 3, 1) := by decide +kernel
theorem dX3_rotr64Hi_6 : decode cX3_rotr64Hi 6 = .ok (.invokestatic 61, 3) := by decide +kernel
theorem dX3_rotr64Hi_9 : decode cX3_rotr64Hi 9 = .ok (.bipush 32, 2) := by decide +kernel
theorem dX3_rotr64Hi_11 : decode cX3_rotr64Hi 11 = .ok (.lshr, 1) := by decide +kernel
theorem dX3_rotr64Hi_12 : decode cX3_rotr64Hi 12 = .ok (.l2i, 1) := by decide +kernel
theorem dX3_rotr64Hi_13 : decode cX3_rotr64Hi 13 = .ok (.ireturn, 1) := by decide +kernel
set_option maxRecDepth 20000 in
theorem ggX3_rotr64Lo_X3_of : GoodIn wsX3_rotr64Lo wsX3_of := goodIn_r _ [4, 5] (by decide +kernel) (by decide +kernel)
set_option maxRecDepth 20000 in
theorem gX3_rotr64Lo_X3_of : GoodIn wsX3_rotr64Lo (va_wsS RX3 65 yX3_of wsX3_of) := goodIn_app (goodIn_of _ (by decide +kernel)) ggX3_rotr64Lo_X3_of
set_option maxRecDepth 20000 in
theorem ggX3_rotr64Lo_X3_right : GoodIn wsX3_rotr64Lo wsX3_right := goodIn_r _ [8] (by decide +kernel) (by decide +kernel)
set_option maxRecDepth 20000 in
theorem gX3_rotr64Lo_X3_right : GoodIn wsX3_rotr64Lo (va_wsS RX3 61 yX3_right wsX3_right) := goodIn_app (goodIn_of _ (by decide +kernel)) ggX3_rotr64Lo_X3_right
theorem dX3_rotr64Lo_0 : decode cX3_rotr64Lo 0 = .ok (.iload_n 1, 1) := by decide +kernel
theorem dX3_rotr64Lo_1 : decode cX3_rotr64Lo 1 = .ok (.iload_n 2, 1) := by decide +kernel
theorem dX3_rotr64Lo_2 : decode cX3_rotr64Lo 2 = .ok (.invokestatic 65, 3) := by decide +kernel
theorem dX3_rotr64Lo_5 : decode cX3_rotr64Lo 5 = .ok (.iload_n 3, 1) := by decide +kernel
theorem dX3_rotr64Lo_6 : decode cX3_rotr64Lo 6 = .ok (.invokestatic 61, 3) := by decide +kernel
theorem dX3_rotr64Lo_9 : decode cX3_rotr64Lo 9 = .ok (.l2i, 1) := by decide +kernel
theorem dX3_rotr64Lo_10 : decode cX3_rotr64Lo 10 = .ok (.ireturn, 1) := by decide +kernel
set_option maxRecDepth 20000 in
theorem ggX3_shaBlock_X3_right : GoodIn wsX3_shaBlock wsX3_right := goodIn_r _ [10] (by decide +kernel) (by decide +kernel)
set_option maxRecDepth 20000 in
theorem gX3_shaBlock_X3_right : GoodIn wsX3_shaBlock (va_wsS RX3 61 yX3_right wsX3_right) := goodIn_app (goodIn_of _ (by decide +kernel)) ggX3_shaBlock_X3_right
theorem dX3_shaBlock_0 : decode cX3_shaBlock 0 = .ok (.iconst 0, 1) := by decide +kernel
theorem dX3_shaBlock_1 : decode cX3_shaBlock 1 = .ok (.istore_n 1, 1) := by decide +kernel
theorem dX3_shaBlock_2 : decode cX3_shaBlock 2 = .ok (.iload_n 1, 1) := by decide +kernel
theorem dX3_shaBlock_3 : decode cX3_shaBlock 3 = .ok (.bipush 80, 2) := by decide +kernel
theorem dX3_shaBlock_5 : decode cX3_shaBlock 5 = .ok (.if_icmp .ge 155, 3) := by decide +kernel
theorem dX3_shaBlock_8 : decode cX3_shaBlock 8 = .ok (.iload_n 1, 1) := by decide +kernel
theorem dX3_shaBlock_9 : decode cX3_shaBlock 9 = .ok (.bipush 16, 2) := by decide +kernel
theorem dX3_shaBlock_11 : decode cX3_shaBlock 11 = .ok (.if_icmp .ge 50, 3) := by decide +kernel
theorem dX3_shaBlock_14 : decode cX3_shaBlock 14 = .ok (.lconst 0, 1) := by decide +kernel
theorem dX3_shaBlock_15 : decode cX3_shaBlock 15 = .ok (.lstore_n 2, 1) := by decide +kernel
theorem dX3_shaBlock_16 : decode cX3_shaBlock 16 = .ok (.iconst 0, 1) := by decide +kernel
theorem dX3_shaBlock_17 : decode cX3_shaBlock 17 = .ok (.istore 4, 2) := by decide +kernel
theorem dX3_shaBlock_19 : decode cX3_shaBlock 19 = .ok (.iload 4, 2) := by decide +kernel
theorem dX3_shaBlock_21 : decode cX3_shaBlock 21 = .ok (.bipush 8, 2) := by decide +kernel
theorem dX3_shaBlock_23 : decode cX3_shaBlock 23 = .ok (.if_icmp .ge 28, 3) := by decide +kernel
theorem dX3_shaBlock_26 : decode cX3_shaBlock 26 = .ok (.lload_n 2, 1) := by decide +kernel
theorem dX3_shaBlock_27 : decode cX3_shaBlock 27 = .ok (.bipush 8, 2) := by decide +kernel
theorem dX3_shaBlock_29 : decode cX3_shaBlock 29 = .ok (.lshl, 1) := by decide +kernel
theorem dX3_shaBlock_30 : decode cX3_shaBlock 30 = .ok (.aload_n 0, 1) := by decide +kernel
theorem dX3_shaBlock_31 : decode cX3_shaBlock 31 = .ok (.getfield 13, 3) := by decide +kernel
theorem dX3_shaBlock_34 : decode cX3_shaBlock 34 = .ok (.bipush 8, 2) := by decide +kernel
theorem dX3_shaBlock_36 : decode cX3_shaBlock 36 = .ok (.iload_n 1, 1) := by decide +kernel
theorem dX3_shaBlock_37 : decode cX3_shaBlock 37 = .ok (.imul, 1) := by decide +kernel
theorem dX3_shaBlock_38 : decode cX3_shaBlock 38 = .ok (.iload 4, 2) := by decide +kernel
theorem dX3_shaBlock_40 : decode cX3_shaBlock 40 = .ok (.iadd, 1) := by decide +kernel
theorem dX3_shaBlock_41 : decode cX3_shaBlock 41 = .ok (.iaload, 1) := by decide +kernel
theorem dX3_shaBlock_42 : decode cX3_shaBlock 42 = .ok (.i2l, 1) := by decide +kernel
theorem dX3_shaBlock_43 : decode cX3_shaBlock 43 = .ok (.lor, 1) := by decide +kernel
theorem dX3_shaBlock_44 : decode cX3_shaBlock 44 = .ok (.lstore_n 2, 1) := by decide +kernel
theorem dX3_shaBlock_45 : decode cX3_shaBlock 45 = .ok (.iinc 4 1, 3) := by decide +kernel
theorem dX3_shaBlock_48 : decode cX3_shaBlock 48 = .ok (.goto (-29), 3) := by decide +kernel
theorem dX3_shaBlock_51 : decode cX3_shaBlock 51 = .ok (.aload_n 0, 1) := by decide +kernel
theorem dX3_shaBlock_52 : decode cX3_shaBlock 52 = .ok (.getfield 26, 3) := by decide +kernel
theorem dX3_shaBlock_55 : decode cX3_shaBlock 55 = .ok (.iload_n 1, 1) := by decide +kernel
theorem dX3_shaBlock_56 : decode cX3_shaBlock 56 = .ok (.lload_n 2, 1) := by decide +kernel
theorem dX3_shaBlock_57 : decode cX3_shaBlock 57 = .ok (.lastore, 1) := by decide +kernel
theorem dX3_shaBlock_58 : decode cX3_shaBlock 58 = .ok (.goto 96, 3) := by decide +kernel
theorem dX3_shaBlock_61 : decode cX3_shaBlock 61 = .ok (.aload_n 0, 1) := by decide +kernel
theorem dX3_shaBlock_62 : decode cX3_shaBlock 62 = .ok (.getfield 26, 3) := by decide +kernel
theorem dX3_shaBlock_65 : decode cX3_shaBlock 65 = .ok (.iload_n 1, 1) := by decide +kernel
theorem dX3_shaBlock_66 : decode cX3_shaBlock 66 = .ok (.bipush 15, 2) := by decide +kernel
theorem dX3_shaBlock_68 : decode cX3_shaBlock 68 = .ok (.isub, 1) := by decide +kernel
theorem dX3_shaBlock_69 : decode cX3_shaBlock 69 = .ok (.laload, 1) := by decide +kernel
theorem dX3_shaBlock_70 : decode cX3_shaBlock 70 = .ok (.lstore_n 2, 1) := by decide +kernel
theorem dX3_shaBlock_71 : decode cX3_shaBlock 71 = .ok (.aload_n 0, 1) := by decide +kernel
theorem dX3_shaBlock_72 : decode cX3_shaBlock 72 = .ok (.getfield 26, 3) := by decide +kernel
theorem dX3_shaBlock_75 : decode cX3_shaBlock 75 = .ok (.iload_n 1, 1) := by decide +kernel
theorem dX3_shaBlock_76 : decode cX3_shaBlock 76 = .ok (.iconst 2, 1) := by decide +kernel
theorem dX3_shaBlock_77 : decode cX3_shaBlock 77 = .ok (.isub, 1) := by decide +kernel
theorem dX3_shaBlock_78 : decode cX3_shaBlock 78 = .ok (.laload, 1) := by decide +kernel
theorem dX3_shaBlock_79 : decode cX3_shaBlock 79 = .ok (.lstore 4, 2) := by decide +kernel
theorem dX3_shaBlock_81 : decode cX3_shaBlock 81 = .ok (.lload_n 2, 1) := by decide +kernel
theorem dX3_shaBlock_82 : decode cX3_shaBlock 82 = .ok (.iconst 1, 1) := by decide +kernel
theorem dX3_shaBlock_83 : decode cX3_shaBlock 83 = .ok (.invokestatic 61, 3) := by decide +kernel
theorem dX3_shaBlock_86 : decode cX3_shaBlock 86 = .ok (.lload_n 2, 1) := by decide +kernel
theorem dX3_shaBlock_87 : decode cX3_shaBlock 87 = .ok (.bipush 8, 2) := by decide +kernel
theorem dX3_shaBlock_89 : decode cX3_shaBlock 89 = .ok (.invokestatic 61, 3) := by decide +kernel
theorem dX3_shaBlock_92 : decode cX3_shaBlock 92 = .ok (.lxor, 1) := by decide +kernel
theorem dX3_shaBlock_93 : decode cX3_shaBlock 93 = .ok (.lload_n 2, 1) := by decide +kernel
theorem dX3_shaBlock_94 : decode cX3_shaBlock 94 = .ok (.bipush 7, 2) := by decide +kernel
theorem dX3_shaBlock_96 : decode cX3_shaBlock 96 = .ok (.lushr, 1) := by decide +kernel
theorem dX3_shaBlock_97 : decode cX3_shaBlock 97 = .ok (.lxor, 1) := by decide +kernel
theorem dX3_shaBlock_98 : decode cX3_shaBlock 98 = .ok (.lstore 6, 2) := by decide +kernel
theorem dX3_shaBlock_100 : decode cX3_shaBlock 100 = .ok (.lload 4, 2) := by decide +kernel
theorem dX3_shaBlock_102 : decode cX3_shaBlock 102 = .ok (.bipush 19, 2) := by decide +kernel
theorem dX3_shaBlock_104 : decode cX3_shaBlock 104 = .ok (.invokestatic 61, 3) := by decide +kernel
theorem dX3_shaBlock_107 : decode cX3_shaBlock 107 = .ok (.lload 4, 2) := by decide +kernel
theorem dX3_shaBlock_109 : decode cX3_shaBlock 109 = .ok (.bipush 61, 2) := by decide +kernel
theorem dX3_shaBlock_111 : decode cX3_shaBlock 111 = .ok (.invokestatic 61, 3) := by decide +kernel
theorem dX3_shaBlock_114 : decode cX3_shaBlock 114 = .ok (.lxor, 1) := by decide +kernel
theorem dX3_shaBlock_115 : decode cX3_shaBlock 115 = .ok (.lload 4, 2) := by decide +kernel
theorem dX3_shaBlock_117 : decode cX3_shaBlock 117 = .ok (.bipush 6, 2) := by decide +kernel
theorem dX3_shaBlock_119 : decode cX3_shaBlock 119 = .ok (.lushr, 1) := by decide +kernel
theorem dX3_shaBlock_120 : decode cX3_shaBlock 120 = .ok (.lxor, 1) := by decide +kernel
theorem dX3_shaBlock_121 : decode cX3_shaBlock 121 = .ok (.lstore 8, 2) := by decide +kernel
theorem dX3_shaBlock_123 : decode cX3_shaBlock 123 = .ok (.aload_n 0, 1) := by decide +kernel
theorem dX3_shaBlock_124 : decode cX3_shaBlock 124 = .ok (.getfield 26, 3) := by decide +kernel
theorem dX3_shaBlock_127 : decode cX3_shaBlock 127 = .ok (.iload_n 1, 1) := by decide +kernel
theorem dX3_shaBlock_128 : decode cX3_shaBlock 128 = .ok (.aload_n 0, 1) := by decide +kernel
theorem dX3_shaBlock_129 : decode cX3_shaBlock 129 = .ok (.getfield 26, 3) := by decide +kernel
theorem dX3_shaBlock_132 : decode cX3_shaBlock 132 = .ok (.iload_n 1, 1) := by decide +kernel
theorem dX3_shaBlock_133 : decode cX3_shaBlock 133 = .ok (.bipush 16, 2) := by decide +kernel
theorem dX3_shaBlock_135 : decode cX3_shaBlock 135 = .ok (.isub, 1) := by decide +kernel
theorem dX3_shaBlock_136 : decode cX3_shaBlock 136 = .ok (.laload, 1) := by decide +kernel
theorem dX3_shaBlock_137 : decode cX3_shaBlock 137 = .ok (.lload 6, 2) := by decide +kernel
theorem dX3_shaBlock_139 : decode cX3_shaBlock 139 = .ok (.ladd, 1) := by decide +kernel
theorem dX3_shaBlock_140 : decode cX3_shaBlock 140 = .ok (.aload_n 0, 1) := by decide +kernel
theorem dX3_shaBlock_141 : decode cX3_shaBlock 141 = .ok (.getfield 26, 3) := by decide +kernel
theorem dX3_shaBlock_144 : decode cX3_shaBlock 144 = .ok (.iload_n 1, 1) := by decide +kernel
theorem dX3_shaBlock_145 : decode cX3_shaBlock 145 = .ok (.bipush 7, 2) := by decide +kernel
theorem dX3_shaBlock_147 : decode cX3_shaBlock 147 = .ok (.isub, 1) := by decide +kernel
theorem dX3_shaBlock_148 : decode cX3_shaBlock 148 = .ok (.laload, 1) := by decide +kernel
theorem dX3_shaBlock_149 : decode cX3_shaBlock 149 = .ok (.ladd, 1) := by decide +kernel
theorem dX3_shaBlock_150 : decode cX3_shaBlock 150 = .ok (.lload 8, 2) := by decide +kernel
theorem dX3_shaBlock_152 : decode cX3_shaBlock 152 = .ok (.ladd, 1) := by decide +kernel
theorem dX3_shaBlock_153 : decode cX3_shaBlock 153 = .ok (.lastore, 1) := by decide +kernel
theorem dX3_shaBlock_154 : decode cX3_shaBlock 154 = .ok (.iinc 1 1, 3) := by decide +kernel
theorem dX3_shaBlock_157 : decode cX3_shaBlock 157 = .ok (.goto (-155), 3) := by decide +kernel
theorem dX3_shaBlock_160 : decode cX3_shaBlock 160 = .ok (.iconst 0, 1) := by decide +kernel
theorem dX3_shaBlock_161 : decode cX3_shaBlock 161 = .ok (.istore_n 1, 1) := by decide +kernel
theorem dX3_shaBlock_162 : decode cX3_shaBlock 162 = .ok (.iload_n 1, 1) := by decide +kernel
theorem dX3_shaBlock_163 : decode cX3_shaBlock 163 = .ok (.bipush 8, 2) := by decide +kernel
theorem dX3_shaBlock_165 : decode cX3_shaBlock 165 = .ok (.if_icmp .ge 21, 3) := by decide +kernel
theorem dX3_shaBlock_168 : decode cX3_shaBlock 168 = .ok (.aload_n 0, 1) := by decide +kernel
theorem dX3_shaBlock_169 : decode cX3_shaBlock 169 = .ok (.getfield 29, 3) := by decide +kernel
theorem dX3_shaBlock_172 : decode cX3_shaBlock 172 = .ok (.iload_n 1, 1) := by decide +kernel
theorem dX3_shaBlock_173 : decode cX3_shaBlock 173 = .ok (.aload_n 0, 1) := by decide +kernel
theorem dX3_shaBlock_174 : decode cX3_shaBlock 174 = .ok (.getfield 16, 3) := by decide +kernel
theorem dX3_shaBlock_177 : decode cX3_shaBlock 177 = .ok (.iload_n 1, 1) := by decide +kernel
theorem dX3_shaBlock_178 : decode cX3_shaBlock 178 = .ok (.laload, 1) := by decide +kernel
theorem dX3_shaBlock_179 : decode cX3_shaBlock 179 = .ok (.lastore, 1) := by decide +kernel
theorem dX3_shaBlock_180 : decode cX3_shaBlock 180 = .ok (.iinc 1 1, 3) := by decide +kernel
theorem dX3_shaBlock_183 : decode cX3_shaBlock 183 = .ok (.goto (-21), 3) := by decide +kernel
theorem dX3_shaBlock_186 : decode cX3_shaBlock 186 = .ok (.iconst 0, 1) := by decide +kernel
theorem dX3_shaBlock_187 : decode cX3_shaBlock 187 = .ok (.istore_n 1, 1) := by decide +kernel
theorem dX3_shaBlock_188 : decode cX3_shaBlock 188 = .ok (.iload_n 1, 1) := by decide +kernel
theorem dX3_shaBlock_189 : decode cX3_shaBlock 189 = .ok (.bipush 80, 2) := by decide +kernel
theorem dX3_shaBlock_191 : decode cX3_shaBlock 191 = .ok (.if_icmp .ge 241, 3) := by decide +kernel
theorem dX3_shaBlock_194 : decode cX3_shaBlock 194 = .ok (.bipush 80, 2) := by decide +kernel
theorem dX3_shaBlock_196 : decode cX3_shaBlock 196 = .ok (.iload_n 1, 1) := by decide +kernel
theorem dX3_shaBlock_197 : decode cX3_shaBlock 197 = .ok (.isub, 1) := by decide +kernel
theorem dX3_shaBlock_198 : decode cX3_shaBlock 198 = .ok (.bipush 8, 2) := by decide +kernel
theorem dX3_shaBlock_200 : decode cX3_shaBlock 200 = .ok (.irem, 1) := by decide +kernel
theorem dX3_shaBlock_201 : decode cX3_shaBlock 201 = .ok (.istore_n 2, 1) := by decide +kernel
theorem dX3_shaBlock_202 : decode cX3_shaBlock 202 = .ok (.aload_n 0, 1) := by decide +kernel
theorem dX3_shaBlock_203 : decode cX3_shaBlock 203 = .ok (.getfield 29, 3) := by decide +kernel
theorem dX3_shaBlock_206 : decode cX3_shaBlock 206 = .ok (.iload_n 2, 1) := by decide +kernel
theorem dX3_shaBlock_207 : decode cX3_shaBlock 207 = .ok (.iconst 4, 1) := by decide +kernel
theorem dX3_shaBlock_208 : decode cX3_shaBlock 208 = .ok (.iadd, 1) := by decide +kernel
theorem dX3_shaBlock_209 : decode cX3_shaBlock 209 = .ok (.bipush 8, 2) := by decide +kernel
theorem dX3_shaBlock_211 : decode cX3_shaBlock 211 = .ok (.irem, 1) := by decide +kernel
theorem dX3_shaBlock_212 : decode cX3_shaBlock 212 = .ok (.laload, 1) := by decide +kernel
theorem dX3_shaBlock_213 : decode cX3_shaBlock 213 = .ok (.lstore_n 3, 1) := by decide +kernel
theorem dX3_shaBlock_214 : decode cX3_shaBlock 214 = .ok (.aload_n 0, 1) := by decide +kernel
theorem dX3_shaBlock_215 : decode cX3_shaBlock 215 = .ok (.getfield 29, 3) := by decide +kernel
theorem dX3_shaBlock_218 : decode cX3_shaBlock 218 = .ok (.iload_n 2, 1) := by decide +kernel
theorem dX3_shaBlock_219 : decode cX3_shaBlock 219 = .ok (.iconst 5, 1) := by decide +kernel
theorem dX3_shaBlock_220 : decode cX3_shaBlock 220 = .ok (.iadd, 1) := by decide +kernel
theorem dX3_shaBlock_221 : decode cX3_shaBlock 221 = .ok (.bipush 8, 2) := by decide +kernel
theorem dX3_shaBlock_223 : decode cX3_shaBlock 223 = .ok (.irem, 1) := by decide +kernel
theorem dX3_shaBlock_224 : decode cX3_shaBlock 224 = .ok (.laload, 1) := by decide +kernel
theorem dX3_shaBlock_225 : decode cX3_shaBlock 225 = .ok (.lstore 5, 2) := by decide +kernel
theorem dX3_shaBlock_227 : decode cX3_shaBlock 227 = .ok (.aload_n 0, 1) := by decide +kernel
theorem dX3_shaBlock_228 : decode cX3_shaBlock 228 = .ok (.getfield 29, 3) := by decide +kernel
theorem dX3_shaBlock_231 : decode cX3_shaBlock 231 = .ok (.iload_n 2, 1) := by decide +kernel
theorem dX3_shaBlock_232 : decode cX3_shaBlock 232 = .ok (.bipush 6, 2) := by decide +kernel
theorem dX3_shaBlock_234 : decode cX3_shaBlock 234 = .ok (.iadd, 1) := by decide +kernel
theorem dX3_shaBlock_235 : decode cX3_shaBlock 235 = .ok (.bipush 8, 2) := by decide +kernel
theorem dX3_shaBlock_237 : decode cX3_shaBlock 237 = .ok (.irem, 1) := by decide +kernel
theorem dX3_shaBlock_238 : decode cX3_shaBlock 238 = .ok (.laload, 1) := by decide +kernel
theorem dX3_shaBlock_239 : decode cX3_shaBlock 239 = .ok (.lstore 7, 2) := by decide +kernel
theorem dX3_shaBlock_241 : decode cX3_shaBlock 241 = .ok (.aload_n 0, 1) := by decide +kernel
theorem dX3_shaBlock_242 : decode cX3_shaBlock 242 = .ok (.getfield 29, 3) := by decide +kernel
theorem dX3_shaBlock_245 : decode cX3_shaBlock 245 = .ok (.iload_n 2, 1) := by decide +kernel
theorem dX3_shaBlock_246 : decode cX3_shaBlock 246 = .ok (.bipush 7, 2) := by decide +kernel
theorem dX3_shaBlock_248 : decode cX3_shaBlock 248 = .ok (.iadd, 1) := by decide +kernel
theorem dX3_shaBlock_249 : decode cX3_shaBlock 249 = .ok (.bipush 8, 2) := by decide +kernel
theorem dX3_shaBlock_251 : decode cX3_shaBlock 251 = .ok (.irem, 1) := by decide +kernel
theorem dX3_shaBlock_252 : decode cX3_shaBlock 252 = .ok (.laload, 1) := by decide +kernel
theorem dX3_shaBlock_253 : decode cX3_shaBlock 253 = .ok (.lload_n 3, 1) := by decide +kernel
theorem dX3_shaBlock_254 : decode cX3_shaBlock 254 = .ok (.bipush 14, 2) := by decide +kernel
theorem dX3_shaBlock_256 : decode cX3_shaBlock 256 = .ok (.invokestatic 61, 3) := by decide +kernel
theorem dX3_shaBlock_259 : decode cX3_shaBlock 259 = .ok (.lload_n 3, 1) := by decide +kernel
theorem dX3_shaBlock_260 : decode cX3_shaBlock 260 = .ok (.bipush 18, 2) := by decide +kernel
theorem dX3_shaBlock_262 : decode cX3_shaBlock 262 = .ok (.invokestatic 61, 3) := by decide +kernel
theorem dX3_shaBlock_265 : decode cX3_shaBlock 265 = .ok (.lxor, 1) := by decide +kernel
theorem dX3_shaBlock_266 : decode cX3_shaBlock 266 = .ok (.lload_n 3, 1) := by decide +kernel
theorem dX3_shaBlock_267 : decode cX3_shaBlock 267 = .ok (.bipush 41, 2) := by decide +kernel
theorem dX3_shaBlock_269 : decode cX3_shaBlock 269 = .ok (.invokestatic 61, 3) := by decide +kernel
theorem dX3_shaBlock_272 : decode cX3_shaBlock 272 = .ok (.lxor, 1) := by decide +kernel
theorem dX3_shaBlock_273 : decode cX3_shaBlock 273 = .ok (.ladd, 1) := by decide +kernel
theorem dX3_shaBlock_274 : decode cX3_shaBlock 274 = .ok (.lload_n 3, 1) := by decide +kernel
theorem dX3_shaBlock_275 : decode cX3_shaBlock 275 = .ok (.lload 5, 2) := by decide +kernel
theorem dX3_shaBlock_277 : decode cX3_shaBlock 277 = .ok (.land, 1) := by decide +kernel
theorem dX3_shaBlock_278 : decode cX3_shaBlock 278 = .ok (.lload_n 3, 1) := by decide +kernel
theorem dX3_shaBlock_279 : decode cX3_shaBlock 279 = .ok (.ldc2_w 69, 3) := by decide +kernel
theorem dX3_shaBlock_282 : decode cX3_shaBlock 282 = .ok (.lxor, 1) := by decide +kernel
theorem dX3_shaBlock_283 : decode cX3_shaBlock 283 = .ok (.lload 7, 2) := by decide +kernel
theorem dX3_shaBlock_285 : decode cX3_shaBlock 285 = .ok (.land, 1) := by decide +kernel
theorem dX3_shaBlock_286 : decode cX3_shaBlock 286 = .ok (.lxor, 1) := by decide +kernel
theorem dX3_shaBlock_287 : decode cX3_shaBlock 287 = .ok (.ladd, 1) := by decide +kernel
theorem dX3_shaBlock_288 : decode cX3_shaBlock 288 = .ok (.aload_n 0, 1) := by decide +kernel
theorem dX3_shaBlock_289 : decode cX3_shaBlock 289 = .ok (.getfield 20, 3) := by decide +kernel
theorem dX3_shaBlock_292 : decode cX3_shaBlock 292 = .ok (.iload_n 1, 1) := by decide +kernel
theorem dX3_shaBlock_293 : decode cX3_shaBlock 293 = .ok (.laload, 1) := by decide +kernel
theorem dX3_shaBlock_294 : decode cX3_shaBlock 294 = .ok (.ladd, 1) := by decide +kernel
theorem dX3_shaBlock_295 : decode cX3_shaBlock 295 = .ok (.aload_n 0, 1) := by decide +kernel
theorem dX3_shaBlock_296 : decode cX3_shaBlock 296 = .ok (.getfield 26, 3) := by decide +kernel
theorem dX3_shaBlock_299 : decode cX3_shaBlock 299 = .ok (.iload_n 1, 1) := by decide +kernel
theorem dX3_shaBlock_300 : decode cX3_shaBlock 300 = .ok (.laload, 1) := by decide +kernel
theorem dX3_shaBlock_301 : decode cX3_shaBlock 301 = .ok (.ladd, 1) := by decide +kernel
theorem dX3_shaBlock_302 : decode cX3_shaBlock 302 = .ok (.lstore 9, 2) := by decide +kernel
theorem dX3_shaBlock_304 : decode cX3_shaBlock 304 = .ok (.aload_n 0, 1) := by decide +kernel
theorem dX3_shaBlock_305 : decode cX3_shaBlock 305 = .ok (.getfield 29, 3) := by decide +kernel
theorem dX3_shaBlock_308 : decode cX3_shaBlock 308 = .ok (.iload_n 2, 1) := by decide +kernel
theorem dX3_shaBlock_309 : decode cX3_shaBlock 309 = .ok (.iconst 1, 1) := by decide +kernel
theorem dX3_shaBlock_310 : decode cX3_shaBlock 310 = .ok (.iadd, 1) := by decide +kernel
theorem dX3_shaBlock_311 : decode cX3_shaBlock 311 = .ok (.bipush 8, 2) := by decide +kernel
theorem dX3_shaBlock_313 : decode cX3_shaBlock 313 = .ok (.irem, 1) := by decide +kernel
theorem dX3_shaBlock_314 : decode cX3_shaBlock 314 = .ok (.laload, 1) := by decide +kernel
theorem dX3_shaBlock_315 : decode cX3_shaBlock 315 = .ok (.lstore 11, 2) := by decide +kernel
theorem dX3_shaBlock_317 : decode cX3_shaBlock 317 = .ok (.aload_n 0, 1) := by decide +kernel
theorem dX3_shaBlock_318 : decode cX3_shaBlock 318 = .ok (.getfield 29, 3) := by decide +kernel
theorem dX3_shaBlock_321 : decode cX3_shaBlock 321 = .ok (.iload_n 2, 1) := by decide +kernel
theorem dX3_shaBlock_322 : decode cX3_shaBlock 322 = .ok (.iconst 2, 1) := by decide +kernel
theorem dX3_shaBlock_323 : decode cX3_shaBlock 323 = .ok (.iadd, 1) := by decide +kernel
theorem dX3_shaBlock_324 : decode cX3_shaBlock 324 = .ok (.bipush 8, 2) := by decide +kernel
theorem dX3_shaBlock_326 : decode cX3_shaBlock 326 = .ok (.irem, 1) := by decide +kernel
theorem dX3_shaBlock_327 : decode cX3_shaBlock 327 = .ok (.laload, 1) := by decide +kernel
theorem dX3_shaBlock_328 : decode cX3_shaBlock 328 = .ok (.lstore 13, 2) := by decide +kernel
theorem dX3_shaBlock_330 : decode cX3_shaBlock 330 = .ok (.aload_n 0, 1) := by decide +kernel
theorem dX3_shaBlock_331 : decode cX3_shaBlock 331 = .ok (.getfield 29, 3) := by decide +kernel
theorem dX3_shaBlock_334 : decode cX3_shaBlock 334 = .ok (.iload_n 2, 1) := by decide +kernel
theorem dX3_shaBlock_335 : decode cX3_shaBlock 335 = .ok (.laload, 1) := by decide +kernel
theorem dX3_shaBlock_336 : decode cX3_shaBlock 336 = .ok (.bipush 28, 2) := by decide +kernel
theorem dX3_shaBlock_338 : decode cX3_shaBlock 338 = .ok (.invokestatic 61, 3) := by decide +kernel
theorem dX3_shaBlock_341 : decode cX3_shaBlock 341 = .ok (.aload_n 0, 1) := by decide +kernel
theorem dX3_shaBlock_342 : decode cX3_shaBlock 342 = .ok (.getfield 29, 3) := by decide +kernel
theorem dX3_shaBlock_345 : decode cX3_shaBlock 345 = .ok (.iload_n 2, 1) := by decide +kernel
theorem dX3_shaBlock_346 : decode cX3_shaBlock 346 = .ok (.laload, 1) := by decide +kernel
theorem dX3_shaBlock_347 : decode cX3_shaBlock 347 = .ok (.bipush 34, 2) := by decide +kernel
theorem dX3_shaBlock_349 : decode cX3_shaBlock 349 = .ok (.invokestatic 61, 3) := by decide +kernel
theorem dX3_shaBlock_352 : decode cX3_shaBlock 352 = .ok (.lxor, 1) := by decide +kernel
theorem dX3_shaBlock_353 : decode cX3_shaBlock 353 = .ok (.aload_n 0, 1) := by decide +kernel
theorem dX3_shaBlock_354 : decode cX3_shaBlock 354 = .ok (.getfield 29, 3) := by decide +kernel
theorem dX3_shaBlock_357 : decode cX3_shaBlock 357 = .ok (.iload_n 2, 1) := by decide +kernel
theorem dX3_shaBlock_358 : decode cX3_shaBlock 358 = .ok (.laload, 1) := by decide +kernel
theorem dX3_shaBlock_359 : decode cX3_shaBlock 359 = .ok (.bipush 39, 2) := by decide +kernel
theorem dX3_shaBlock_361 : decode cX3_shaBlock 361 = .ok (.invokestatic 61, 3) := by decide +kernel
theorem dX3_shaBlock_364 : decode cX3_shaBlock 364 = .ok (.lxor, 1) := by decide +kernel
theorem dX3_shaBlock_365 : decode cX3_shaBlock 365 = .ok (.aload_n 0, 1) := by decide +kernel
theorem dX3_shaBlock_366 : decode cX3_shaBlock 366 = .ok (.getfield 29, 3) := by decide +kernel
theorem dX3_shaBlock_369 : decode cX3_shaBlock 369 = .ok (.iload_n 2, 1) := by decide +kernel
theorem dX3_shaBlock_370 : decode cX3_shaBlock 370 = .ok (.laload, 1) := by decide +kernel
theorem dX3_shaBlock_371 : decode cX3_shaBlock 371 = .ok (.lload 11, 2) := by decide +kernel
theorem dX3_shaBlock_373 : decode cX3_shaBlock 373 = .ok (.land, 1) := by decide +kernel
theorem dX3_shaBlock_374 : decode cX3_shaBlock 374 = .ok (.aload_n 0, 1) := by decide +kernel
theorem dX3_shaBlock_375 : decode cX3_shaBlock 375 = .ok (.getfield 29, 3) := by decide +kernel
theorem dX3_shaBlock_378 : decode cX3_shaBlock 378 = .ok (.iload_n 2, 1) := by decide +kernel
theorem dX3_shaBlock_379 : decode cX3_shaBlock 379 = .ok (.laload, 1) := by decide +kernel
theorem dX3_shaBlock_380 : decode cX3_shaBlock 380 = .ok (.lload 13, 2) := by decide +kernel
theorem dX3_shaBlock_382 : decode cX3_shaBlock 382 = .ok (.land, 1) := by decide +kernel
theorem dX3_shaBlock_383 : decode cX3_shaBlock 383 = .ok (.lor, 1) := by decide +kernel
theorem dX3_shaBlock_384 : decode cX3_shaBlock 384 = .ok (.lload 11, 2) := by decide +kernel
theorem dX3_shaBlock_386 : decode cX3_shaBlock 386 = .ok (.lload 13, 2) := by decide +kernel
theorem dX3_shaBlock_388 : decode cX3_shaBlock 388 = .ok (.land, 1) := by decide +kernel
theorem dX3_shaBlock_389 : decode cX3_shaBlock 389 = .ok (.lor, 1) := by decide +kernel
theorem dX3_shaBlock_390 : decode cX3_shaBlock 390 = .ok (.ladd, 1) := by decide +kernel
theorem dX3_shaBlock_391 : decode cX3_shaBlock 391 = .ok (.lstore 15, 2) := by decide +kernel
theorem dX3_shaBlock_393 : decode cX3_shaBlock 393 = .ok (.aload_n 0, 1) := by decide +kernel
theorem dX3_shaBlock_394 : decode cX3_shaBlock 394 = .ok (.getfield 29, 3) := by decide +kernel
theorem dX3_shaBlock_397 : decode cX3_shaBlock 397 = .ok (.iload_n 2, 1) := by decide +kernel
theorem dX3_shaBlock_398 : decode cX3_shaBlock 398 = .ok (.iconst 3, 1) := by decide +kernel
theorem dX3_shaBlock_399 : decode cX3_shaBlock 399 = .ok (.iadd, 1) := by decide +kernel
theorem dX3_shaBlock_400 : decode cX3_shaBlock 400 = .ok (.bipush 8, 2) := by decide +kernel
theorem dX3_shaBlock_402 : decode cX3_shaBlock 402 = .ok (.irem, 1) := by decide +kernel
theorem dX3_shaBlock_403 : decode cX3_shaBlock 403 = .ok (.dup2, 1) := by decide +kernel
theorem dX3_shaBlock_404 : decode cX3_shaBlock 404 = .ok (.laload, 1) := by decide +kernel
theorem dX3_shaBlock_405 : decode cX3_shaBlock 405 = .ok (.lload 9, 2) := by decide +kernel
theorem dX3_shaBlock_407 : decode cX3_shaBlock 407 = .ok (.ladd, 1) := by decide +kernel
theorem dX3_shaBlock_408 : decode cX3_shaBlock 408 = .ok (.lastore, 1) := by decide +kernel
theorem dX3_shaBlock_409 : decode cX3_shaBlock 409 = .ok (.aload_n 0, 1) := by decide +kernel
theorem dX3_shaBlock_410 : decode cX3_shaBlock 410 = .ok (.getfield 29, 3) := by decide +kernel
theorem dX3_shaBlock_413 : decode cX3_shaBlock 413 = .ok (.iload_n 2, 1) := by decide +kernel
theorem dX3_shaBlock_414 : decode cX3_shaBlock 414 = .ok (.bipush 7, 2) := by decide +kernel
theorem dX3_shaBlock_416 : decode cX3_shaBlock 416 = .ok (.iadd, 1) := by decide +kernel
theorem dX3_shaBlock_417 : decode cX3_shaBlock 417 = .ok (.bipush 8, 2) := by decide +kernel
theorem dX3_shaBlock_419 : decode cX3_shaBlock 419 = .ok (.irem, 1) := by decide +kernel
theorem dX3_shaBlock_420 : decode cX3_shaBlock 420 = .ok (.lload 9, 2) := by decide +kernel
theorem dX3_shaBlock_422 : decode cX3_shaBlock 422 = .ok (.lload 15, 2) := by decide +kernel
theorem dX3_shaBlock_424 : decode cX3_shaBlock 424 = .ok (.ladd, 1) := by decide +kernel
theorem dX3_shaBlock_425 : decode cX3_shaBlock 425 = .ok (.lastore, 1) := by decide +kernel
theorem dX3_shaBlock_426 : decode cX3_shaBlock 426 = .ok (.iinc 1 1, 3) := by decide +kernel
theorem dX3_shaBlock_429 : decode cX3_shaBlock 429 = .ok (.goto (-241), 3) := by decide +kernel
theorem dX3_shaBlock_432 : decode cX3_shaBlock 432 = .ok (.iconst 0, 1) := by decide +kernel
theorem dX3_shaBlock_433 : decode cX3_shaBlock 433 = .ok (.istore_n 1, 1) := by decide +kernel
theorem dX3_shaBlock_434 : decode cX3_shaBlock 434 = .ok (.iload_n 1, 1) := by decide +kernel
theorem dX3_shaBlock_435 : decode cX3_shaBlock 435 = .ok (.bipush 8, 2) := by decide +kernel
theorem dX3_shaBlock_437 : decode cX3_shaBlock 437 = .ok (.if_icmp .ge 24, 3) := by decide +kernel
theorem dX3_shaBlock_440 : decode cX3_shaBlock 440 = .ok (.aload_n 0, 1) := by decide +kernel
theorem dX3_shaBlock_441 : decode cX3_shaBlock 441 = .ok (.getfield 16, 3) := by decide +kernel
theorem dX3_shaBlock_444 : decode cX3_shaBlock 444 = .ok (.iload_n 1, 1) := by decide +kernel
theorem dX3_shaBlock_445 : decode cX3_shaBlock 445 = .ok (.dup2, 1) := by decide +kernel
theorem dX3_shaBlock_446 : decode cX3_shaBlock 446 = .ok (.laload, 1) := by decide +kernel
theorem dX3_shaBlock_447 : decode cX3_shaBlock 447 = .ok (.aload_n 0, 1) := by decide +kernel
theorem dX3_shaBlock_448 : decode cX3_shaBlock 448 = .ok (.getfield 29, 3) := by decide +kernel
theorem dX3_shaBlock_451 : decode cX3_shaBlock 451 = .ok (.iload_n 1, 1) := by decide +kernel
theorem dX3_shaBlock_452 : decode cX3_shaBlock 452 = .ok (.laload, 1) := by decide +kernel
theorem dX3_shaBlock_453 : decode cX3_shaBlock 453 = .ok (.ladd, 1) := by decide +kernel
theorem dX3_shaBlock_454 : decode cX3_shaBlock 454 = .ok (.lastore, 1) := by decide +kernel
theorem dX3_shaBlock_455 : decode cX3_shaBlock 455 = .ok (.iinc 1 1, 3) := by decide +kernel
theorem dX3_shaBlock_458 : decode cX3_shaBlock 458 = .ok (.goto (-24), 3) := by decide +kernel
theorem dX3_shaBlock_461 : decode cX3_shaBlock 461 = .ok (.return_, 1) := by decide +kernel
set_option maxRecDepth 20000 in
theorem ggX3_sipRounds_X3_left : GoodIn wsX3_sipRounds wsX3_left := goodIn_r _ [5, 6, 7, 4, 8] (by decide +kernel) (by decide +kernel)
set_option maxRecDepth 20000 in
theorem gX3_sipRounds_X3_left : GoodIn wsX3_sipRounds (va_wsS RX3 71 yX3_left wsX3_left) := goodIn_app (goodIn_of _ (by decide +kernel)) ggX3_sipRounds_X3_left
theorem dX3_sipRounds_0 : decode cX3_sipRounds 0 = .ok (.iconst 0, 1) := by decide +kernel
theorem dX3_sipRounds_1 : decode cX3_sipRounds 1 = .ok (.istore_n 2, 1) := by decide +kernel
theorem dX3_sipRounds_2 : decode cX3_sipRounds 2 = .ok (.iload_n 2, 1) := by decide +kernel
theorem dX3_sipRounds_3 : decode cX3_sipRounds 3 = .ok (.iload_n 1, 1) := by decide +kernel
theorem dX3_sipRounds_4 : decode cX3_sipRounds 4 = .ok (.if_icmp .ge 199, 3) := by decide +kernel
theorem dX3_sipRounds_7 : decode cX3_sipRounds 7 = .ok (.aload_n 0, 1) := by decide +kernel
theorem dX3_sipRounds_8 : decode cX3_sipRounds 8 = .ok (.getfield 16, 3) := by decide +kernel
theorem dX3_sipRounds_11 : decode cX3_sipRounds 11 = .ok (.iconst 0, 1) := by decide +kernel
theorem dX3_sipRounds_12 : decode cX3_sipRounds 12 = .ok (.dup2, 1) := by decide +kernel
theorem dX3_sipRounds_13 : decode cX3_sipRounds 13 = .ok (.laload, 1) := by decide +kernel
theorem dX3_sipRounds_14 : decode cX3_sipRounds 14 = .ok (.aload_n 0, 1) := by decide +kernel
theorem dX3_sipRounds_15 : decode cX3_sipRounds 15 = .ok (.getfield 16, 3) := by decide +kernel
theorem dX3_sipRounds_18 : decode cX3_sipRounds 18 = .ok (.iconst 1, 1) := by decide +kernel
theorem dX3_sipRounds_19 : decode cX3_sipRounds 19 = .ok (.laload, 1) := by decide +kernel
theorem dX3_sipRounds_20 : decode cX3_sipRounds 20 = .ok (.ladd, 1) := by decide +kernel
theorem dX3_sipRounds_21 : decode cX3_sipRounds 21 = .ok (.lastore, 1) := by decide +kernel
theorem dX3_sipRounds_22 : decode cX3_sipRounds 22 = .ok (.aload_n 0, 1) := by decide +kernel
theorem dX3_sipRounds_23 : decode cX3_sipRounds 23 = .ok (.getfield 16, 3) := by decide +kernel
theorem dX3_sipRounds_26 : decode cX3_sipRounds 26 = .ok (.iconst 2, 1) := by decide +kernel
theorem dX3_sipRounds_27 : decode cX3_sipRounds 27 = .ok (.dup2, 1) := by decide +kernel
theorem dX3_sipRounds_28 : decode cX3_sipRounds 28 = .ok (.laload, 1) := by decide +kernel
theorem dX3_sipRounds_29 : decode cX3_sipRounds 29 = .ok (.aload_n 0, 1) := by decide +kernel
theorem dX3_sipRounds_30 : decode cX3_sipRounds 30 = .ok (.getfield 16, 3) := by decide +kernel
theorem dX3_sipRounds_33 : decode cX3_sipRounds 33 = .ok (.iconst 3, 1) := by decide +kernel
theorem dX3_sipRounds_34 : decode cX3_sipRounds 34 = .ok (.laload, 1) := by decide +kernel
theorem dX3_sipRounds_35 : decode cX3_sipRounds 35 = .ok (.ladd, 1) := by decide +kernel
theorem dX3_sipRounds_36 : decode cX3_sipRounds 36 = .ok (.lastore, 1) := by decide +kernel
theorem dX3_sipRounds_37 : decode cX3_sipRounds 37 = .ok (.aload_n 0, 1) := by decide +kernel
theorem dX3_sipRounds_38 : decode cX3_sipRounds 38 = .ok (.getfield 16, 3) := by decide +kernel
theorem dX3_sipRounds_41 : decode cX3_sipRounds 41 = .ok (.iconst 1, 1) := by decide +kernel
theorem dX3_sipRounds_42 : decode cX3_sipRounds 42 = .ok (.aload_n 0, 1) := by decide +kernel
theorem dX3_sipRounds_43 : decode cX3_sipRounds 43 = .ok (.getfield 16, 3) := by decide +kernel
theorem dX3_sipRounds_46 : decode cX3_sipRounds 46 = .ok (.iconst 1, 1) := by decide +kernel
theorem dX3_sipRounds_47 : decode cX3_sipRounds 47 = .ok (.laload, 1) := by decide +kernel
theorem dX3_sipRounds_48 : decode cX3_sipRounds 48 = .ok (.bipush 13, 2) := by decide +kernel
theorem dX3_sipRounds_50 : decode cX3_sipRounds 50 = .ok (.invokestatic 71, 3) := by decide +kernel
theorem dX3_sipRounds_53 : decode cX3_sipRounds 53 = .ok (.aload_n 0, 1) := by decide +kernel
theorem dX3_sipRounds_54 : decode cX3_sipRounds 54 = .ok (.getfield 16, 3) := by decide +kernel
theorem dX3_sipRounds_57 : decode cX3_sipRounds 57 = .ok (.iconst 0, 1) := by decide +kernel
theorem dX3_sipRounds_58 : decode cX3_sipRounds 58 = .ok (.laload, 1) := by decide +kernel
theorem dX3_sipRounds_59 : decode cX3_sipRounds 59 = .ok (.lxor, 1) := by decide +kernel
theorem dX3_sipRounds_60 : decode cX3_sipRounds 60 = .ok (.lastore, 1) := by decide +kernel
theorem dX3_sipRounds_61 : decode cX3_sipRounds 61 = .ok (.aload_n 0, 1) := by decide +kernel
end
section
theorem dX3_sipRounds_62 : decode cX3_sipRounds 62 = .ok (.getfield 16, 3) := by decide +kernel
theorem dX3_sipRounds_65 : decode cX3_sipRounds 65 = .ok (.iconst 3, 1) := by decide +kernel
theorem dX3_sipRounds_66 : decode cX3_sipRounds 66 = .ok (.aload_n 0, 1) := by decide +kernel
theorem dX3_sipRounds_67 : decode cX3_sipRounds 67 = .ok (.getfield 16, 3) := by decide +kernel
theorem dX3_sipRounds_70 : decode cX3_sipRounds 70 = .ok (.iconst 3, 1) := by decide +kernel
theorem dX3_sipRounds_71 : decode cX3_sipRounds 71 = .ok (.laload, 1) := by decide +kernel
theorem dX3_sipRounds_72 : decode cX3_sipRounds 72 = .ok (.bipush 16, 2) := by decide +kernel
theorem dX3_sipRounds_74 : decode cX3_sipRounds 74 = .ok (.invokestatic 71, 3) := by decide +kernel
theorem dX3_sipRounds_77 : decode cX3_sipRounds 77 = .ok (.aload_n 0, 1) := by decide +kernel
theorem dX3_sipRounds_78 : decode cX3_sipRounds 78 = .ok (.getfield 16, 3) := by decide +kernel
theorem dX3_sipRounds_81 : decode cX3_sipRounds 81 = .ok (.iconst 2, 1) := by decide +kernel
theorem dX3_sipRounds_82 : decode cX3_sipRounds 82 = .ok (.laload, 1) := by decide +kernel
theorem dX3_sipRounds_83 : decode cX3_sipRounds 83 = .ok (.lxor, 1) := by decide +kernel
theorem dX3_sipRounds_84 : decode cX3_sipRounds 84 = .ok (.lastore, 1) := by decide +kernel
theorem dX3_sipRounds_85 : decode cX3_sipRounds 85 = .ok (.aload_n 0, 1) := by decide +kernel
theorem dX3_sipRounds_86 : decode cX3_sipRounds 86 = .ok (.getfield 16, 3) := by decide +kernel
theorem dX3_sipRounds_89 : decode cX3_sipRounds 89 = .ok (.iconst 0, 1) := by decide +kernel
theorem dX3_sipRounds_90 : decode cX3_sipRounds 90 = .ok (.aload_n 0, 1) := by decide +kernel
theorem dX3_sipRounds_91 : decode cX3_sipRounds 91 = .ok (.getfield 16, 3) := by decide +kernel
theorem dX3_sipRounds_94 : decode cX3_sipRounds 94 = .ok (.iconst 0, 1) := by decide +kernel
theorem dX3_sipRounds_95 : decode cX3_sipRounds 95 = .ok (.laload, 1) := by decide +kernel
theorem dX3_sipRounds_96 : decode cX3_sipRounds 96 = .ok (.bipush 32, 2) := by decide +kernel
theorem dX3_sipRounds_98 : decode cX3_sipRounds 98 = .ok (.invokestatic 71, 3) := by decide +kernel
theorem dX3_sipRounds_101 : decode cX3_sipRounds 101 = .ok (.lastore, 1) := by decide +kernel
theorem dX3_sipRounds_102 : decode cX3_sipRounds 102 = .ok (.aload_n 0, 1) := by decide +kernel
theorem dX3_sipRounds_103 : decode cX3_sipRounds 103 = .ok (.getfield 16, 3) := by decide +kernel
theorem dX3_sipRounds_106 : decode cX3_sipRounds 106 = .ok (.iconst 2, 1) := by decide +kernel
theorem dX3_sipRounds_107 : decode cX3_sipRounds 107 = .ok (.dup2, 1) := by decide +kernel
theorem dX3_sipRounds_108 : decode cX3_sipRounds 108 = .ok (.laload, 1) := by decide +kernel
theorem dX3_sipRounds_109 : decode cX3_sipRounds 109 = .ok (.aload_n 0, 1) := by decide +kernel
theorem dX3_sipRounds_110 : decode cX3_sipRounds 110 = .ok (.getfield 16, 3) := by decide +kernel
theorem dX3_sipRounds_113 : decode cX3_sipRounds 113 = .ok (.iconst 1, 1) := by decide +kernel
theorem dX3_sipRounds_114 : decode cX3_sipRounds 114 = .ok (.laload, 1) := by decide +kernel
theorem dX3_sipRounds_115 : decode cX3_sipRounds 115 = .ok (.ladd, 1) := by decide +kernel
theorem dX3_sipRounds_116 : decode cX3_sipRounds 116 = .ok (.lastore, 1) := by decide +kernel
theorem dX3_sipRounds_117 : decode cX3_sipRounds 117 = .ok (.aload_n 0, 1) := by decide +kernel
theorem dX3_sipRounds_118 : decode cX3_sipRounds 118 = .ok (.getfield 16, 3) := by decide +kernel
theorem dX3_sipRounds_121 : decode cX3_sipRounds 121 = .ok (.iconst 0, 1) := by decide +kernel
theorem dX3_sipRounds_122 : decode cX3_sipRounds 122 = .ok (.dup2, 1) := by decide +kernel
theorem dX3_sipRounds_123 : decode cX3_sipRounds 123 = .ok (.laload, 1) := by decide +kernel
theorem dX3_sipRounds_124 : decode cX3_sipRounds 124 = .ok (.aload_n 0, 1) := by decide +kernel
theorem dX3_sipRounds_125 : decode cX3_sipRounds 125 = .ok (.getfield 16, 3) := by decide +kernel
theorem dX3_sipRounds_128 : decode cX3_sipRounds 128 = .ok (.iconst 3, 1) := by decide +kernel
theorem dX3_sipRounds_129 : decode cX3_sipRounds 129 = .ok (.laload, 1) := by decide +kernel
theorem dX3_sipRounds_130 : decode cX3_sipRounds 130 = .ok (.ladd, 1) := by decide +kernel
theorem dX3_sipRounds_131 : decode cX3_sipRounds 131 = .ok (.lastore, 1) := by decide +kernel
theorem dX3_sipRounds_132 : decode cX3_sipRounds 132 = .ok (.aload_n 0, 1) := by decide +kernel
theorem dX3_sipRounds_133 : decode cX3_sipRounds 133 = .ok (.getfield 16, 3) := by decide +kernel
theorem dX3_sipRounds_136 : decode cX3_sipRounds 136 = .ok (.iconst 1, 1) := by decide +kernel
theorem dX3_sipRounds_137 : decode cX3_sipRounds 137 = .ok (.aload_n 0, 1) := by decide +kernel
theorem dX3_sipRounds_138 : decode cX3_sipRounds 138 = .ok (.getfield 16, 3) := by decide +kernel
theorem dX3_sipRounds_141 : decode cX3_sipRounds 141 = .ok (.iconst 1, 1) := by decide +kernel
theorem dX3_sipRounds_142 : decode cX3_sipRounds 142 = .ok (.laload, 1) := by decide +kernel
theorem dX3_sipRounds_143 : decode cX3_sipRounds 143 = .ok (.bipush 17, 2) := by decide +kernel
theorem dX3_sipRounds_145 : decode cX3_sipRounds 145 = .ok (.invokestatic 71, 3) := by decide +kernel
theorem dX3_sipRounds_148 : decode cX3_sipRounds 148 = .ok (.aload_n 0, 1) := by decide +kernel
theorem dX3_sipRounds_149 : decode cX3_sipRounds 149 = .ok (.getfield 16, 3) := by decide +kernel
theorem dX3_sipRounds_152 : decode cX3_sipRounds 152 = .ok (.iconst 2, 1) := by decide +kernel
theorem dX3_sipRounds_153 : decode cX3_sipRounds 153 = .ok (.laload, 1) := by decide +kernel
theorem dX3_sipRounds_154 : decode cX3_sipRounds 154 = .ok (.lxor, 1) := by decide +kernel
theorem dX3_sipRounds_155 : decode cX3_sipRounds 155 = .ok (.lastore, 1) := by decide +kernel
theorem dX3_sipRounds_156 : decode cX3_sipRounds 156 = .ok (.aload_n 0, 1) := by decide +kernel
theorem dX3_sipRounds_157 : decode cX3_sipRounds 157 = .ok (.getfield 16, 3) := by decide +kernel
theorem dX3_sipRounds_160 : decode cX3_sipRounds 160 = .ok (.iconst 3, 1) := by decide +kernel
theorem dX3_sipRounds_161 : decode cX3_sipRounds 161 = .ok (.aload_n 0, 1) := by decide +kernel
theorem dX3_sipRounds_162 : decode cX3_sipRounds 162 = .ok (.getfield 16, 3) := by decide +kernel
theorem dX3_sipRounds_165 : decode cX3_sipRounds 165 = .ok (.iconst 3, 1) := by decide +kernel
theorem dX3_sipRounds_166 : decode cX3_sipRounds 166 = .ok (.laload, 1) := by decide +kernel
theorem dX3_sipRounds_167 : decode cX3_sipRounds 167 = .ok (.bipush 21, 2) := by decide +kernel
theorem dX3_sipRounds_169 : decode cX3_sipRounds 169 = .ok (.invokestatic 71, 3) := by decide +kernel
theorem dX3_sipRounds_172 : decode cX3_sipRounds 172 = .ok (.aload_n 0, 1) := by decide +kernel
theorem dX3_sipRounds_173 : decode cX3_sipRounds 173 = .ok (.getfield 16, 3) := by decide +kernel
theorem dX3_sipRounds_176 : decode cX3_sipRounds 176 = .ok (.iconst 0, 1) := by decide +kernel
theorem dX3_sipRounds_177 : decode cX3_sipRounds 177 = .ok (.laload, 1) := by decide +kernel
theorem dX3_sipRounds_178 : decode cX3_sipRounds 178 = .ok (.lxor, 1) := by decide +kernel
theorem dX3_sipRounds_179 : decode cX3_sipRounds 179 = .ok (.lastore, 1) := by decide +kernel
theorem dX3_sipRounds_180 : decode cX3_sipRounds 180 = .ok (.aload_n 0, 1) := by decide +kernel
theorem dX3_sipRounds_181 : decode cX3_sipRounds 181 = .ok (.getfield 16, 3) := by decide +kernel
theorem dX3_sipRounds_184 : decode cX3_sipRounds 184 = .ok (.iconst 2, 1) := by decide +kernel
theorem dX3_sipRounds_185 : decode cX3_sipRounds 185 = .ok (.aload_n 0, 1) := by decide +kernel
theorem dX3_sipRounds_186 : decode cX3_sipRounds 186 = .ok (.getfield 16, 3) := by decide +kernel
theorem dX3_sipRounds_189 : decode cX3_sipRounds 189 = .ok (.iconst 2, 1) := by decide +kernel
theorem dX3_sipRounds_190 : decode cX3_sipRounds 190 = .ok (.laload, 1) := by decide +kernel
theorem dX3_sipRounds_191 : decode cX3_sipRounds 191 = .ok (.bipush 32, 2) := by decide +kernel
theorem dX3_sipRounds_193 : decode cX3_sipRounds 193 = .ok (.invokestatic 71, 3) := by decide +kernel
theorem dX3_sipRounds_196 : decode cX3_sipRounds 196 = .ok (.lastore, 1) := by decide +kernel
theorem dX3_sipRounds_197 : decode cX3_sipRounds 197 = .ok (.iinc 2 1, 3) := by decide +kernel
theorem dX3_sipRounds_200 : decode cX3_sipRounds 200 = .ok (.goto (-198), 3) := by decide +kernel
theorem dX3_sipRounds_203 : decode cX3_sipRounds 203 = .ok (.return_, 1) := by decide +kernel
set_option maxRecDepth 20000 in
theorem ggX3_sipBlock_X3_sipRounds : GoodIn wsX3_sipBlock wsX3_sipRounds := goodIn_r _ [7, 2, 8, 9, 6, 10, 11, 12, 13, 14, 15, 16, 17, 18, 19, 20, 21, 22, 23, 24, 25, 26, 27, 28, 29, 30] (by decide +kernel) (by decide +kernel)
set_option maxRecDepth 20000 in
theorem gX3_sipBlock_X3_sipRounds : GoodIn wsX3_sipBlock (wsV RX3 74 RX3 yX3_sipRounds wsX3_sipRounds) := goodIn_app (goodIn_of _ (by decide +kernel)) ggX3_sipBlock_X3_sipRounds
theorem dX3_sipBlock_0 : decode cX3_sipBlock 0 = .ok (.lconst 0, 1) := by decide +kernel
theorem dX3_sipBlock_1 : decode cX3_sipBlock 1 = .ok (.lstore_n 1, 1) := by decide +kernel
theorem dX3_sipBlock_2 : decode cX3_sipBlock 2 = .ok (.bipush 7, 2) := by decide +kernel
theorem dX3_sipBlock_4 : decode cX3_sipBlock 4 = .ok (.istore_n 3, 1) := by decide +kernel
theorem dX3_sipBlock_5 : decode cX3_sipBlock 5 = .ok (.iload_n 3, 1) := by decide +kernel
theorem dX3_sipBlock_6 : decode cX3_sipBlock 6 = .ok (.ifCond .lt 22, 3) := by decide +kernel
theorem dX3_sipBlock_9 : decode cX3_sipBlock 9 = .ok (.lload_n 1, 1) := by decide +kernel
theorem dX3_sipBlock_10 : decode cX3_sipBlock 10 = .ok (.bipush 8, 2) := by decide +kernel
theorem dX3_sipBlock_12 : decode cX3_sipBlock 12 = .ok (.lshl, 1) := by decide +kernel
theorem dX3_sipBlock_13 : decode cX3_sipBlock 13 = .ok (.aload_n 0, 1) := by decide +kernel
theorem dX3_sipBlock_14 : decode cX3_sipBlock 14 = .ok (.getfield 13, 3) := by decide +kernel
theorem dX3_sipBlock_17 : decode cX3_sipBlock 17 = .ok (.iload_n 3, 1) := by decide +kernel
theorem dX3_sipBlock_18 : decode cX3_sipBlock 18 = .ok (.iaload, 1) := by decide +kernel
theorem dX3_sipBlock_19 : decode cX3_sipBlock 19 = .ok (.i2l, 1) := by decide +kernel
theorem dX3_sipBlock_20 : decode cX3_sipBlock 20 = .ok (.lor, 1) := by decide +kernel
theorem dX3_sipBlock_21 : decode cX3_sipBlock 21 = .ok (.lstore_n 1, 1) := by decide +kernel
theorem dX3_sipBlock_22 : decode cX3_sipBlock 22 = .ok (.iinc 3 (-1), 3) := by decide +kernel
theorem dX3_sipBlock_25 : decode cX3_sipBlock 25 = .ok (.goto (-20), 3) := by decide +kernel
theorem dX3_sipBlock_28 : decode cX3_sipBlock 28 = .ok (.aload_n 0, 1) := by decide +kernel
theorem dX3_sipBlock_29 : decode cX3_sipBlock 29 = .ok (.getfield 16, 3) := by decide +kernel
theorem dX3_sipBlock_32 : decode cX3_sipBlock 32 = .ok (.iconst 3, 1) := by decide +kernel
theorem dX3_sipBlock_33 : decode cX3_sipBlock 33 = .ok (.dup2, 1) := by decide +kernel
theorem dX3_sipBlock_34 : decode cX3_sipBlock 34 = .ok (.laload, 1) := by decide +kernel
theorem dX3_sipBlock_35 : decode cX3_sipBlock 35 = .ok (.lload_n 1, 1) := by decide +kernel
theorem dX3_sipBlock_36 : decode cX3_sipBlock 36 = .ok (.lxor, 1) := by decide +kernel
theorem dX3_sipBlock_37 : decode cX3_sipBlock 37 = .ok (.lastore, 1) := by decide +kernel
theorem dX3_sipBlock_38 : decode cX3_sipBlock 38 = .ok (.aload_n 0, 1) := by decide +kernel
theorem dX3_sipBlock_39 : decode cX3_sipBlock 39 = .ok (.iconst 2, 1) := by decide +kernel
theorem dX3_sipBlock_40 : decode cX3_sipBlock 40 = .ok (.invokevirtual 74, 3) := by decide +kernel
theorem dX3_sipBlock_43 : decode cX3_sipBlock 43 = .ok (.aload_n 0, 1) := by decide +kernel
theorem dX3_sipBlock_44 : decode cX3_sipBlock 44 = .ok (.getfield 16, 3) := by decide +kernel
theorem dX3_sipBlock_47 : decode cX3_sipBlock 47 = .ok (.iconst 0, 1) := by decide +kernel
theorem dX3_sipBlock_48 : decode cX3_sipBlock 48 = .ok (.dup2, 1) := by decide +kernel
theorem dX3_sipBlock_49 : decode cX3_sipBlock 49 = .ok (.laload, 1) := by decide +kernel
theorem dX3_sipBlock_50 : decode cX3_sipBlock 50 = .ok (.lload_n 1, 1) := by decide +kernel
theorem dX3_sipBlock_51 : decode cX3_sipBlock 51 = .ok (.lxor, 1) := by decide +kernel
theorem dX3_sipBlock_52 : decode cX3_sipBlock 52 = .ok (.lastore, 1) := by decide +kernel
theorem dX3_sipBlock_53 : decode cX3_sipBlock 53 = .ok (.return_, 1) := by decide +kernel
theorem dX3_init__0 : decode cX3_init_ 0 = .ok (.aload_n 0, 1) := by decide +kernel
theorem dX3_init__1 : decode cX3_init_ 1 = .ok (.iconst 1, 1) := by decide +kernel
theorem dX3_init__2 : decode cX3_init_ 2 = .ok (.putfield 78, 3) := by decide +kernel
theorem dX3_init__5 : decode cX3_init_ 5 = .ok (.return_, 1) := by decide +kernel
theorem dX3_begin_0 : decode cX3_begin 0 = .ok (.aload_n 0, 1) := by decide +kernel
theorem dX3_begin_1 : decode cX3_begin 1 = .ok (.iload_n 1, 1) := by decide +kernel
theorem dX3_begin_2 : decode cX3_begin 2 = .ok (.putfield 82, 3) := by decide +kernel
theorem dX3_begin_5 : decode cX3_begin 5 = .ok (.aload_n 0, 1) := by decide +kernel
theorem dX3_begin_6 : decode cX3_begin 6 = .ok (.iconst 0, 1) := by decide +kernel
theorem dX3_begin_7 : decode cX3_begin 7 = .ok (.putfield 86, 3) := by decide +kernel
theorem dX3_begin_10 : decode cX3_begin 10 = .ok (.aload_n 0, 1) := by decide +kernel
theorem dX3_begin_11 : decode cX3_begin 11 = .ok (.iconst 0, 1) := by decide +kernel
theorem dX3_begin_12 : decode cX3_begin 12 = .ok (.putfield 89, 3) := by decide +kernel
theorem dX3_begin_15 : decode cX3_begin 15 = .ok (.aload_n 0, 1) := by decide +kernel
theorem dX3_begin_16 : decode cX3_begin 16 = .ok (.iconst 0, 1) := by decide +kernel
theorem dX3_begin_17 : decode cX3_begin 17 = .ok (.putfield 92, 3) := by decide +kernel
theorem dX3_begin_20 : decode cX3_begin 20 = .ok (.return_, 1) := by decide +kernel
set_option maxRecDepth 20000 in
theorem ggX3_beginSha_X3_begin : GoodIn wsX3_beginSha wsX3_begin := goodIn_r _ [8, 9, 10, 11, 12, 13, 14, 15, 16, 17, 18, 19, 20, 21, 22, 23, 24, 25, 26, 27, 28, 29] (by decide +kernel) (by decide +kernel)
set_option maxRecDepth 20000 in
theorem gX3_beginSha_X3_begin : GoodIn wsX3_beginSha (wsV RX3 95 RX3 yX3_begin wsX3_begin) := goodIn_app (goodIn_of _ (by decide +kernel)) ggX3_beginSha_X3_begin
theorem dX3_beginSha_0 : decode cX3_beginSha 0 = .ok (.aload_n 0, 1) := by decide +kernel
theorem dX3_beginSha_1 : decode cX3_beginSha 1 = .ok (.getfield 78, 3) := by decide +kernel
theorem dX3_beginSha_4 : decode cX3_beginSha 4 = .ok (.ifCond .eq 21, 3) := by decide +kernel
theorem dX3_beginSha_7 : decode cX3_beginSha 7 = .ok (.iload_n 1, 1) := by decide +kernel
theorem dX3_beginSha_8 : decode cX3_beginSha 8 = .ok (.sipush 384, 3) := by decide +kernel
theorem dX3_beginSha_11 : decode cX3_beginSha 11 = .ok (.if_icmp .eq 10, 3) := by decide +kernel
theorem dX3_beginSha_14 : decode cX3_beginSha 14 = .ok (.iload_n 1, 1) := by decide +kernel
theorem dX3_beginSha_15 : decode cX3_beginSha 15 = .ok (.sipush 512, 3) := by decide +kernel
theorem dX3_beginSha_18 : decode cX3_beginSha 18 = .ok (.if_icmp .ne 7, 3) := by decide +kernel
theorem dX3_beginSha_21 : decode cX3_beginSha 21 = .ok (.iconst 1, 1) := by decide +kernel
theorem dX3_beginSha_22 : decode cX3_beginSha 22 = .ok (.goto 4, 3) := by decide +kernel
theorem dX3_beginSha_25 : decode cX3_beginSha 25 = .ok (.iconst 0, 1) := by decide +kernel
theorem dX3_beginSha_26 : decode cX3_beginSha 26 = .ok (.istore_n 2, 1) := by decide +kernel
theorem dX3_beginSha_27 : decode cX3_beginSha 27 = .ok (.iload_n 2, 1) := by decide +kernel
theorem dX3_beginSha_28 : decode cX3_beginSha 28 = .ok (.ifCond .eq 59, 3) := by decide +kernel
theorem dX3_beginSha_31 : decode cX3_beginSha 31 = .ok (.aload_n 0, 1) := by decide +kernel
theorem dX3_beginSha_32 : decode cX3_beginSha 32 = .ok (.iload_n 1, 1) := by decide +kernel
theorem dX3_beginSha_33 : decode cX3_beginSha 33 = .ok (.sipush 384, 3) := by decide +kernel
theorem dX3_beginSha_36 : decode cX3_beginSha 36 = .ok (.if_icmp .ne 7, 3) := by decide +kernel
theorem dX3_beginSha_39 : decode cX3_beginSha 39 = .ok (.iconst 2, 1) := by decide +kernel
theorem dX3_beginSha_40 : decode cX3_beginSha 40 = .ok (.goto 4, 3) := by decide +kernel
theorem dX3_beginSha_43 : decode cX3_beginSha 43 = .ok (.iconst 1, 1) := by decide +kernel
theorem dX3_beginSha_44 : decode cX3_beginSha 44 = .ok (.invokevirtual 95, 3) := by decide +kernel
theorem dX3_beginSha_47 : decode cX3_beginSha 47 = .ok (.iconst 0, 1) := by decide +kernel
theorem dX3_beginSha_48 : decode cX3_beginSha 48 = .ok (.istore_n 3, 1) := by decide +kernel
theorem dX3_beginSha_49 : decode cX3_beginSha 49 = .ok (.iload_n 3, 1) := by decide +kernel
theorem dX3_beginSha_50 : decode cX3_beginSha 50 = .ok (.bipush 8, 2) := by decide +kernel
theorem dX3_beginSha_52 : decode cX3_beginSha 52 = .ok (.if_icmp .ge 35, 3) := by decide +kernel
theorem dX3_beginSha_55 : decode cX3_beginSha 55 = .ok (.aload_n 0, 1) := by decide +kernel
theorem dX3_beginSha_56 : decode cX3_beginSha 56 = .ok (.getfield 16, 3) := by decide +kernel
theorem dX3_beginSha_59 : decode cX3_beginSha 59 = .ok (.iload_n 3, 1) := by decide +kernel
theorem dX3_beginSha_60 : decode cX3_beginSha 60 = .ok (.aload_n 0, 1) := by decide +kernel
theorem dX3_beginSha_61 : decode cX3_beginSha 61 = .ok (.getfield 23, 3) := by decide +kernel
theorem dX3_beginSha_64 : decode cX3_beginSha 64 = .ok (.iload_n 1, 1) := by decide +kernel
theorem dX3_beginSha_65 : decode cX3_beginSha 65 = .ok (.sipush 384, 3) := by decide +kernel
theorem dX3_beginSha_68 : decode cX3_beginSha 68 = .ok (.if_icmp .ne 10, 3) := by decide +kernel
theorem dX3_beginSha_71 : decode cX3_beginSha 71 = .ok (.bipush 8, 2) := by decide +kernel
theorem dX3_beginSha_73 : decode cX3_beginSha 73 = .ok (.iload_n 3, 1) := by decide +kernel
theorem dX3_beginSha_74 : decode cX3_beginSha 74 = .ok (.iadd, 1) := by decide +kernel
theorem dX3_beginSha_75 : decode cX3_beginSha 75 = .ok (.goto 4, 3) := by decide +kernel
theorem dX3_beginSha_78 : decode cX3_beginSha 78 = .ok (.iload_n 3, 1) := by decide +kernel
theorem dX3_beginSha_79 : decode cX3_beginSha 79 = .ok (.laload, 1) := by decide +kernel
theorem dX3_beginSha_80 : decode cX3_beginSha 80 = .ok (.lastore, 1) := by decide +kernel
theorem dX3_beginSha_81 : decode cX3_beginSha 81 = .ok (.iinc 3 1, 3) := by decide +kernel
theorem dX3_beginSha_84 : decode cX3_beginSha 84 = .ok (.goto (-35), 3) := by decide +kernel
theorem dX3_beginSha_87 : decode cX3_beginSha 87 = .ok (.iload_n 2, 1) := by decide +kernel
theorem dX3_beginSha_88 : decode cX3_beginSha 88 = .ok (.ireturn, 1) := by decide +kernel
theorem dX3_sipKey_0 : decode cX3_sipKey 0 = .ok (.iload_n 1, 1) := by decide +kernel
theorem dX3_sipKey_1 : decode cX3_sipKey 1 = .ok (.ifCond .lt 8, 3) := by decide +kernel
theorem dX3_sipKey_4 : decode cX3_sipKey 4 = .ok (.iload_n 1, 1) := by decide +kernel
theorem dX3_sipKey_5 : decode cX3_sipKey 5 = .ok (.iconst 3, 1) := by decide +kernel
theorem dX3_sipKey_6 : decode cX3_sipKey 6 = .ok (.if_icmp .le 5, 3) := by decide +kernel
theorem dX3_sipKey_9 : decode cX3_sipKey 9 = .ok (.iconst 0, 1) := by decide +kernel
theorem dX3_sipKey_10 : decode cX3_sipKey 10 = .ok (.ireturn, 1) := by decide +kernel
theorem dX3_sipKey_11 : decode cX3_sipKey 11 = .ok (.aload_n 0, 1) := by decide +kernel
theorem dX3_sipKey_12 : decode cX3_sipKey 12 = .ok (.getfield 7, 3) := by decide +kernel
theorem dX3_sipKey_15 : decode cX3_sipKey 15 = .ok (.iload_n 1, 1) := by decide +kernel
theorem dX3_sipKey_16 : decode cX3_sipKey 16 = .ok (.iload_n 2, 1) := by decide +kernel
theorem dX3_sipKey_17 : decode cX3_sipKey 17 = .ok (.iastore, 1) := by decide +kernel
theorem dX3_sipKey_18 : decode cX3_sipKey 18 = .ok (.iconst 1, 1) := by decide +kernel
theorem dX3_sipKey_19 : decode cX3_sipKey 19 = .ok (.ireturn, 1) := by decide +kernel
set_option maxRecDepth 20000 in
theorem ggX3_beginSip_X3_begin : GoodIn wsX3_beginSip wsX3_begin := goodIn_r _ [14, 15, 16, 17, 18, 23, 24, 25, 26, 27, 28, 29, 30, 31, 32, 33, 34, 35, 36, 37, 38, 39] (by decide +kernel) (by decide +kernel)
set_option maxRecDepth 20000 in
theorem gX3_beginSip_X3_begin : GoodIn wsX3_beginSip (wsV RX3 95 RX3 yX3_begin wsX3_begin) := goodIn_app (goodIn_of _ (by decide +kernel)) ggX3_beginSip_X3_begin
set_option maxRecDepth 20000 in
theorem ggX3_beginSip_X3_of : GoodIn wsX3_beginSip wsX3_of := goodIn_r _ [21, 22] (by decide +kernel) (by decide +kernel)
set_option maxRecDepth 20000 in
theorem gX3_beginSip_X3_of : GoodIn wsX3_beginSip (va_wsS RX3 65 yX3_of wsX3_of) := goodIn_app (goodIn_of _ (by decide +kernel)) ggX3_beginSip_X3_of
theorem dX3_beginSip_0 : decode cX3_beginSip 0 = .ok (.aload_n 0, 1) := by decide +kernel
theorem dX3_beginSip_1 : decode cX3_beginSip 1 = .ok (.getfield 78, 3) := by decide +kernel
theorem dX3_beginSip_4 : decode cX3_beginSip 4 = .ok (.ifCond .ne 5, 3) := by decide +kernel
theorem dX3_beginSip_7 : decode cX3_beginSip 7 = .ok (.iconst 0, 1) := by decide +kernel
theorem dX3_beginSip_8 : decode cX3_beginSip 8 = .ok (.ireturn, 1) := by decide +kernel
theorem dX3_beginSip_9 : decode cX3_beginSip 9 = .ok (.aload_n 0, 1) := by decide +kernel
theorem dX3_beginSip_10 : decode cX3_beginSip 10 = .ok (.iconst 3, 1) := by decide +kernel
theorem dX3_beginSip_11 : decode cX3_beginSip 11 = .ok (.invokevirtual 95, 3) := by decide +kernel
theorem dX3_beginSip_14 : decode cX3_beginSip 14 = .ok (.aload_n 0, 1) := by decide +kernel
theorem dX3_beginSip_15 : decode cX3_beginSip 15 = .ok (.aload_n 0, 1) := by decide +kernel
theorem dX3_beginSip_16 : decode cX3_beginSip 16 = .ok (.getfield 7, 3) := by decide +kernel
theorem dX3_beginSip_19 : decode cX3_beginSip 19 = .ok (.iconst 1, 1) := by decide +kernel
theorem dX3_beginSip_20 : decode cX3_beginSip 20 = .ok (.iaload, 1) := by decide +kernel
theorem dX3_beginSip_21 : decode cX3_beginSip 21 = .ok (.aload_n 0, 1) := by decide +kernel
theorem dX3_beginSip_22 : decode cX3_beginSip 22 = .ok (.getfield 7, 3) := by decide +kernel
theorem dX3_beginSip_25 : decode cX3_beginSip 25 = .ok (.iconst 0, 1) := by decide +kernel
theorem dX3_beginSip_26 : decode cX3_beginSip 26 = .ok (.iaload, 1) := by decide +kernel
theorem dX3_beginSip_27 : decode cX3_beginSip 27 = .ok (.invokestatic 65, 3) := by decide +kernel
theorem dX3_beginSip_30 : decode cX3_beginSip 30 = .ok (.putfield 98, 3) := by decide +kernel
theorem dX3_beginSip_33 : decode cX3_beginSip 33 = .ok (.aload_n 0, 1) := by decide +kernel
theorem dX3_beginSip_34 : decode cX3_beginSip 34 = .ok (.aload_n 0, 1) := by decide +kernel
theorem dX3_beginSip_35 : decode cX3_beginSip 35 = .ok (.getfield 7, 3) := by decide +kernel
theorem dX3_beginSip_38 : decode cX3_beginSip 38 = .ok (.iconst 3, 1) := by decide +kernel
theorem dX3_beginSip_39 : decode cX3_beginSip 39 = .ok (.iaload, 1) := by decide +kernel
theorem dX3_beginSip_40 : decode cX3_beginSip 40 = .ok (.aload_n 0, 1) := by decide +kernel
theorem dX3_beginSip_41 : decode cX3_beginSip 41 = .ok (.getfield 7, 3) := by decide +kernel
theorem dX3_beginSip_44 : decode cX3_beginSip 44 = .ok (.iconst 2, 1) := by decide +kernel
theorem dX3_beginSip_45 : decode cX3_beginSip 45 = .ok (.iaload, 1) := by decide +kernel
theorem dX3_beginSip_46 : decode cX3_beginSip 46 = .ok (.invokestatic 65, 3) := by decide +kernel
theorem dX3_beginSip_49 : decode cX3_beginSip 49 = .ok (.putfield 102, 3) := by decide +kernel
theorem dX3_beginSip_52 : decode cX3_beginSip 52 = .ok (.aload_n 0, 1) := by decide +kernel
theorem dX3_beginSip_53 : decode cX3_beginSip 53 = .ok (.getfield 16, 3) := by decide +kernel
theorem dX3_beginSip_56 : decode cX3_beginSip 56 = .ok (.iconst 0, 1) := by decide +kernel
theorem dX3_beginSip_57 : decode cX3_beginSip 57 = .ok (.aload_n 0, 1) := by decide +kernel
theorem dX3_beginSip_58 : decode cX3_beginSip 58 = .ok (.getfield 98, 3) := by decide +kernel
theorem dX3_beginSip_61 : decode cX3_beginSip 61 = .ok (.ldc2_w 105, 3) := by decide +kernel
theorem dX3_beginSip_64 : decode cX3_beginSip 64 = .ok (.lxor, 1) := by decide +kernel
theorem dX3_beginSip_65 : decode cX3_beginSip 65 = .ok (.lastore, 1) := by decide +kernel
theorem dX3_beginSip_66 : decode cX3_beginSip 66 = .ok (.aload_n 0, 1) := by decide +kernel
theorem dX3_beginSip_67 : decode cX3_beginSip 67 = .ok (.getfield 16, 3) := by decide +kernel
theorem dX3_beginSip_70 : decode cX3_beginSip 70 = .ok (.iconst 1, 1) := by decide +kernel
theorem dX3_beginSip_71 : decode cX3_beginSip 71 = .ok (.aload_n 0, 1) := by decide +kernel
theorem dX3_beginSip_72 : decode cX3_beginSip 72 = .ok (.getfield 102, 3) := by decide +kernel
theorem dX3_beginSip_75 : decode cX3_beginSip 75 = .ok (.ldc2_w 107, 3) := by decide +kernel
theorem dX3_beginSip_78 : decode cX3_beginSip 78 = .ok (.lxor, 1) := by decide +kernel
theorem dX3_beginSip_79 : decode cX3_beginSip 79 = .ok (.lastore, 1) := by decide +kernel
theorem dX3_beginSip_80 : decode cX3_beginSip 80 = .ok (.aload_n 0, 1) := by decide +kernel
theorem dX3_beginSip_81 : decode cX3_beginSip 81 = .ok (.getfield 16, 3) := by decide +kernel
theorem dX3_beginSip_84 : decode cX3_beginSip 84 = .ok (.iconst 2, 1) := by decide +kernel
theorem dX3_beginSip_85 : decode cX3_beginSip 85 = .ok (.aload_n 0, 1) := by decide +kernel
theorem dX3_beginSip_86 : decode cX3_beginSip 86 = .ok (.getfield 98, 3) := by decide +kernel
theorem dX3_beginSip_89 : decode cX3_beginSip 89 = .ok (.ldc2_w 109, 3) := by decide +kernel
theorem dX3_beginSip_92 : decode cX3_beginSip 92 = .ok (.lxor, 1) := by decide +kernel
theorem dX3_beginSip_93 : decode cX3_beginSip 93 = .ok (.lastore, 1) := by decide +kernel
theorem dX3_beginSip_94 : decode cX3_beginSip 94 = .ok (.aload_n 0, 1) := by decide +kernel
theorem dX3_beginSip_95 : decode cX3_beginSip 95 = .ok (.getfield 16, 3) := by decide +kernel
theorem dX3_beginSip_98 : decode cX3_beginSip 98 = .ok (.iconst 3, 1) := by decide +kernel
theorem dX3_beginSip_99 : decode cX3_beginSip 99 = .ok (.aload_n 0, 1) := by decide +kernel
theorem dX3_beginSip_100 : decode cX3_beginSip 100 = .ok (.getfield 102, 3) := by decide +kernel
theorem dX3_beginSip_103 : decode cX3_beginSip 103 = .ok (.ldc2_w 111, 3) := by decide +kernel
theorem dX3_beginSip_106 : decode cX3_beginSip 106 = .ok (.lxor, 1) := by decide +kernel
theorem dX3_beginSip_107 : decode cX3_beginSip 107 = .ok (.lastore, 1) := by decide +kernel
theorem dX3_beginSip_108 : decode cX3_beginSip 108 = .ok (.iconst 1, 1) := by decide +kernel
theorem dX3_beginSip_109 : decode cX3_beginSip 109 = .ok (.ireturn, 1) := by decide +kernel
set_option maxRecDepth 20000 in
theorem ggX3_take_X3_sipBlock : GoodIn wsX3_take wsX3_sipBlock := goodIn_r _ [8, 1, 9, 10, 11, 12, 7, 13, 14, 15, 16, 17, 18, 19, 28, 29, 30, 31, 32, 33, 34, 35, 36, 37, 38, 39, 40, 41, 42, 43, 44] (by decide +kernel) (by decide +kernel)
set_option maxRecDepth 20000 in
theorem gX3_take_X3_sipBlock : GoodIn wsX3_take (wsV RX3 113 RX3 yX3_sipBlock wsX3_sipBlock) := goodIn_app (goodIn_of _ (by decide +kernel)) ggX3_take_X3_sipBlock
set_option maxRecDepth 20000 in
theorem ggX3_take_X3_shaBlock : GoodIn wsX3_take wsX3_shaBlock := goodIn_r _ [23, 1, 24, 25, 9, 26, 27, 17, 18, 7, 19, 28, 29, 30, 31, 32, 33, 34, 35, 36, 37, 38, 39, 40, 41, 42, 43, 44] (by decide +kernel) (by decide +kernel)
set_option maxRecDepth 20000 in
theorem gX3_take_X3_shaBlock : GoodIn wsX3_take (wsV RX3 116 RX3 yX3_shaBlock wsX3_shaBlock) := goodIn_app (goodIn_of _ (by decide +kernel)) ggX3_take_X3_shaBlock
theorem dX3_take_0 : decode cX3_take 0 = .ok (.aload_n 0, 1) := by decide +kernel
theorem dX3_take_1 : decode cX3_take 1 = .ok (.getfield 13, 3) := by decide +kernel
theorem dX3_take_4 : decode cX3_take 4 = .ok (.aload_n 0, 1) := by decide +kernel
theorem dX3_take_5 : decode cX3_take 5 = .ok (.getfield 92, 3) := by decide +kernel
theorem dX3_take_8 : decode cX3_take 8 = .ok (.iload_n 1, 1) := by decide +kernel
theorem dX3_take_9 : decode cX3_take 9 = .ok (.iastore, 1) := by decide +kernel
theorem dX3_take_10 : decode cX3_take 10 = .ok (.aload_n 0, 1) := by decide +kernel
theorem dX3_take_11 : decode cX3_take 11 = .ok (.dup, 1) := by decide +kernel
theorem dX3_take_12 : decode cX3_take 12 = .ok (.getfield 92, 3) := by decide +kernel
theorem dX3_take_15 : decode cX3_take 15 = .ok (.iconst 1, 1) := by decide +kernel
theorem dX3_take_16 : decode cX3_take 16 = .ok (.iadd, 1) := by decide +kernel
theorem dX3_take_17 : decode cX3_take 17 = .ok (.putfield 92, 3) := by decide +kernel
theorem dX3_take_20 : decode cX3_take 20 = .ok (.aload_n 0, 1) := by decide +kernel
theorem dX3_take_21 : decode cX3_take 21 = .ok (.getfield 82, 3) := by decide +kernel
theorem dX3_take_24 : decode cX3_take 24 = .ok (.iconst 3, 1) := by decide +kernel
theorem dX3_take_25 : decode cX3_take 25 = .ok (.if_icmp .ne 24, 3) := by decide +kernel
theorem dX3_take_28 : decode cX3_take 28 = .ok (.aload_n 0, 1) := by decide +kernel
theorem dX3_take_29 : decode cX3_take 29 = .ok (.getfield 92, 3) := by decide +kernel
theorem dX3_take_32 : decode cX3_take 32 = .ok (.bipush 8, 2) := by decide +kernel
theorem dX3_take_34 : decode cX3_take 34 = .ok (.if_icmp .ne 15, 3) := by decide +kernel
theorem dX3_take_37 : decode cX3_take 37 = .ok (.aload_n 0, 1) := by decide +kernel
theorem dX3_take_38 : decode cX3_take 38 = .ok (.invokevirtual 113, 3) := by decide +kernel
theorem dX3_take_41 : decode cX3_take 41 = .ok (.aload_n 0, 1) := by decide +kernel
theorem dX3_take_42 : decode cX3_take 42 = .ok (.iconst 0, 1) := by decide +kernel
theorem dX3_take_43 : decode cX3_take 43 = .ok (.putfield 92, 3) := by decide +kernel
theorem dX3_take_46 : decode cX3_take 46 = .ok (.goto 22, 3) := by decide +kernel
theorem dX3_take_49 : decode cX3_take 49 = .ok (.aload_n 0, 1) := by decide +kernel
theorem dX3_take_50 : decode cX3_take 50 = .ok (.getfield 92, 3) := by decide +kernel
theorem dX3_take_53 : decode cX3_take 53 = .ok (.sipush 128, 3) := by decide +kernel
theorem dX3_take_56 : decode cX3_take 56 = .ok (.if_icmp .ne 12, 3) := by decide +kernel
theorem dX3_take_59 : decode cX3_take 59 = .ok (.aload_n 0, 1) := by decide +kernel
theorem dX3_take_60 : decode cX3_take 60 = .ok (.invokevirtual 116, 3) := by decide +kernel
theorem dX3_take_63 : decode cX3_take 63 = .ok (.aload_n 0, 1) := by decide +kernel
theorem dX3_take_64 : decode cX3_take 64 = .ok (.iconst 0, 1) := by decide +kernel
theorem dX3_take_65 : decode cX3_take 65 = .ok (.putfield 92, 3) := by decide +kernel
theorem dX3_take_68 : decode cX3_take 68 = .ok (.return_, 1) := by decide +kernel
theorem dX3_isOpen_0 : decode cX3_isOpen 0 = .ok (.aload_n 0, 1) := by decide +kernel
theorem dX3_isOpen_1 : decode cX3_isOpen 1 = .ok (.getfield 82, 3) := by decide +kernel
theorem dX3_isOpen_4 : decode cX3_isOpen 4 = .ok (.ifCond .le 14, 3) := by decide +kernel
theorem dX3_isOpen_7 : decode cX3_isOpen 7 = .ok (.aload_n 0, 1) := by decide +kernel
theorem dX3_isOpen_8 : decode cX3_isOpen 8 = .ok (.getfield 86, 3) := by decide +kernel
theorem dX3_isOpen_11 : decode cX3_isOpen 11 = .ok (.ifCond .ne 7, 3) := by decide +kernel
theorem dX3_isOpen_14 : decode cX3_isOpen 14 = .ok (.iconst 1, 1) := by decide +kernel
theorem dX3_isOpen_15 : decode cX3_isOpen 15 = .ok (.goto 4, 3) := by decide +kernel
theorem dX3_isOpen_18 : decode cX3_isOpen 18 = .ok (.iconst 0, 1) := by decide +kernel
theorem dX3_isOpen_19 : decode cX3_isOpen 19 = .ok (.ireturn, 1) := by decide +kernel
set_option maxRecDepth 20000 in
theorem ggX3_update_X3_isOpen : GoodIn wsX3_update wsX3_isOpen := goodIn_r _ [6, 7, 8, 38, 39, 40, 41, 42, 43, 44, 45, 46, 47, 48, 49, 50, 51, 52, 53, 54] (by decide +kernel) (by decide +kernel)
set_option maxRecDepth 20000 in
theorem gX3_update_X3_isOpen : GoodIn wsX3_update (wsV RX3 119 RX3 yX3_isOpen wsX3_isOpen) := goodIn_app (goodIn_of _ (by decide +kernel)) ggX3_update_X3_isOpen
set_option maxRecDepth 20000 in
theorem ggX3_update_X3_take : GoodIn wsX3_update wsX3_take := goodIn_r _ [12, 13, 14, 7, 15, 16, 17, 5, 18, 19, 20, 21, 22, 23, 24, 25, 26, 27, 28, 29, 30, 31, 32, 33, 34, 35, 36, 37, 38, 39, 40, 41, 42, 43, 44, 45, 46, 47, 48, 49, 50, 51, 52, 53, 54] (by decide +kernel) (by decide +kernel)
set_option maxRecDepth 20000 in
theorem gX3_update_X3_take : GoodIn wsX3_update (wsV RX3 123 RX3 yX3_take wsX3_take) := goodIn_app (goodIn_of _ (by decide +kernel)) ggX3_update_X3_take
theorem dX3_update_0 : decode cX3_update 0 = .ok (.iload_n 1, 1) := by decide +kernel
theorem dX3_update_1 : decode cX3_update 1 = .ok (.ifCond .lt 17, 3) := by decide +kernel
theorem dX3_update_4 : decode cX3_update 4 = .ok (.iload_n 1, 1) := by decide +kernel
theorem dX3_update_5 : decode cX3_update 5 = .ok (.sipush 255, 3) := by decide +kernel
theorem dX3_update_8 : decode cX3_update 8 = .ok (.if_icmp .gt 10, 3) := by decide +kernel
theorem dX3_update_11 : decode cX3_update 11 = .ok (.aload_n 0, 1) := by decide +kernel
theorem dX3_update_12 : decode cX3_update 12 = .ok (.invokevirtual 119, 3) := by decide +kernel
theorem dX3_update_15 : decode cX3_update 15 = .ok (.ifCond .ne 5, 3) := by decide +kernel
theorem dX3_update_18 : decode cX3_update 18 = .ok (.iconst 0, 1) := by decide +kernel
theorem dX3_update_19 : decode cX3_update 19 = .ok (.ireturn, 1) := by decide +kernel
theorem dX3_update_20 : decode cX3_update 20 = .ok (.aload_n 0, 1) := by decide +kernel
theorem dX3_update_21 : decode cX3_update 21 = .ok (.iload_n 1, 1) := by decide +kernel
theorem dX3_update_22 : decode cX3_update 22 = .ok (.invokevirtual 123, 3) := by decide +kernel
theorem dX3_update_25 : decode cX3_update 25 = .ok (.aload_n 0, 1) := by decide +kernel
theorem dX3_update_26 : decode cX3_update 26 = .ok (.dup, 1) := by decide +kernel
theorem dX3_update_27 : decode cX3_update 27 = .ok (.getfield 89, 3) := by decide +kernel
theorem dX3_update_30 : decode cX3_update 30 = .ok (.iconst 1, 1) := by decide +kernel
theorem dX3_update_31 : decode cX3_update 31 = .ok (.iadd, 1) := by decide +kernel
theorem dX3_update_32 : decode cX3_update 32 = .ok (.putfield 89, 3) := by decide +kernel
theorem dX3_update_35 : decode cX3_update 35 = .ok (.iconst 1, 1) := by decide +kernel
theorem dX3_update_36 : decode cX3_update 36 = .ok (.ireturn, 1) := by decide +kernel
set_option maxRecDepth 20000 in
theorem ggX3_updates_X3_isOpen : GoodIn wsX3_updates wsX3_isOpen := goodIn_r _ [6, 7, 8, 38, 39, 40, 41, 42, 43, 44, 45, 46, 47, 48, 49, 50, 51, 52, 53, 54] (by decide +kernel) (by decide +kernel)
set_option maxRecDepth 20000 in
theorem gX3_updates_X3_isOpen : GoodIn wsX3_updates (wsV RX3 119 RX3 yX3_isOpen wsX3_isOpen) := goodIn_app (goodIn_of _ (by decide +kernel)) ggX3_updates_X3_isOpen
set_option maxRecDepth 20000 in
theorem ggX3_updates_X3_take : GoodIn wsX3_updates wsX3_take := goodIn_r _ [12, 13, 14, 7, 15, 16, 17, 5, 18, 19, 20, 21, 22, 23, 24, 25, 26, 27, 28, 29, 30, 31, 32, 33, 34, 35, 36, 37, 38, 39, 40, 41, 42, 43, 44, 45, 46, 47, 48, 49, 50, 51, 52, 53, 54] (by decide +kernel) (by decide +kernel)
set_option maxRecDepth 20000 in
theorem gX3_updates_X3_take : GoodIn wsX3_updates (wsV RX3 123 RX3 yX3_take wsX3_take) := goodIn_app (goodIn_of _ (by decide +kernel)) ggX3_updates_X3_take
theorem dX3_updates_0 : decode cX3_updates 0 = .ok (.iload_n 1, 1) := by decide +kernel
theorem dX3_updates_1 : decode cX3_updates 1 = .ok (.ifCond .lt 17, 3) := by decide +kernel
theorem dX3_updates_4 : decode cX3_updates 4 = .ok (.iload_n 1, 1) := by decide +kernel
theorem dX3_updates_5 : decode cX3_updates 5 = .ok (.sipush 2000, 3) := by decide +kernel
theorem dX3_updates_8 : decode cX3_updates 8 = .ok (.if_icmp .gt 10, 3) := by decide +kernel
theorem dX3_updates_11 : decode cX3_updates 11 = .ok (.aload_n 0, 1) := by decide +kernel
theorem dX3_updates_12 : decode cX3_updates 12 = .ok (.invokevirtual 119, 3) := by decide +kernel
theorem dX3_updates_15 : decode cX3_updates 15 = .ok (.ifCond .ne 5, 3) := by decide +kernel
theorem dX3_updates_18 : decode cX3_updates 18 = .ok (.iconst 0, 1) := by decide +kernel
theorem dX3_updates_19 : decode cX3_updates 19 = .ok (.ireturn, 1) := by decide +kernel
theorem dX3_updates_20 : decode cX3_updates 20 = .ok (.iconst 0, 1) := by decide +kernel
theorem dX3_updates_21 : decode cX3_updates 21 = .ok (.istore 4, 2) := by decide +kernel
theorem dX3_updates_23 : decode cX3_updates 23 = .ok (.iload 4, 2) := by decide +kernel
theorem dX3_updates_25 : decode cX3_updates 25 = .ok (.iload_n 1, 1) := by decide +kernel
theorem dX3_updates_26 : decode cX3_updates 26 = .ok (.if_icmp .ge 23, 3) := by decide +kernel
theorem dX3_updates_29 : decode cX3_updates 29 = .ok (.aload_n 0, 1) := by decide +kernel
theorem dX3_updates_30 : decode cX3_updates 30 = .ok (.iload_n 2, 1) := by decide +kernel
theorem dX3_updates_31 : decode cX3_updates 31 = .ok (.iload 4, 2) := by decide +kernel
theorem dX3_updates_33 : decode cX3_updates 33 = .ok (.iload_n 3, 1) := by decide +kernel
theorem dX3_updates_34 : decode cX3_updates 34 = .ok (.imul, 1) := by decide +kernel
theorem dX3_updates_35 : decode cX3_updates 35 = .ok (.iadd, 1) := by decide +kernel
theorem dX3_updates_36 : decode cX3_updates 36 = .ok (.sipush 255, 3) := by decide +kernel
theorem dX3_updates_39 : decode cX3_updates 39 = .ok (.iand, 1) := by decide +kernel
theorem dX3_updates_40 : decode cX3_updates 40 = .ok (.invokevirtual 123, 3) := by decide +kernel
theorem dX3_updates_43 : decode cX3_updates 43 = .ok (.iinc 4 1, 3) := by decide +kernel
theorem dX3_updates_46 : decode cX3_updates 46 = .ok (.goto (-23), 3) := by decide +kernel
theorem dX3_updates_49 : decode cX3_updates 49 = .ok (.aload_n 0, 1) := by decide +kernel
theorem dX3_updates_50 : decode cX3_updates 50 = .ok (.dup, 1) := by decide +kernel
theorem dX3_updates_51 : decode cX3_updates 51 = .ok (.getfield 89, 3) := by decide +kernel
theorem dX3_updates_54 : decode cX3_updates 54 = .ok (.iload_n 1, 1) := by decide +kernel
theorem dX3_updates_55 : decode cX3_updates 55 = .ok (.iadd, 1) := by decide +kernel
theorem dX3_updates_56 : decode cX3_updates 56 = .ok (.putfield 89, 3) := by decide +kernel
theorem dX3_updates_59 : decode cX3_updates 59 = .ok (.iconst 1, 1) := by decide +kernel
theorem dX3_updates_60 : decode cX3_updates 60 = .ok (.ireturn, 1) := by decide +kernel
set_option maxRecDepth 20000 in
theorem ggX3_close_X3_isOpen : GoodIn wsX3_close wsX3_isOpen := goodIn_r _ [12, 1, 7, 40, 41, 42, 43, 44, 45, 46, 47, 48, 49, 50, 51, 52, 53, 54, 55, 56] (by decide +kernel) (by decide +kernel)
set_option maxRecDepth 20000 in
theorem gX3_close_X3_isOpen : GoodIn wsX3_close (wsV RX3 119 RX3 yX3_isOpen wsX3_isOpen) := goodIn_app (goodIn_of _ (by decide +kernel)) ggX3_close_X3_isOpen
set_option maxRecDepth 20000 in
theorem ggX3_close_X3_take : GoodIn wsX3_close wsX3_take := goodIn_r _ [16, 17, 2, 1, 18, 19, 20, 11, 21, 4, 22, 23, 24, 25, 26, 27, 28, 29, 30, 31, 32, 33, 34, 35, 36, 37, 38, 39, 40, 41, 42, 43, 44, 45, 46, 47, 48, 49, 50, 51, 52, 53, 54, 55, 56] (by decide +kernel) (by decide +kernel)
set_option maxRecDepth 20000 in
theorem gX3_close_X3_take : GoodIn wsX3_close (wsV RX3 123 RX3 yX3_take wsX3_take) := goodIn_app (goodIn_of _ (by decide +kernel)) ggX3_close_X3_take
set_option maxRecDepth 20000 in
theorem ggX3_close_X3_sipRounds : GoodIn wsX3_close wsX3_sipRounds := goodIn_r _ [25, 4, 26, 27, 11, 28, 29, 30, 31, 40, 41, 42, 43, 44, 45, 46, 47, 48, 49, 50, 51, 52, 53, 54, 55, 56] (by decide +kernel) (by decide +kernel)
end
section
set_option maxRecDepth 20000 in
theorem gX3_close_X3_sipRounds : GoodIn wsX3_close (wsV RX3 74 RX3 yX3_sipRounds wsX3_sipRounds) := goodIn_app (goodIn_of _ (by decide +kernel)) ggX3_close_X3_sipRounds
theorem dX3_close_0 : decode cX3_close 0 = .ok (.aload_n 0, 1) := by decide +kernel
theorem dX3_close_1 : decode cX3_close 1 = .ok (.invokevirtual 119, 3) := by decide +kernel
theorem dX3_close_4 : decode cX3_close 4 = .ok (.ifCond .ne 5, 3) := by decide +kernel
theorem dX3_close_7 : decode cX3_close 7 = .ok (.iconst 0, 1) := by decide +kernel
theorem dX3_close_8 : decode cX3_close 8 = .ok (.ireturn, 1) := by decide +kernel
theorem dX3_close_9 : decode cX3_close 9 = .ok (.aload_n 0, 1) := by decide +kernel
theorem dX3_close_10 : decode cX3_close 10 = .ok (.getfield 82, 3) := by decide +kernel
theorem dX3_close_13 : decode cX3_close 13 = .ok (.iconst 3, 1) := by decide +kernel
theorem dX3_close_14 : decode cX3_close 14 = .ok (.if_icmp .ne 81, 3) := by decide +kernel
theorem dX3_close_17 : decode cX3_close 17 = .ok (.aload_n 0, 1) := by decide +kernel
theorem dX3_close_18 : decode cX3_close 18 = .ok (.getfield 92, 3) := by decide +kernel
theorem dX3_close_21 : decode cX3_close 21 = .ok (.bipush 7, 2) := by decide +kernel
theorem dX3_close_23 : decode cX3_close 23 = .ok (.if_icmp .ge 11, 3) := by decide +kernel
theorem dX3_close_26 : decode cX3_close 26 = .ok (.aload_n 0, 1) := by decide +kernel
theorem dX3_close_27 : decode cX3_close 27 = .ok (.iconst 0, 1) := by decide +kernel
theorem dX3_close_28 : decode cX3_close 28 = .ok (.invokevirtual 123, 3) := by decide +kernel
theorem dX3_close_31 : decode cX3_close 31 = .ok (.goto (-14), 3) := by decide +kernel
theorem dX3_close_34 : decode cX3_close 34 = .ok (.aload_n 0, 1) := by decide +kernel
theorem dX3_close_35 : decode cX3_close 35 = .ok (.aload_n 0, 1) := by decide +kernel
theorem dX3_close_36 : decode cX3_close 36 = .ok (.getfield 89, 3) := by decide +kernel
theorem dX3_close_39 : decode cX3_close 39 = .ok (.sipush 255, 3) := by decide +kernel
theorem dX3_close_42 : decode cX3_close 42 = .ok (.iand, 1) := by decide +kernel
theorem dX3_close_43 : decode cX3_close 43 = .ok (.invokevirtual 123, 3) := by decide +kernel
theorem dX3_close_46 : decode cX3_close 46 = .ok (.aload_n 0, 1) := by decide +kernel
theorem dX3_close_47 : decode cX3_close 47 = .ok (.getfield 16, 3) := by decide +kernel
theorem dX3_close_50 : decode cX3_close 50 = .ok (.iconst 2, 1) := by decide +kernel
theorem dX3_close_51 : decode cX3_close 51 = .ok (.dup2, 1) := by decide +kernel
theorem dX3_close_52 : decode cX3_close 52 = .ok (.laload, 1) := by decide +kernel
theorem dX3_close_53 : decode cX3_close 53 = .ok (.ldc2_w 126, 3) := by decide +kernel
theorem dX3_close_56 : decode cX3_close 56 = .ok (.lxor, 1) := by decide +kernel
theorem dX3_close_57 : decode cX3_close 57 = .ok (.lastore, 1) := by decide +kernel
theorem dX3_close_58 : decode cX3_close 58 = .ok (.aload_n 0, 1) := by decide +kernel
theorem dX3_close_59 : decode cX3_close 59 = .ok (.iconst 4, 1) := by decide +kernel
theorem dX3_close_60 : decode cX3_close 60 = .ok (.invokevirtual 74, 3) := by decide +kernel
theorem dX3_close_63 : decode cX3_close 63 = .ok (.aload_n 0, 1) := by decide +kernel
theorem dX3_close_64 : decode cX3_close 64 = .ok (.getfield 16, 3) := by decide +kernel
theorem dX3_close_67 : decode cX3_close 67 = .ok (.iconst 0, 1) := by decide +kernel
theorem dX3_close_68 : decode cX3_close 68 = .ok (.dup2, 1) := by decide +kernel
theorem dX3_close_69 : decode cX3_close 69 = .ok (.laload, 1) := by decide +kernel
theorem dX3_close_70 : decode cX3_close 70 = .ok (.aload_n 0, 1) := by decide +kernel
theorem dX3_close_71 : decode cX3_close 71 = .ok (.getfield 16, 3) := by decide +kernel
theorem dX3_close_74 : decode cX3_close 74 = .ok (.iconst 1, 1) := by decide +kernel
theorem dX3_close_75 : decode cX3_close 75 = .ok (.laload, 1) := by decide +kernel
theorem dX3_close_76 : decode cX3_close 76 = .ok (.aload_n 0, 1) := by decide +kernel
theorem dX3_close_77 : decode cX3_close 77 = .ok (.getfield 16, 3) := by decide +kernel
theorem dX3_close_80 : decode cX3_close 80 = .ok (.iconst 2, 1) := by decide +kernel
theorem dX3_close_81 : decode cX3_close 81 = .ok (.laload, 1) := by decide +kernel
theorem dX3_close_82 : decode cX3_close 82 = .ok (.lxor, 1) := by decide +kernel
theorem dX3_close_83 : decode cX3_close 83 = .ok (.aload_n 0, 1) := by decide +kernel
theorem dX3_close_84 : decode cX3_close 84 = .ok (.getfield 16, 3) := by decide +kernel
theorem dX3_close_87 : decode cX3_close 87 = .ok (.iconst 3, 1) := by decide +kernel
theorem dX3_close_88 : decode cX3_close 88 = .ok (.laload, 1) := by decide +kernel
theorem dX3_close_89 : decode cX3_close 89 = .ok (.lxor, 1) := by decide +kernel
theorem dX3_close_90 : decode cX3_close 90 = .ok (.lxor, 1) := by decide +kernel
theorem dX3_close_91 : decode cX3_close 91 = .ok (.lastore, 1) := by decide +kernel
theorem dX3_close_92 : decode cX3_close 92 = .ok (.goto 77, 3) := by decide +kernel
theorem dX3_close_95 : decode cX3_close 95 = .ok (.aload_n 0, 1) := by decide +kernel
theorem dX3_close_96 : decode cX3_close 96 = .ok (.sipush 128, 3) := by decide +kernel
theorem dX3_close_99 : decode cX3_close 99 = .ok (.invokevirtual 123, 3) := by decide +kernel
theorem dX3_close_102 : decode cX3_close 102 = .ok (.aload_n 0, 1) := by decide +kernel
theorem dX3_close_103 : decode cX3_close 103 = .ok (.getfield 92, 3) := by decide +kernel
theorem dX3_close_106 : decode cX3_close 106 = .ok (.bipush 112, 2) := by decide +kernel
theorem dX3_close_108 : decode cX3_close 108 = .ok (.if_icmp .eq 11, 3) := by decide +kernel
theorem dX3_close_111 : decode cX3_close 111 = .ok (.aload_n 0, 1) := by decide +kernel
theorem dX3_close_112 : decode cX3_close 112 = .ok (.iconst 0, 1) := by decide +kernel
theorem dX3_close_113 : decode cX3_close 113 = .ok (.invokevirtual 123, 3) := by decide +kernel
theorem dX3_close_116 : decode cX3_close 116 = .ok (.goto (-14), 3) := by decide +kernel
theorem dX3_close_119 : decode cX3_close 119 = .ok (.iconst 0, 1) := by decide +kernel
theorem dX3_close_120 : decode cX3_close 120 = .ok (.istore_n 1, 1) := by decide +kernel
theorem dX3_close_121 : decode cX3_close 121 = .ok (.iload_n 1, 1) := by decide +kernel
theorem dX3_close_122 : decode cX3_close 122 = .ok (.bipush 16, 2) := by decide +kernel
theorem dX3_close_124 : decode cX3_close 124 = .ok (.if_icmp .ge 45, 3) := by decide +kernel
theorem dX3_close_127 : decode cX3_close 127 = .ok (.aload_n 0, 1) := by decide +kernel
theorem dX3_close_128 : decode cX3_close 128 = .ok (.iload_n 1, 1) := by decide +kernel
theorem dX3_close_129 : decode cX3_close 129 = .ok (.bipush 8, 2) := by decide +kernel
theorem dX3_close_131 : decode cX3_close 131 = .ok (.if_icmp .ge 7, 3) := by decide +kernel
theorem dX3_close_134 : decode cX3_close 134 = .ok (.iconst 0, 1) := by decide +kernel
theorem dX3_close_135 : decode cX3_close 135 = .ok (.goto 25, 3) := by decide +kernel
theorem dX3_close_138 : decode cX3_close 138 = .ok (.ldc2_w 128, 3) := by decide +kernel
theorem dX3_close_141 : decode cX3_close 141 = .ok (.aload_n 0, 1) := by decide +kernel
theorem dX3_close_142 : decode cX3_close 142 = .ok (.getfield 89, 3) := by decide +kernel
theorem dX3_close_145 : decode cX3_close 145 = .ok (.i2l, 1) := by decide +kernel
theorem dX3_close_146 : decode cX3_close 146 = .ok (.lmul, 1) := by decide +kernel
theorem dX3_close_147 : decode cX3_close 147 = .ok (.bipush 120, 2) := by decide +kernel
theorem dX3_close_149 : decode cX3_close 149 = .ok (.bipush 8, 2) := by decide +kernel
theorem dX3_close_151 : decode cX3_close 151 = .ok (.iload_n 1, 1) := by decide +kernel
theorem dX3_close_152 : decode cX3_close 152 = .ok (.imul, 1) := by decide +kernel
theorem dX3_close_153 : decode cX3_close 153 = .ok (.isub, 1) := by decide +kernel
theorem dX3_close_154 : decode cX3_close 154 = .ok (.lshr, 1) := by decide +kernel
theorem dX3_close_155 : decode cX3_close 155 = .ok (.ldc2_w 126, 3) := by decide +kernel
theorem dX3_close_158 : decode cX3_close 158 = .ok (.land, 1) := by decide +kernel
theorem dX3_close_159 : decode cX3_close 159 = .ok (.l2i, 1) := by decide +kernel
theorem dX3_close_160 : decode cX3_close 160 = .ok (.invokevirtual 123, 3) := by decide +kernel
theorem dX3_close_163 : decode cX3_close 163 = .ok (.iinc 1 1, 3) := by decide +kernel
theorem dX3_close_166 : decode cX3_close 166 = .ok (.goto (-45), 3) := by decide +kernel
theorem dX3_close_169 : decode cX3_close 169 = .ok (.aload_n 0, 1) := by decide +kernel
theorem dX3_close_170 : decode cX3_close 170 = .ok (.iconst 1, 1) := by decide +kernel
theorem dX3_close_171 : decode cX3_close 171 = .ok (.putfield 86, 3) := by decide +kernel
theorem dX3_close_174 : decode cX3_close 174 = .ok (.iconst 1, 1) := by decide +kernel
theorem dX3_close_175 : decode cX3_close 175 = .ok (.ireturn, 1) := by decide +kernel
theorem dX3_word_0 : decode cX3_word 0 = .ok (.aload_n 0, 1) := by decide +kernel
theorem dX3_word_1 : decode cX3_word 1 = .ok (.getfield 82, 3) := by decide +kernel
theorem dX3_word_4 : decode cX3_word 4 = .ok (.iconst 1, 1) := by decide +kernel
theorem dX3_word_5 : decode cX3_word 5 = .ok (.if_icmp .ne 8, 3) := by decide +kernel
theorem dX3_word_8 : decode cX3_word 8 = .ok (.bipush 16, 2) := by decide +kernel
theorem dX3_word_10 : decode cX3_word 10 = .ok (.goto 17, 3) := by decide +kernel
theorem dX3_word_13 : decode cX3_word 13 = .ok (.aload_n 0, 1) := by decide +kernel
theorem dX3_word_14 : decode cX3_word 14 = .ok (.getfield 82, 3) := by decide +kernel
theorem dX3_word_17 : decode cX3_word 17 = .ok (.iconst 2, 1) := by decide +kernel
theorem dX3_word_18 : decode cX3_word 18 = .ok (.if_icmp .ne 8, 3) := by decide +kernel
theorem dX3_word_21 : decode cX3_word 21 = .ok (.bipush 12, 2) := by decide +kernel
theorem dX3_word_23 : decode cX3_word 23 = .ok (.goto 4, 3) := by decide +kernel
theorem dX3_word_26 : decode cX3_word 26 = .ok (.iconst 2, 1) := by decide +kernel
theorem dX3_word_27 : decode cX3_word 27 = .ok (.istore_n 2, 1) := by decide +kernel
theorem dX3_word_28 : decode cX3_word 28 = .ok (.aload_n 0, 1) := by decide +kernel
theorem dX3_word_29 : decode cX3_word 29 = .ok (.getfield 86, 3) := by decide +kernel
theorem dX3_word_32 : decode cX3_word 32 = .ok (.ifCond .eq 12, 3) := by decide +kernel
theorem dX3_word_35 : decode cX3_word 35 = .ok (.iload_n 1, 1) := by decide +kernel
theorem dX3_word_36 : decode cX3_word 36 = .ok (.ifCond .lt 8, 3) := by decide +kernel
theorem dX3_word_39 : decode cX3_word 39 = .ok (.iload_n 1, 1) := by decide +kernel
theorem dX3_word_40 : decode cX3_word 40 = .ok (.iload_n 2, 1) := by decide +kernel
theorem dX3_word_41 : decode cX3_word 41 = .ok (.if_icmp .lt 5, 3) := by decide +kernel
theorem dX3_word_44 : decode cX3_word 44 = .ok (.iconst 0, 1) := by decide +kernel
theorem dX3_word_45 : decode cX3_word 45 = .ok (.ireturn, 1) := by decide +kernel
theorem dX3_word_46 : decode cX3_word 46 = .ok (.iload_n 1, 1) := by decide +kernel
theorem dX3_word_47 : decode cX3_word 47 = .ok (.iconst 2, 1) := by decide +kernel
theorem dX3_word_48 : decode cX3_word 48 = .ok (.irem, 1) := by decide +kernel
theorem dX3_word_49 : decode cX3_word 49 = .ok (.ifCond .ne 17, 3) := by decide +kernel
theorem dX3_word_52 : decode cX3_word 52 = .ok (.aload_n 0, 1) := by decide +kernel
theorem dX3_word_53 : decode cX3_word 53 = .ok (.getfield 16, 3) := by decide +kernel
theorem dX3_word_56 : decode cX3_word 56 = .ok (.iload_n 1, 1) := by decide +kernel
theorem dX3_word_57 : decode cX3_word 57 = .ok (.iconst 2, 1) := by decide +kernel
theorem dX3_word_58 : decode cX3_word 58 = .ok (.idiv, 1) := by decide +kernel
theorem dX3_word_59 : decode cX3_word 59 = .ok (.laload, 1) := by decide +kernel
theorem dX3_word_60 : decode cX3_word 60 = .ok (.bipush 32, 2) := by decide +kernel
theorem dX3_word_62 : decode cX3_word 62 = .ok (.lshr, 1) := by decide +kernel
theorem dX3_word_63 : decode cX3_word 63 = .ok (.goto 11, 3) := by decide +kernel
theorem dX3_word_66 : decode cX3_word 66 = .ok (.aload_n 0, 1) := by decide +kernel
theorem dX3_word_67 : decode cX3_word 67 = .ok (.getfield 16, 3) := by decide +kernel
theorem dX3_word_70 : decode cX3_word 70 = .ok (.iload_n 1, 1) := by decide +kernel
theorem dX3_word_71 : decode cX3_word 71 = .ok (.iconst 2, 1) := by decide +kernel
theorem dX3_word_72 : decode cX3_word 72 = .ok (.idiv, 1) := by decide +kernel
theorem dX3_word_73 : decode cX3_word 73 = .ok (.laload, 1) := by decide +kernel
theorem dX3_word_74 : decode cX3_word 74 = .ok (.l2i, 1) := by decide +kernel
theorem dX3_word_75 : decode cX3_word 75 = .ok (.ireturn, 1) := by decide +kernel
theorem dX3_length_0 : decode cX3_length 0 = .ok (.aload_n 0, 1) := by decide +kernel
theorem dX3_length_1 : decode cX3_length 1 = .ok (.getfield 89, 3) := by decide +kernel
theorem dX3_length_4 : decode cX3_length 4 = .ok (.ireturn, 1) := by decide +kernel
theorem dX3_state_0 : decode cX3_state 0 = .ok (.aload_n 0, 1) := by decide +kernel
theorem dX3_state_1 : decode cX3_state 1 = .ok (.getfield 86, 3) := by decide +kernel
theorem dX3_state_4 : decode cX3_state 4 = .ok (.ifCond .eq 12, 3) := by decide +kernel
theorem dX3_state_7 : decode cX3_state 7 = .ok (.aload_n 0, 1) := by decide +kernel
theorem dX3_state_8 : decode cX3_state 8 = .ok (.getfield 82, 3) := by decide +kernel
theorem dX3_state_11 : decode cX3_state 11 = .ok (.iconst 4, 1) := by decide +kernel
theorem dX3_state_12 : decode cX3_state 12 = .ok (.iadd, 1) := by decide +kernel
theorem dX3_state_13 : decode cX3_state 13 = .ok (.goto 7, 3) := by decide +kernel
theorem dX3_state_16 : decode cX3_state 16 = .ok (.aload_n 0, 1) := by decide +kernel
theorem dX3_state_17 : decode cX3_state 17 = .ok (.getfield 82, 3) := by decide +kernel
theorem dX3_state_20 : decode cX3_state 20 = .ok (.ireturn, 1) := by decide +kernel
set_option maxRecDepth 20000 in
theorem ggL_law_X2_init : GoodIn wsL_law wsX2_init := goodIn_r _ [8, 9, 10, 11, 12, 13, 14, 15, 16, 17, 18, 19, 20, 21, 22, 23, 24, 25, 26, 27, 28, 29, 30, 31, 32, 33, 34, 35, 36, 37, 38, 39, 359, 360, 361, 362, 335, 336, 337, 338, 339, 340, 341, 363, 364, 365, 366] (by decide +kernel) (by decide +kernel)
set_option maxRecDepth 20000 in
theorem gL_law_X2_init : GoodIn wsL_law (wsX2_init) := ggL_law_X2_init
set_option maxRecDepth 20000 in
theorem ggL_law_X3_init : GoodIn wsL_law wsX3_init := goodIn_r _ [42, 43, 10, 11, 20, 44, 45, 46, 47, 48, 49, 50, 51, 52, 53, 54, 55, 56, 5, 57, 58, 59, 60, 61, 62, 63, 64, 65, 66, 67, 68, 69, 342, 343, 344, 345, 346, 347, 348, 349, 350, 351, 352, 353, 354, 355, 356, 357, 358] (by decide +kernel) (by decide +kernel)
set_option maxRecDepth 20000 in
theorem gL_law_X3_init : GoodIn wsL_law (wsX3_init) := ggL_law_X3_init
set_option maxRecDepth 20000 in
theorem ggL_law_X2_init_ : GoodIn wsL_law wsX2_init_ := goodIn_r _ [73, 22, 335, 336, 337, 338, 339, 340, 341] (by decide +kernel) (by decide +kernel)
set_option maxRecDepth 20000 in
theorem gL_law_X2_init_ : GoodIn wsL_law (wsV RL 13 RX2 yX2_init_ wsX2_init_) := goodIn_app (goodIn_of _ (by decide +kernel)) ggL_law_X2_init_
set_option maxRecDepth 20000 in
theorem ggL_law_X3_init_ : GoodIn wsL_law wsX3_init_ := goodIn_r _ [77, 78, 342, 343, 344, 345, 346, 347, 348, 349, 350, 351, 352, 353, 354, 355, 356, 357, 358] (by decide +kernel) (by decide +kernel)
set_option maxRecDepth 20000 in
theorem gL_law_X3_init_ : GoodIn wsL_law (wsV RL 16 RX3 yX3_init_ wsX3_init_) := goodIn_app (goodIn_of _ (by decide +kernel)) ggL_law_X3_init_
set_option maxRecDepth 20000 in
theorem ggL_law_X2_beginSha : GoodIn wsL_law wsX2_beginSha := goodIn_r _ [82, 22, 15, 83, 84, 85, 14, 86, 87, 29, 88, 89, 90, 91, 32, 92, 93, 94, 2, 95, 24, 23, 25, 335, 336, 337, 338, 339, 340, 341, 359, 360, 361, 362] (by decide +kernel) (by decide +kernel)
set_option maxRecDepth 20000 in
theorem gL_law_X2_beginSha : GoodIn wsL_law (wsV RL 17 RX2 yX2_beginSha wsX2_beginSha) := goodIn_app (goodIn_of _ (by decide +kernel)) ggL_law_X2_beginSha
set_option maxRecDepth 20000 in
theorem ggL_law_X3_beginSha : GoodIn wsL_law wsX3_beginSha := goodIn_r _ [99, 78, 47, 49, 100, 101, 102, 5, 103, 104, 105, 106, 107, 342, 343, 344, 345, 346, 347, 348, 349, 350, 351, 352, 353, 354, 355, 356, 357, 358] (by decide +kernel) (by decide +kernel)
set_option maxRecDepth 20000 in
theorem gL_law_X3_beginSha : GoodIn wsL_law (wsV RL 21 RX3 yX3_beginSha wsX3_beginSha) := goodIn_app (goodIn_of _ (by decide +kernel)) ggL_law_X3_beginSha
set_option maxRecDepth 20000 in
theorem ggL_law_X2_sipKey : GoodIn wsL_law wsX2_sipKey := goodIn_r _ [111, 21, 335, 336, 337, 338, 339, 340, 341] (by decide +kernel) (by decide +kernel)
set_option maxRecDepth 20000 in
theorem gL_law_X2_sipKey : GoodIn wsL_law (wsV RL 22 RX2 yX2_sipKey wsX2_sipKey) := goodIn_app (goodIn_of _ (by decide +kernel)) ggL_law_X2_sipKey
set_option maxRecDepth 20000 in
theorem ggL_law_X3_sipKey : GoodIn wsL_law wsX3_sipKey := goodIn_r _ [115, 44, 342, 343, 344, 345, 346, 347, 348, 349, 350, 351, 352, 353, 354, 355, 356, 357, 358] (by decide +kernel) (by decide +kernel)
set_option maxRecDepth 20000 in
theorem gL_law_X3_sipKey : GoodIn wsL_law (wsV RL 26 RX3 yX3_sipKey wsX3_sipKey) := goodIn_app (goodIn_of _ (by decide +kernel)) ggL_law_X3_sipKey
set_option maxRecDepth 20000 in
theorem ggL_law_X2_beginSip : GoodIn wsL_law wsX2_beginSip := goodIn_r _ [119, 22, 19, 21, 120, 121, 122, 18, 123, 36, 124, 39, 92, 93, 94, 2, 95, 24, 23, 25, 335, 336, 337, 338, 339, 340, 341, 363, 364, 365, 366] (by decide +kernel) (by decide +kernel)
set_option maxRecDepth 20000 in
theorem gL_law_X2_beginSip : GoodIn wsL_law (wsV RL 27 RX2 yX2_beginSip wsX2_beginSip) := goodIn_app (goodIn_of _ (by decide +kernel)) ggL_law_X2_beginSip
set_option maxRecDepth 20000 in
theorem ggL_law_X3_beginSip : GoodIn wsL_law wsX3_beginSip := goodIn_r _ [128, 78, 44, 129, 130, 47, 131, 132, 133, 134, 100, 101, 102, 5, 103, 104, 105, 106, 107, 135, 136, 137, 138, 342, 343, 344, 345, 346, 347, 348, 349, 350, 351, 352, 353, 354, 355, 356, 357, 358] (by decide +kernel) (by decide +kernel)
set_option maxRecDepth 20000 in
theorem gL_law_X3_beginSip : GoodIn wsL_law (wsV RL 31 RX3 yX3_beginSip wsX3_beginSip) := goodIn_app (goodIn_of _ (by decide +kernel)) ggL_law_X3_beginSip
set_option maxRecDepth 20000 in
theorem ggL_law_X2_update : GoodIn wsL_law wsX2_update := goodIn_r _ [142, 23, 143, 144, 145, 2, 146, 24, 19, 15, 25, 147, 148, 149, 18, 150, 37, 38, 39, 151, 152, 153, 154, 155, 156, 36, 157, 158, 159, 160, 161, 162, 163, 164, 165, 166, 167, 168, 169, 170, 171, 172, 173, 174, 175, 176, 177, 178, 179, 14, 180, 32, 31, 181, 182, 183, 184, 29, 30, 88, 89, 90, 91, 185, 186, 187, 188, 189, 190, 191, 192, 193, 194, 195, 196, 197, 198, 199, 200, 201, 202, 203, 204, 205, 206, 207, 335, 336, 337, 338, 339, 340, 341, 363, 364, 365, 366, 359, 360, 361, 362] (by decide +kernel) (by decide +kernel)
set_option maxRecDepth 20000 in
theorem gL_law_X2_update : GoodIn wsL_law (wsV RL 32 RX2 yX2_update wsX2_update) := goodIn_app (goodIn_of _ (by decide +kernel)) ggL_law_X2_update
set_option maxRecDepth 20000 in
theorem ggL_law_X3_update : GoodIn wsL_law wsX3_update := goodIn_r _ [211, 106, 212, 213, 214, 5, 215, 104, 105, 216, 217, 218, 219, 45, 107, 220, 221, 222, 223, 47, 224, 225, 226, 227, 228, 229, 230, 231, 232, 233, 234, 235, 236, 237, 50, 51, 238, 48, 342, 343, 344, 345, 346, 347, 348, 349, 350, 351, 352, 353, 354, 355, 356, 357, 358] (by decide +kernel) (by decide +kernel)
set_option maxRecDepth 20000 in
theorem gL_law_X3_update : GoodIn wsL_law (wsV RL 35 RX3 yX3_update wsX3_update) := goodIn_app (goodIn_of _ (by decide +kernel)) ggL_law_X3_update
set_option maxRecDepth 20000 in
theorem ggL_law_X2_updates : GoodIn wsL_law wsX2_updates := goodIn_r _ [242, 23, 143, 144, 145, 2, 146, 24, 19, 15, 25, 147, 148, 149, 18, 150, 37, 38, 39, 151, 152, 153, 154, 155, 156, 36, 157, 158, 159, 160, 161, 162, 163, 164, 165, 166, 167, 168, 169, 170, 171, 172, 173, 174, 175, 176, 177, 178, 179, 14, 180, 32, 31, 181, 182, 183, 184, 29, 30, 88, 89, 90, 91, 185, 186, 187, 188, 189, 190, 191, 192, 193, 194, 195, 196, 197, 198, 199, 200, 201, 202, 203, 204, 205, 206, 207, 335, 336, 337, 338, 339, 340, 341, 363, 364, 365, 366, 359, 360, 361, 362] (by decide +kernel) (by decide +kernel)
set_option maxRecDepth 20000 in
theorem gL_law_X2_updates : GoodIn wsL_law (wsV RL 36 RX2 yX2_updates wsX2_updates) := goodIn_app (goodIn_of _ (by decide +kernel)) ggL_law_X2_updates
set_option maxRecDepth 20000 in
theorem ggL_law_X3_updates : GoodIn wsL_law wsX3_updates := goodIn_r _ [246, 106, 212, 213, 214, 5, 215, 104, 105, 216, 217, 218, 219, 45, 107, 220, 221, 222, 223, 47, 224, 225, 226, 227, 228, 229, 230, 231, 232, 233, 234, 235, 236, 237, 50, 51, 238, 48, 342, 343, 344, 345, 346, 347, 348, 349, 350, 351, 352, 353, 354, 355, 356, 357, 358] (by decide +kernel) (by decide +kernel)
set_option maxRecDepth 20000 in
theorem gL_law_X3_updates : GoodIn wsL_law (wsV RL 40 RX3 yX3_updates wsX3_updates) := goodIn_app (goodIn_of _ (by decide +kernel)) ggL_law_X3_updates
set_option maxRecDepth 20000 in
theorem ggL_law_X2_close : GoodIn wsL_law wsX2_close := goodIn_r _ [250, 23, 24, 19, 25, 15, 251, 252, 253, 18, 254, 36, 255, 148, 149, 150, 37, 38, 39, 151, 2, 152, 153, 154, 155, 156, 157, 158, 159, 160, 161, 162, 163, 164, 165, 166, 167, 168, 169, 170, 171, 172, 173, 174, 175, 176, 256, 257, 258, 14, 259, 31, 260, 178, 179, 180, 32, 181, 182, 183, 184, 29, 30, 88, 89, 90, 91, 185, 186, 187, 188, 189, 190, 191, 192, 193, 194, 195, 196, 197, 198, 199, 200, 201, 202, 203, 204, 205, 206, 207, 335, 336, 337, 338, 339, 340, 341, 363, 364, 365, 366, 359, 360, 361, 362] (by decide +kernel) (by decide +kernel)
set_option maxRecDepth 20000 in
theorem gL_law_X2_close : GoodIn wsL_law (wsV RL 41 RX2 yX2_close wsX2_close) := goodIn_app (goodIn_of _ (by decide +kernel)) ggL_law_X2_close
set_option maxRecDepth 20000 in
theorem ggL_law_X3_close : GoodIn wsL_law wsX3_close := goodIn_r _ [264, 104, 107, 106, 47, 265, 266, 105, 212, 213, 214, 5, 215, 216, 217, 218, 219, 45, 220, 221, 222, 223, 224, 225, 226, 227, 228, 229, 230, 231, 232, 233, 234, 235, 236, 237, 50, 51, 238, 48, 342, 343, 344, 345, 346, 347, 348, 349, 350, 351, 352, 353, 354, 355, 356, 357, 358] (by decide +kernel) (by decide +kernel)
set_option maxRecDepth 20000 in
theorem gL_law_X3_close : GoodIn wsL_law (wsV RL 44 RX3 yX3_close wsX3_close) := goodIn_app (goodIn_of _ (by decide +kernel)) ggL_law_X3_close
set_option maxRecDepth 20000 in
theorem ggL_law_X2_word : GoodIn wsL_law wsX2_word := goodIn_r _ [270, 23, 24, 19, 15, 271, 272, 2, 273, 274, 275, 276, 18, 277, 36, 278, 279, 280, 14, 281, 29, 335, 336, 337, 338, 339, 340, 341, 363, 364, 365, 366, 359, 360, 361, 362] (by decide +kernel) (by decide +kernel)
set_option maxRecDepth 20000 in
theorem gL_law_X2_word : GoodIn wsL_law (wsV RL 45 RX2 yX2_word wsX2_word) := goodIn_app (goodIn_of _ (by decide +kernel)) ggL_law_X2_word
set_option maxRecDepth 20000 in
theorem ggL_law_X3_word : GoodIn wsL_law wsX3_word := goodIn_r _ [285, 104, 105, 47, 342, 343, 344, 345, 346, 347, 348, 349, 350, 351, 352, 353, 354, 355, 356, 357, 358] (by decide +kernel) (by decide +kernel)
set_option maxRecDepth 20000 in
theorem gL_law_X3_word : GoodIn wsL_law (wsV RL 49 RX3 yX3_word wsX3_word) := goodIn_app (goodIn_of _ (by decide +kernel)) ggL_law_X3_word
set_option maxRecDepth 20000 in
theorem ggL_law_X2_length : GoodIn wsL_law wsX2_length := goodIn_r _ [289, 25, 335, 336, 337, 338, 339, 340, 341] (by decide +kernel) (by decide +kernel)
set_option maxRecDepth 20000 in
theorem gL_law_X2_length : GoodIn wsL_law (wsV RL 50 RX2 yX2_length wsX2_length) := goodIn_app (goodIn_of _ (by decide +kernel)) ggL_law_X2_length
set_option maxRecDepth 20000 in
theorem ggL_law_X3_length : GoodIn wsL_law wsX3_length := goodIn_r _ [293, 106, 342, 343, 344, 345, 346, 347, 348, 349, 350, 351, 352, 353, 354, 355, 356, 357, 358] (by decide +kernel) (by decide +kernel)
set_option maxRecDepth 20000 in
theorem gL_law_X3_length : GoodIn wsL_law (wsV RL 54 RX3 yX3_length wsX3_length) := goodIn_app (goodIn_of _ (by decide +kernel)) ggL_law_X3_length
set_option maxRecDepth 20000 in
theorem ggL_law_X2_state : GoodIn wsL_law wsX2_state := goodIn_r _ [297, 24, 23, 335, 336, 337, 338, 339, 340, 341] (by decide +kernel) (by decide +kernel)
set_option maxRecDepth 20000 in
theorem gL_law_X2_state : GoodIn wsL_law (wsV RL 55 RX2 yX2_state wsX2_state) := goodIn_app (goodIn_of _ (by decide +kernel)) ggL_law_X2_state
set_option maxRecDepth 20000 in
theorem ggL_law_X3_state : GoodIn wsL_law wsX3_state := goodIn_r _ [301, 105, 104, 342, 343, 344, 345, 346, 347, 348, 349, 350, 351, 352, 353, 354, 355, 356, 357, 358] (by decide +kernel) (by decide +kernel)
set_option maxRecDepth 20000 in
theorem gL_law_X3_state : GoodIn wsL_law (wsV RL 58 RX3 yX3_state wsX3_state) := goodIn_app (goodIn_of _ (by decide +kernel)) ggL_law_X3_state
set_option maxRecDepth 20000 in
theorem ggL_law_X2_add64Lo : GoodIn wsL_law wsX2_add64Lo := goodIn_r _ [305] (by decide +kernel) (by decide +kernel)
set_option maxRecDepth 20000 in
theorem gL_law_X2_add64Lo : GoodIn wsL_law (wsV RL 59 RX2 yX2_add64Lo wsX2_add64Lo) := goodIn_app (goodIn_of _ (by decide +kernel)) ggL_law_X2_add64Lo
set_option maxRecDepth 20000 in
theorem ggL_law_X3_add64Lo : GoodIn wsL_law wsX3_add64Lo := goodIn_r _ [309, 135, 136, 5, 137, 138] (by decide +kernel) (by decide +kernel)
set_option maxRecDepth 20000 in
theorem gL_law_X3_add64Lo : GoodIn wsL_law (wsV RL 63 RX3 yX3_add64Lo wsX3_add64Lo) := goodIn_app (goodIn_of _ (by decide +kernel)) ggL_law_X3_add64Lo
set_option maxRecDepth 20000 in
theorem ggL_law_X2_add64Hi : GoodIn wsL_law wsX2_add64Hi := goodIn_r _ [313, 167, 168, 2, 169] (by decide +kernel) (by decide +kernel)
set_option maxRecDepth 20000 in
theorem gL_law_X2_add64Hi : GoodIn wsL_law (wsV RL 64 RX2 yX2_add64Hi wsX2_add64Hi) := goodIn_app (goodIn_of _ (by decide +kernel)) ggL_law_X2_add64Hi
set_option maxRecDepth 20000 in
theorem ggL_law_X3_add64Hi : GoodIn wsL_law wsX3_add64Hi := goodIn_r _ [317, 135, 136, 5, 137, 138] (by decide +kernel) (by decide +kernel)
set_option maxRecDepth 20000 in
theorem gL_law_X3_add64Hi : GoodIn wsL_law (wsV RL 67 RX3 yX3_add64Hi wsX3_add64Hi) := goodIn_app (goodIn_of _ (by decide +kernel)) ggL_law_X3_add64Hi
set_option maxRecDepth 20000 in
theorem ggL_law_X2_rotr64Hi : GoodIn wsL_law wsX2_rotr64Hi := goodIn_r _ [321, 322, 174, 2, 175, 176, 151, 152] (by decide +kernel) (by decide +kernel)
set_option maxRecDepth 20000 in
theorem gL_law_X2_rotr64Hi : GoodIn wsL_law (wsV RL 68 RX2 yX2_rotr64Hi wsX2_rotr64Hi) := goodIn_app (goodIn_of _ (by decide +kernel)) ggL_law_X2_rotr64Hi
set_option maxRecDepth 20000 in
theorem ggL_law_X3_rotr64Hi : GoodIn wsL_law wsX3_rotr64Hi := goodIn_r _ [326, 135, 136, 5, 137, 138, 231, 232, 233] (by decide +kernel) (by decide +kernel)
set_option maxRecDepth 20000 in
theorem gL_law_X3_rotr64Hi : GoodIn wsL_law (wsV RL 72 RX3 yX3_rotr64Hi wsX3_rotr64Hi) := goodIn_app (goodIn_of _ (by decide +kernel)) ggL_law_X3_rotr64Hi
set_option maxRecDepth 20000 in
theorem ggL_law_X2_rotr64Lo : GoodIn wsL_law wsX2_rotr64Lo := goodIn_r _ [330, 322, 174, 2, 175, 176, 151, 152] (by decide +kernel) (by decide +kernel)
set_option maxRecDepth 20000 in
theorem gL_law_X2_rotr64Lo : GoodIn wsL_law (wsV RL 73 RX2 yX2_rotr64Lo wsX2_rotr64Lo) := goodIn_app (goodIn_of _ (by decide +kernel)) ggL_law_X2_rotr64Lo
set_option maxRecDepth 20000 in
theorem ggL_law_X3_rotr64Lo : GoodIn wsL_law wsX3_rotr64Lo := goodIn_r _ [334, 135, 136, 5, 137, 138, 231, 232, 233] (by decide +kernel) (by decide +kernel)
set_option maxRecDepth 20000 in
theorem gL_law_X3_rotr64Lo : GoodIn wsL_law (wsV RL 76 RX3 yX3_rotr64Lo wsX3_rotr64Lo) := goodIn_app (goodIn_of _ (by decide +kernel)) ggL_law_X3_rotr64Lo
theorem dL_law_0 : decode cL_law 0 = .ok (.new 7, 3) := by decide +kernel
theorem dL_law_3 : decode cL_law 3 = .ok (.dup, 1) := by decide +kernel
theorem dL_law_4 : decode cL_law 4 = .ok (.invokespecial 9, 3) := by decide +kernel
theorem dL_law_7 : decode cL_law 7 = .ok (.astore_n 1, 1) := by decide +kernel
theorem dL_law_8 : decode cL_law 8 = .ok (.new 10, 3) := by decide +kernel
theorem dL_law_11 : decode cL_law 11 = .ok (.dup, 1) := by decide +kernel
theorem dL_law_12 : decode cL_law 12 = .ok (.invokespecial 12, 3) := by decide +kernel
theorem dL_law_15 : decode cL_law 15 = .ok (.astore_n 2, 1) := by decide +kernel
theorem dL_law_16 : decode cL_law 16 = .ok (.iconst 0, 1) := by decide +kernel
theorem dL_law_17 : decode cL_law 17 = .ok (.istore_n 3, 1) := by decide +kernel
theorem dL_law_18 : decode cL_law 18 = .ok (.iload_n 3, 1) := by decide +kernel
theorem dL_law_19 : decode cL_law 19 = .ok (.aload_n 0, 1) := by decide +kernel
theorem dL_law_20 : decode cL_law 20 = .ok (.arraylength, 1) := by decide +kernel
theorem dL_law_21 : decode cL_law 21 = .ok (.iconst 5, 1) := by decide +kernel
theorem dL_law_22 : decode cL_law 22 = .ok (.isub, 1) := by decide +kernel
theorem dL_law_23 : decode cL_law 23 = .ok (.if_icmp .gt 487, 3) := by decide +kernel
theorem dL_law_26 : decode cL_law 26 = .ok (.aload_n 0, 1) := by decide +kernel
theorem dL_law_27 : decode cL_law 27 = .ok (.iload_n 3, 1) := by decide +kernel
theorem dL_law_28 : decode cL_law 28 = .ok (.iaload, 1) := by decide +kernel
theorem dL_law_29 : decode cL_law 29 = .ok (.bipush 15, 2) := by decide +kernel
theorem dL_law_31 : decode cL_law 31 = .ok (.iand, 1) := by decide +kernel
theorem dL_law_32 : decode cL_law 32 = .ok (.tableswitch 472 0 13 #[72, 83, 106, 139, 152, 175, 218, 231, 254, 267, 280, 333, 386, 429], 72) := by decide +kernel
theorem dL_law_104 : decode cL_law 104 = .ok (.aload_n 1, 1) := by decide +kernel
theorem dL_law_105 : decode cL_law 105 = .ok (.invokevirtual 13, 3) := by decide +kernel
theorem dL_law_108 : decode cL_law 108 = .ok (.aload_n 2, 1) := by decide +kernel
theorem dL_law_109 : decode cL_law 109 = .ok (.invokevirtual 16, 3) := by decide +kernel
theorem dL_law_112 : decode cL_law 112 = .ok (.goto 392, 3) := by decide +kernel
theorem dL_law_115 : decode cL_law 115 = .ok (.aload_n 1, 1) := by decide +kernel
theorem dL_law_116 : decode cL_law 116 = .ok (.aload_n 0, 1) := by decide +kernel
theorem dL_law_117 : decode cL_law 117 = .ok (.iload_n 3, 1) := by decide +kernel
theorem dL_law_118 : decode cL_law 118 = .ok (.iconst 1, 1) := by decide +kernel
theorem dL_law_119 : decode cL_law 119 = .ok (.iadd, 1) := by decide +kernel
theorem dL_law_120 : decode cL_law 120 = .ok (.iaload, 1) := by decide +kernel
theorem dL_law_121 : decode cL_law 121 = .ok (.invokevirtual 17, 3) := by decide +kernel
theorem dL_law_124 : decode cL_law 124 = .ok (.aload_n 2, 1) := by decide +kernel
theorem dL_law_125 : decode cL_law 125 = .ok (.aload_n 0, 1) := by decide +kernel
theorem dL_law_126 : decode cL_law 126 = .ok (.iload_n 3, 1) := by decide +kernel
theorem dL_law_127 : decode cL_law 127 = .ok (.iconst 1, 1) := by decide +kernel
theorem dL_law_128 : decode cL_law 128 = .ok (.iadd, 1) := by decide +kernel
theorem dL_law_129 : decode cL_law 129 = .ok (.iaload, 1) := by decide +kernel
theorem dL_law_130 : decode cL_law 130 = .ok (.invokevirtual 21, 3) := by decide +kernel
theorem dL_law_133 : decode cL_law 133 = .ok (.if_icmp .eq 371, 3) := by decide +kernel
theorem dL_law_136 : decode cL_law 136 = .ok (.iconst 0, 1) := by decide +kernel
theorem dL_law_137 : decode cL_law 137 = .ok (.ireturn, 1) := by decide +kernel
theorem dL_law_138 : decode cL_law 138 = .ok (.aload_n 1, 1) := by decide +kernel
theorem dL_law_139 : decode cL_law 139 = .ok (.aload_n 0, 1) := by decide +kernel
theorem dL_law_140 : decode cL_law 140 = .ok (.iload_n 3, 1) := by decide +kernel
theorem dL_law_141 : decode cL_law 141 = .ok (.iconst 1, 1) := by decide +kernel
theorem dL_law_142 : decode cL_law 142 = .ok (.iadd, 1) := by decide +kernel
theorem dL_law_143 : decode cL_law 143 = .ok (.iaload, 1) := by decide +kernel
theorem dL_law_144 : decode cL_law 144 = .ok (.aload_n 0, 1) := by decide +kernel
theorem dL_law_145 : decode cL_law 145 = .ok (.iload_n 3, 1) := by decide +kernel
theorem dL_law_146 : decode cL_law 146 = .ok (.iconst 2, 1) := by decide +kernel
theorem dL_law_147 : decode cL_law 147 = .ok (.iadd, 1) := by decide +kernel
theorem dL_law_148 : decode cL_law 148 = .ok (.iaload, 1) := by decide +kernel
theorem dL_law_149 : decode cL_law 149 = .ok (.invokevirtual 22, 3) := by decide +kernel
theorem dL_law_152 : decode cL_law 152 = .ok (.aload_n 2, 1) := by decide +kernel
theorem dL_law_153 : decode cL_law 153 = .ok (.aload_n 0, 1) := by decide +kernel
theorem dL_law_154 : decode cL_law 154 = .ok (.iload_n 3, 1) := by decide +kernel
theorem dL_law_155 : decode cL_law 155 = .ok (.iconst 1, 1) := by decide +kernel
theorem dL_law_156 : decode cL_law 156 = .ok (.iadd, 1) := by decide +kernel
theorem dL_law_157 : decode cL_law 157 = .ok (.iaload, 1) := by decide +kernel
theorem dL_law_158 : decode cL_law 158 = .ok (.aload_n 0, 1) := by decide +kernel
theorem dL_law_159 : decode cL_law 159 = .ok (.iload_n 3, 1) := by decide +kernel
theorem dL_law_160 : decode cL_law 160 = .ok (.iconst 2, 1) := by decide +kernel
theorem dL_law_161 : decode cL_law 161 = .ok (.iadd, 1) := by decide +kernel
theorem dL_law_162 : decode cL_law 162 = .ok (.iaload, 1) := by decide +kernel
theorem dL_law_163 : decode cL_law 163 = .ok (.invokevirtual 26, 3) := by decide +kernel
theorem dL_law_166 : decode cL_law 166 = .ok (.if_icmp .eq 338, 3) := by decide +kernel
theorem dL_law_169 : decode cL_law 169 = .ok (.iconst 0, 1) := by decide +kernel
theorem dL_law_170 : decode cL_law 170 = .ok (.ireturn, 1) := by decide +kernel
theorem dL_law_171 : decode cL_law 171 = .ok (.aload_n 1, 1) := by decide +kernel
theorem dL_law_172 : decode cL_law 172 = .ok (.invokevirtual 27, 3) := by decide +kernel
theorem dL_law_175 : decode cL_law 175 = .ok (.aload_n 2, 1) := by decide +kernel
theorem dL_law_176 : decode cL_law 176 = .ok (.invokevirtual 31, 3) := by decide +kernel
theorem dL_law_179 : decode cL_law 179 = .ok (.if_icmp .eq 325, 3) := by decide +kernel
theorem dL_law_182 : decode cL_law 182 = .ok (.iconst 0, 1) := by decide +kernel
theorem dL_law_183 : decode cL_law 183 = .ok (.ireturn, 1) := by decide +kernel
theorem dL_law_184 : decode cL_law 184 = .ok (.aload_n 1, 1) := by decide +kernel
theorem dL_law_185 : decode cL_law 185 = .ok (.aload_n 0, 1) := by decide +kernel
theorem dL_law_186 : decode cL_law 186 = .ok (.iload_n 3, 1) := by decide +kernel
theorem dL_law_187 : decode cL_law 187 = .ok (.iconst 1, 1) := by decide +kernel
theorem dL_law_188 : decode cL_law 188 = .ok (.iadd, 1) := by decide +kernel
theorem dL_law_189 : decode cL_law 189 = .ok (.iaload, 1) := by decide +kernel
theorem dL_law_190 : decode cL_law 190 = .ok (.invokevirtual 32, 3) := by decide +kernel
theorem dL_law_193 : decode cL_law 193 = .ok (.aload_n 2, 1) := by decide +kernel
theorem dL_law_194 : decode cL_law 194 = .ok (.aload_n 0, 1) := by decide +kernel
theorem dL_law_195 : decode cL_law 195 = .ok (.iload_n 3, 1) := by decide +kernel
theorem dL_law_196 : decode cL_law 196 = .ok (.iconst 1, 1) := by decide +kernel
theorem dL_law_197 : decode cL_law 197 = .ok (.iadd, 1) := by decide +kernel
theorem dL_law_198 : decode cL_law 198 = .ok (.iaload, 1) := by decide +kernel
theorem dL_law_199 : decode cL_law 199 = .ok (.invokevirtual 35, 3) := by decide +kernel
theorem dL_law_202 : decode cL_law 202 = .ok (.if_icmp .eq 302, 3) := by decide +kernel
theorem dL_law_205 : decode cL_law 205 = .ok (.iconst 0, 1) := by decide +kernel
theorem dL_law_206 : decode cL_law 206 = .ok (.ireturn, 1) := by decide +kernel
theorem dL_law_207 : decode cL_law 207 = .ok (.aload_n 1, 1) := by decide +kernel
theorem dL_law_208 : decode cL_law 208 = .ok (.aload_n 0, 1) := by decide +kernel
theorem dL_law_209 : decode cL_law 209 = .ok (.iload_n 3, 1) := by decide +kernel
theorem dL_law_210 : decode cL_law 210 = .ok (.iconst 1, 1) := by decide +kernel
theorem dL_law_211 : decode cL_law 211 = .ok (.iadd, 1) := by decide +kernel
theorem dL_law_212 : decode cL_law 212 = .ok (.iaload, 1) := by decide +kernel
theorem dL_law_213 : decode cL_law 213 = .ok (.aload_n 0, 1) := by decide +kernel
theorem dL_law_214 : decode cL_law 214 = .ok (.iload_n 3, 1) := by decide +kernel
theorem dL_law_215 : decode cL_law 215 = .ok (.iconst 2, 1) := by decide +kernel
theorem dL_law_216 : decode cL_law 216 = .ok (.iadd, 1) := by decide +kernel
theorem dL_law_217 : decode cL_law 217 = .ok (.iaload, 1) := by decide +kernel
theorem dL_law_218 : decode cL_law 218 = .ok (.aload_n 0, 1) := by decide +kernel
theorem dL_law_219 : decode cL_law 219 = .ok (.iload_n 3, 1) := by decide +kernel
theorem dL_law_220 : decode cL_law 220 = .ok (.iconst 3, 1) := by decide +kernel
theorem dL_law_221 : decode cL_law 221 = .ok (.iadd, 1) := by decide +kernel
theorem dL_law_222 : decode cL_law 222 = .ok (.iaload, 1) := by decide +kernel
theorem dL_law_223 : decode cL_law 223 = .ok (.invokevirtual 36, 3) := by decide +kernel
theorem dL_law_226 : decode cL_law 226 = .ok (.aload_n 2, 1) := by decide +kernel
theorem dL_law_227 : decode cL_law 227 = .ok (.aload_n 0, 1) := by decide +kernel
theorem dL_law_228 : decode cL_law 228 = .ok (.iload_n 3, 1) := by decide +kernel
theorem dL_law_229 : decode cL_law 229 = .ok (.iconst 1, 1) := by decide +kernel
theorem dL_law_230 : decode cL_law 230 = .ok (.iadd, 1) := by decide +kernel
theorem dL_law_231 : decode cL_law 231 = .ok (.iaload, 1) := by decide +kernel
theorem dL_law_232 : decode cL_law 232 = .ok (.aload_n 0, 1) := by decide +kernel
theorem dL_law_233 : decode cL_law 233 = .ok (.iload_n 3, 1) := by decide +kernel
theorem dL_law_234 : decode cL_law 234 = .ok (.iconst 2, 1) := by decide +kernel
theorem dL_law_235 : decode cL_law 235 = .ok (.iadd, 1) := by decide +kernel
theorem dL_law_236 : decode cL_law 236 = .ok (.iaload, 1) := by decide +kernel
theorem dL_law_237 : decode cL_law 237 = .ok (.aload_n 0, 1) := by decide +kernel
theorem dL_law_238 : decode cL_law 238 = .ok (.iload_n 3, 1) := by decide +kernel
theorem dL_law_239 : decode cL_law 239 = .ok (.iconst 3, 1) := by decide +kernel
theorem dL_law_240 : decode cL_law 240 = .ok (.iadd, 1) := by decide +kernel
theorem dL_law_241 : decode cL_law 241 = .ok (.iaload, 1) := by decide +kernel
theorem dL_law_242 : decode cL_law 242 = .ok (.invokevirtual 40, 3) := by decide +kernel
theorem dL_law_245 : decode cL_law 245 = .ok (.if_icmp .eq 259, 3) := by decide +kernel
theorem dL_law_248 : decode cL_law 248 = .ok (.iconst 0, 1) := by decide +kernel
theorem dL_law_249 : decode cL_law 249 = .ok (.ireturn, 1) := by decide +kernel
theorem dL_law_250 : decode cL_law 250 = .ok (.aload_n 1, 1) := by decide +kernel
theorem dL_law_251 : decode cL_law 251 = .ok (.invokevirtual 41, 3) := by decide +kernel
theorem dL_law_254 : decode cL_law 254 = .ok (.aload_n 2, 1) := by decide +kernel
theorem dL_law_255 : decode cL_law 255 = .ok (.invokevirtual 44, 3) := by decide +kernel
theorem dL_law_258 : decode cL_law 258 = .ok (.if_icmp .eq 246, 3) := by decide +kernel
theorem dL_law_261 : decode cL_law 261 = .ok (.iconst 0, 1) := by decide +kernel
theorem dL_law_262 : decode cL_law 262 = .ok (.ireturn, 1) := by decide +kernel
end
section
theorem dL_law_263 : decode cL_law 263 = .ok (.aload_n 1, 1) := by decide +kernel
theorem dL_law_264 : decode cL_law 264 = .ok (.aload_n 0, 1) := by decide +kernel
theorem dL_law_265 : decode cL_law 265 = .ok (.iload_n 3, 1) := by decide +kernel
theorem dL_law_266 : decode cL_law 266 = .ok (.iconst 1, 1) := by decide +kernel
theorem dL_law_267 : decode cL_law 267 = .ok (.iadd, 1) := by decide +kernel
theorem dL_law_268 : decode cL_law 268 = .ok (.iaload, 1) := by decide +kernel
theorem dL_law_269 : decode cL_law 269 = .ok (.invokevirtual 45, 3) := by decide +kernel
theorem dL_law_272 : decode cL_law 272 = .ok (.aload_n 2, 1) := by decide +kernel
theorem dL_law_273 : decode cL_law 273 = .ok (.aload_n 0, 1) := by decide +kernel
theorem dL_law_274 : decode cL_law 274 = .ok (.iload_n 3, 1) := by decide +kernel
theorem dL_law_275 : decode cL_law 275 = .ok (.iconst 1, 1) := by decide +kernel
theorem dL_law_276 : decode cL_law 276 = .ok (.iadd, 1) := by decide +kernel
theorem dL_law_277 : decode cL_law 277 = .ok (.iaload, 1) := by decide +kernel
theorem dL_law_278 : decode cL_law 278 = .ok (.invokevirtual 49, 3) := by decide +kernel
theorem dL_law_281 : decode cL_law 281 = .ok (.if_icmp .eq 223, 3) := by decide +kernel
theorem dL_law_284 : decode cL_law 284 = .ok (.iconst 0, 1) := by decide +kernel
theorem dL_law_285 : decode cL_law 285 = .ok (.ireturn, 1) := by decide +kernel
theorem dL_law_286 : decode cL_law 286 = .ok (.aload_n 1, 1) := by decide +kernel
theorem dL_law_287 : decode cL_law 287 = .ok (.invokevirtual 50, 3) := by decide +kernel
theorem dL_law_290 : decode cL_law 290 = .ok (.aload_n 2, 1) := by decide +kernel
theorem dL_law_291 : decode cL_law 291 = .ok (.invokevirtual 54, 3) := by decide +kernel
theorem dL_law_294 : decode cL_law 294 = .ok (.if_icmp .eq 210, 3) := by decide +kernel
theorem dL_law_297 : decode cL_law 297 = .ok (.iconst 0, 1) := by decide +kernel
theorem dL_law_298 : decode cL_law 298 = .ok (.ireturn, 1) := by decide +kernel
theorem dL_law_299 : decode cL_law 299 = .ok (.aload_n 1, 1) := by decide +kernel
theorem dL_law_300 : decode cL_law 300 = .ok (.invokevirtual 55, 3) := by decide +kernel
theorem dL_law_303 : decode cL_law 303 = .ok (.aload_n 2, 1) := by decide +kernel
theorem dL_law_304 : decode cL_law 304 = .ok (.invokevirtual 58, 3) := by decide +kernel
theorem dL_law_307 : decode cL_law 307 = .ok (.if_icmp .eq 197, 3) := by decide +kernel
theorem dL_law_310 : decode cL_law 310 = .ok (.iconst 0, 1) := by decide +kernel
theorem dL_law_311 : decode cL_law 311 = .ok (.ireturn, 1) := by decide +kernel
theorem dL_law_312 : decode cL_law 312 = .ok (.aload_n 1, 1) := by decide +kernel
theorem dL_law_313 : decode cL_law 313 = .ok (.aload_n 0, 1) := by decide +kernel
theorem dL_law_314 : decode cL_law 314 = .ok (.iload_n 3, 1) := by decide +kernel
theorem dL_law_315 : decode cL_law 315 = .ok (.iconst 1, 1) := by decide +kernel
theorem dL_law_316 : decode cL_law 316 = .ok (.iadd, 1) := by decide +kernel
theorem dL_law_317 : decode cL_law 317 = .ok (.iaload, 1) := by decide +kernel
theorem dL_law_318 : decode cL_law 318 = .ok (.aload_n 0, 1) := by decide +kernel
theorem dL_law_319 : decode cL_law 319 = .ok (.iload_n 3, 1) := by decide +kernel
theorem dL_law_320 : decode cL_law 320 = .ok (.iconst 2, 1) := by decide +kernel
theorem dL_law_321 : decode cL_law 321 = .ok (.iadd, 1) := by decide +kernel
theorem dL_law_322 : decode cL_law 322 = .ok (.iaload, 1) := by decide +kernel
theorem dL_law_323 : decode cL_law 323 = .ok (.aload_n 0, 1) := by decide +kernel
theorem dL_law_324 : decode cL_law 324 = .ok (.iload_n 3, 1) := by decide +kernel
theorem dL_law_325 : decode cL_law 325 = .ok (.iconst 3, 1) := by decide +kernel
theorem dL_law_326 : decode cL_law 326 = .ok (.iadd, 1) := by decide +kernel
theorem dL_law_327 : decode cL_law 327 = .ok (.iaload, 1) := by decide +kernel
theorem dL_law_328 : decode cL_law 328 = .ok (.aload_n 0, 1) := by decide +kernel
theorem dL_law_329 : decode cL_law 329 = .ok (.iload_n 3, 1) := by decide +kernel
theorem dL_law_330 : decode cL_law 330 = .ok (.iconst 4, 1) := by decide +kernel
theorem dL_law_331 : decode cL_law 331 = .ok (.iadd, 1) := by decide +kernel
theorem dL_law_332 : decode cL_law 332 = .ok (.iaload, 1) := by decide +kernel
theorem dL_law_333 : decode cL_law 333 = .ok (.invokevirtual 59, 3) := by decide +kernel
theorem dL_law_336 : decode cL_law 336 = .ok (.aload_n 2, 1) := by decide +kernel
theorem dL_law_337 : decode cL_law 337 = .ok (.aload_n 0, 1) := by decide +kernel
theorem dL_law_338 : decode cL_law 338 = .ok (.iload_n 3, 1) := by decide +kernel
theorem dL_law_339 : decode cL_law 339 = .ok (.iconst 1, 1) := by decide +kernel
theorem dL_law_340 : decode cL_law 340 = .ok (.iadd, 1) := by decide +kernel
theorem dL_law_341 : decode cL_law 341 = .ok (.iaload, 1) := by decide +kernel
theorem dL_law_342 : decode cL_law 342 = .ok (.aload_n 0, 1) := by decide +kernel
theorem dL_law_343 : decode cL_law 343 = .ok (.iload_n 3, 1) := by decide +kernel
theorem dL_law_344 : decode cL_law 344 = .ok (.iconst 2, 1) := by decide +kernel
theorem dL_law_345 : decode cL_law 345 = .ok (.iadd, 1) := by decide +kernel
theorem dL_law_346 : decode cL_law 346 = .ok (.iaload, 1) := by decide +kernel
theorem dL_law_347 : decode cL_law 347 = .ok (.aload_n 0, 1) := by decide +kernel
theorem dL_law_348 : decode cL_law 348 = .ok (.iload_n 3, 1) := by decide +kernel
theorem dL_law_349 : decode cL_law 349 = .ok (.iconst 3, 1) := by decide +kernel
theorem dL_law_350 : decode cL_law 350 = .ok (.iadd, 1) := by decide +kernel
theorem dL_law_351 : decode cL_law 351 = .ok (.iaload, 1) := by decide +kernel
theorem dL_law_352 : decode cL_law 352 = .ok (.aload_n 0, 1) := by decide +kernel
theorem dL_law_353 : decode cL_law 353 = .ok (.iload_n 3, 1) := by decide +kernel
theorem dL_law_354 : decode cL_law 354 = .ok (.iconst 4, 1) := by decide +kernel
theorem dL_law_355 : decode cL_law 355 = .ok (.iadd, 1) := by decide +kernel
theorem dL_law_356 : decode cL_law 356 = .ok (.iaload, 1) := by decide +kernel
theorem dL_law_357 : decode cL_law 357 = .ok (.invokevirtual 63, 3) := by decide +kernel
theorem dL_law_360 : decode cL_law 360 = .ok (.if_icmp .eq 144, 3) := by decide +kernel
theorem dL_law_363 : decode cL_law 363 = .ok (.iconst 0, 1) := by decide +kernel
theorem dL_law_364 : decode cL_law 364 = .ok (.ireturn, 1) := by decide +kernel
theorem dL_law_365 : decode cL_law 365 = .ok (.aload_n 1, 1) := by decide +kernel
theorem dL_law_366 : decode cL_law 366 = .ok (.aload_n 0, 1) := by decide +kernel
theorem dL_law_367 : decode cL_law 367 = .ok (.iload_n 3, 1) := by decide +kernel
theorem dL_law_368 : decode cL_law 368 = .ok (.iconst 1, 1) := by decide +kernel
theorem dL_law_369 : decode cL_law 369 = .ok (.iadd, 1) := by decide +kernel
theorem dL_law_370 : decode cL_law 370 = .ok (.iaload, 1) := by decide +kernel
theorem dL_law_371 : decode cL_law 371 = .ok (.aload_n 0, 1) := by decide +kernel
theorem dL_law_372 : decode cL_law 372 = .ok (.iload_n 3, 1) := by decide +kernel
theorem dL_law_373 : decode cL_law 373 = .ok (.iconst 2, 1) := by decide +kernel
theorem dL_law_374 : decode cL_law 374 = .ok (.iadd, 1) := by decide +kernel
theorem dL_law_375 : decode cL_law 375 = .ok (.iaload, 1) := by decide +kernel
theorem dL_law_376 : decode cL_law 376 = .ok (.aload_n 0, 1) := by decide +kernel
theorem dL_law_377 : decode cL_law 377 = .ok (.iload_n 3, 1) := by decide +kernel
theorem dL_law_378 : decode cL_law 378 = .ok (.iconst 3, 1) := by decide +kernel
theorem dL_law_379 : decode cL_law 379 = .ok (.iadd, 1) := by decide +kernel
theorem dL_law_380 : decode cL_law 380 = .ok (.iaload, 1) := by decide +kernel
theorem dL_law_381 : decode cL_law 381 = .ok (.aload_n 0, 1) := by decide +kernel
theorem dL_law_382 : decode cL_law 382 = .ok (.iload_n 3, 1) := by decide +kernel
theorem dL_law_383 : decode cL_law 383 = .ok (.iconst 4, 1) := by decide +kernel
theorem dL_law_384 : decode cL_law 384 = .ok (.iadd, 1) := by decide +kernel
theorem dL_law_385 : decode cL_law 385 = .ok (.iaload, 1) := by decide +kernel
theorem dL_law_386 : decode cL_law 386 = .ok (.invokevirtual 64, 3) := by decide +kernel
theorem dL_law_389 : decode cL_law 389 = .ok (.aload_n 2, 1) := by decide +kernel
theorem dL_law_390 : decode cL_law 390 = .ok (.aload_n 0, 1) := by decide +kernel
theorem dL_law_391 : decode cL_law 391 = .ok (.iload_n 3, 1) := by decide +kernel
theorem dL_law_392 : decode cL_law 392 = .ok (.iconst 1, 1) := by decide +kernel
theorem dL_law_393 : decode cL_law 393 = .ok (.iadd, 1) := by decide +kernel
theorem dL_law_394 : decode cL_law 394 = .ok (.iaload, 1) := by decide +kernel
theorem dL_law_395 : decode cL_law 395 = .ok (.aload_n 0, 1) := by decide +kernel
theorem dL_law_396 : decode cL_law 396 = .ok (.iload_n 3, 1) := by decide +kernel
theorem dL_law_397 : decode cL_law 397 = .ok (.iconst 2, 1) := by decide +kernel
theorem dL_law_398 : decode cL_law 398 = .ok (.iadd, 1) := by decide +kernel
theorem dL_law_399 : decode cL_law 399 = .ok (.iaload, 1) := by decide +kernel
theorem dL_law_400 : decode cL_law 400 = .ok (.aload_n 0, 1) := by decide +kernel
theorem dL_law_401 : decode cL_law 401 = .ok (.iload_n 3, 1) := by decide +kernel
theorem dL_law_402 : decode cL_law 402 = .ok (.iconst 3, 1) := by decide +kernel
theorem dL_law_403 : decode cL_law 403 = .ok (.iadd, 1) := by decide +kernel
theorem dL_law_404 : decode cL_law 404 = .ok (.iaload, 1) := by decide +kernel
theorem dL_law_405 : decode cL_law 405 = .ok (.aload_n 0, 1) := by decide +kernel
theorem dL_law_406 : decode cL_law 406 = .ok (.iload_n 3, 1) := by decide +kernel
theorem dL_law_407 : decode cL_law 407 = .ok (.iconst 4, 1) := by decide +kernel
theorem dL_law_408 : decode cL_law 408 = .ok (.iadd, 1) := by decide +kernel
theorem dL_law_409 : decode cL_law 409 = .ok (.iaload, 1) := by decide +kernel
theorem dL_law_410 : decode cL_law 410 = .ok (.invokevirtual 67, 3) := by decide +kernel
theorem dL_law_413 : decode cL_law 413 = .ok (.if_icmp .eq 91, 3) := by decide +kernel
theorem dL_law_416 : decode cL_law 416 = .ok (.iconst 0, 1) := by decide +kernel
theorem dL_law_417 : decode cL_law 417 = .ok (.ireturn, 1) := by decide +kernel
theorem dL_law_418 : decode cL_law 418 = .ok (.aload_n 1, 1) := by decide +kernel
theorem dL_law_419 : decode cL_law 419 = .ok (.aload_n 0, 1) := by decide +kernel
theorem dL_law_420 : decode cL_law 420 = .ok (.iload_n 3, 1) := by decide +kernel
theorem dL_law_421 : decode cL_law 421 = .ok (.iconst 1, 1) := by decide +kernel
theorem dL_law_422 : decode cL_law 422 = .ok (.iadd, 1) := by decide +kernel
theorem dL_law_423 : decode cL_law 423 = .ok (.iaload, 1) := by decide +kernel
theorem dL_law_424 : decode cL_law 424 = .ok (.aload_n 0, 1) := by decide +kernel
theorem dL_law_425 : decode cL_law 425 = .ok (.iload_n 3, 1) := by decide +kernel
theorem dL_law_426 : decode cL_law 426 = .ok (.iconst 2, 1) := by decide +kernel
theorem dL_law_427 : decode cL_law 427 = .ok (.iadd, 1) := by decide +kernel
theorem dL_law_428 : decode cL_law 428 = .ok (.iaload, 1) := by decide +kernel
theorem dL_law_429 : decode cL_law 429 = .ok (.aload_n 0, 1) := by decide +kernel
theorem dL_law_430 : decode cL_law 430 = .ok (.iload_n 3, 1) := by decide +kernel
theorem dL_law_431 : decode cL_law 431 = .ok (.iconst 3, 1) := by decide +kernel
theorem dL_law_432 : decode cL_law 432 = .ok (.iadd, 1) := by decide +kernel
theorem dL_law_433 : decode cL_law 433 = .ok (.iaload, 1) := by decide +kernel
theorem dL_law_434 : decode cL_law 434 = .ok (.invokevirtual 68, 3) := by decide +kernel
theorem dL_law_437 : decode cL_law 437 = .ok (.aload_n 2, 1) := by decide +kernel
theorem dL_law_438 : decode cL_law 438 = .ok (.aload_n 0, 1) := by decide +kernel
theorem dL_law_439 : decode cL_law 439 = .ok (.iload_n 3, 1) := by decide +kernel
theorem dL_law_440 : decode cL_law 440 = .ok (.iconst 1, 1) := by decide +kernel
theorem dL_law_441 : decode cL_law 441 = .ok (.iadd, 1) := by decide +kernel
theorem dL_law_442 : decode cL_law 442 = .ok (.iaload, 1) := by decide +kernel
theorem dL_law_443 : decode cL_law 443 = .ok (.aload_n 0, 1) := by decide +kernel
theorem dL_law_444 : decode cL_law 444 = .ok (.iload_n 3, 1) := by decide +kernel
theorem dL_law_445 : decode cL_law 445 = .ok (.iconst 2, 1) := by decide +kernel
theorem dL_law_446 : decode cL_law 446 = .ok (.iadd, 1) := by decide +kernel
theorem dL_law_447 : decode cL_law 447 = .ok (.iaload, 1) := by decide +kernel
theorem dL_law_448 : decode cL_law 448 = .ok (.aload_n 0, 1) := by decide +kernel
theorem dL_law_449 : decode cL_law 449 = .ok (.iload_n 3, 1) := by decide +kernel
theorem dL_law_450 : decode cL_law 450 = .ok (.iconst 3, 1) := by decide +kernel
theorem dL_law_451 : decode cL_law 451 = .ok (.iadd, 1) := by decide +kernel
theorem dL_law_452 : decode cL_law 452 = .ok (.iaload, 1) := by decide +kernel
theorem dL_law_453 : decode cL_law 453 = .ok (.invokevirtual 72, 3) := by decide +kernel
theorem dL_law_456 : decode cL_law 456 = .ok (.if_icmp .eq 48, 3) := by decide +kernel
theorem dL_law_459 : decode cL_law 459 = .ok (.iconst 0, 1) := by decide +kernel
theorem dL_law_460 : decode cL_law 460 = .ok (.ireturn, 1) := by decide +kernel
theorem dL_law_461 : decode cL_law 461 = .ok (.aload_n 1, 1) := by decide +kernel
theorem dL_law_462 : decode cL_law 462 = .ok (.aload_n 0, 1) := by decide +kernel
theorem dL_law_463 : decode cL_law 463 = .ok (.iload_n 3, 1) := by decide +kernel
theorem dL_law_464 : decode cL_law 464 = .ok (.iconst 1, 1) := by decide +kernel
theorem dL_law_465 : decode cL_law 465 = .ok (.iadd, 1) := by decide +kernel
theorem dL_law_466 : decode cL_law 466 = .ok (.iaload, 1) := by decide +kernel
theorem dL_law_467 : decode cL_law 467 = .ok (.aload_n 0, 1) := by decide +kernel
theorem dL_law_468 : decode cL_law 468 = .ok (.iload_n 3, 1) := by decide +kernel
theorem dL_law_469 : decode cL_law 469 = .ok (.iconst 2, 1) := by decide +kernel
theorem dL_law_470 : decode cL_law 470 = .ok (.iadd, 1) := by decide +kernel
theorem dL_law_471 : decode cL_law 471 = .ok (.iaload, 1) := by decide +kernel
theorem dL_law_472 : decode cL_law 472 = .ok (.aload_n 0, 1) := by decide +kernel
theorem dL_law_473 : decode cL_law 473 = .ok (.iload_n 3, 1) := by decide +kernel
theorem dL_law_474 : decode cL_law 474 = .ok (.iconst 3, 1) := by decide +kernel
theorem dL_law_475 : decode cL_law 475 = .ok (.iadd, 1) := by decide +kernel
theorem dL_law_476 : decode cL_law 476 = .ok (.iaload, 1) := by decide +kernel
theorem dL_law_477 : decode cL_law 477 = .ok (.invokevirtual 73, 3) := by decide +kernel
theorem dL_law_480 : decode cL_law 480 = .ok (.aload_n 2, 1) := by decide +kernel
theorem dL_law_481 : decode cL_law 481 = .ok (.aload_n 0, 1) := by decide +kernel
theorem dL_law_482 : decode cL_law 482 = .ok (.iload_n 3, 1) := by decide +kernel
theorem dL_law_483 : decode cL_law 483 = .ok (.iconst 1, 1) := by decide +kernel
theorem dL_law_484 : decode cL_law 484 = .ok (.iadd, 1) := by decide +kernel
theorem dL_law_485 : decode cL_law 485 = .ok (.iaload, 1) := by decide +kernel
theorem dL_law_486 : decode cL_law 486 = .ok (.aload_n 0, 1) := by decide +kernel
theorem dL_law_487 : decode cL_law 487 = .ok (.iload_n 3, 1) := by decide +kernel
theorem dL_law_488 : decode cL_law 488 = .ok (.iconst 2, 1) := by decide +kernel
theorem dL_law_489 : decode cL_law 489 = .ok (.iadd, 1) := by decide +kernel
theorem dL_law_490 : decode cL_law 490 = .ok (.iaload, 1) := by decide +kernel
theorem dL_law_491 : decode cL_law 491 = .ok (.aload_n 0, 1) := by decide +kernel
theorem dL_law_492 : decode cL_law 492 = .ok (.iload_n 3, 1) := by decide +kernel
theorem dL_law_493 : decode cL_law 493 = .ok (.iconst 3, 1) := by decide +kernel
theorem dL_law_494 : decode cL_law 494 = .ok (.iadd, 1) := by decide +kernel
theorem dL_law_495 : decode cL_law 495 = .ok (.iaload, 1) := by decide +kernel
theorem dL_law_496 : decode cL_law 496 = .ok (.invokevirtual 76, 3) := by decide +kernel
theorem dL_law_499 : decode cL_law 499 = .ok (.if_icmp .eq 5, 3) := by decide +kernel
theorem dL_law_502 : decode cL_law 502 = .ok (.iconst 0, 1) := by decide +kernel
theorem dL_law_503 : decode cL_law 503 = .ok (.ireturn, 1) := by decide +kernel
theorem dL_law_504 : decode cL_law 504 = .ok (.iinc 3 5, 3) := by decide +kernel
theorem dL_law_507 : decode cL_law 507 = .ok (.goto (-489), 3) := by decide +kernel
theorem dL_law_510 : decode cL_law 510 = .ok (.iconst 1, 1) := by decide +kernel
theorem dL_law_511 : decode cL_law 511 = .ok (.ireturn, 1) := by decide +kernel
end
section
/-! OWN: contracts of one form (a world before, a world behind), their entry, their calls; rows over numbers n as 'nI n' -/
abbrev xk_T : Type := (Nat → Prop) → State → Heap → Prop
def xk_ok (X : xk_T) : Prop :=
  (∀ (A : Nat → Prop) (u U : State) (H : Heap), u.vm = U.vm ∨ u.WarmedH U.vm → X A u H → X A U H) ∧
  (∀ (A : Nat → Prop) (U : State) (H H1 : Heap), (∀ a : Nat, a < H.size → ¬ A a → H1[a]? = H[a]?) → X A U H → X A U H1) ∧
  (∀ (A B : Nat → Prop) (U : State) (H : Heap), (∀ q, B q → A q) → X A U H → X B U H)
def xk_0 : xk_T := fun _ _ _ => True
theorem xk_0ok : xk_ok xk_0 := ⟨fun _ _ _ _ _ _ => trivial, fun _ _ _ _ _ _ => trivial, fun _ _ _ _ _ _ => trivial⟩
def xk_pre (X : xk_T) (D : va_G) (cl : List vw_C) (tys : List (ClassId × FieldType)) (wc : va_W) (sz : Nat) : State → Prop := fun U => U.heap.size = sz ∧ va_P D cl wc U.heap ∧ va_K D cl tys U ∧ va_D (fun _ => True) wc ∧ X (va_A wc sz) U U.heap
def xk_B (D : va_G) (cl : List vw_C) (A : Nat → Prop) (w1 : va_W) : Unit → State → Prop := fun _ t => va_P D cl w1 t.heap ∧ va_D A w1
abbrev xk_V (l : Launch) (y : MethodName) (ws : List Cond) (rm : Room) (X : xk_T) (D : va_G) (cl : List vw_C) (tys : List (ClassId × FieldType)) (av : List Value) (wc w1 : va_W) (sz : Nat) : Prop :=
  Met l y ws rm (va_Pc av (xk_pre X D cl tys wc sz)) (va_Qv (fun _ : Unit => True) (xk_B D cl (va_A wc sz) w1) (va_A wc sz)) 0 0 (va_A wc sz)
abbrev xk_I (l : Launch) (y : MethodName) (ws : List Cond) (rm : Room) (X : xk_T) (D : va_G) (cl : List vw_C) (tys : List (ClassId × FieldType)) (av : List Value) (wc w1 : va_W) (r : Int32) (sz : Nat) : Prop :=
  Met l y ws rm (va_Pc av (xk_pre X D cl tys wc sz)) (va_Qi (fun (x : Int32) (_ : Unit) => x = r) (xk_B D cl (va_A wc sz) w1) (va_A wc sz)) 0 0 (va_A wc sz)
abbrev xk_L (l : Launch) (y : MethodName) (ws : List Cond) (rm : Room) (X : xk_T) (D : va_G) (cl : List vw_C) (tys : List (ClassId × FieldType)) (av : List Value) (wc w1 : va_W) (r : Int64) (sz : Nat) : Prop :=
  Met l y ws rm (va_Pc av (xk_pre X D cl tys wc sz)) (va_Ql (fun (x : Int64) (_ : Unit) => x = r) (xk_B D cl (va_A wc sz) w1) (va_A wc sz)) 0 0 (va_A wc sz)
abbrev xk_pI (l : Launch) (y : MethodName) (ws : List Cond) (rm : Room) (av : List Value) (r : Int32) : Prop :=
  Met l y ws rm (fun v _ => v = av.toArray) (va_Qi (fun (x : Int32) (_ : Unit) => x = r) (fun _ _ => True) (fun _ => False)) 0 0 (fun _ => False)
abbrev xk_pL (l : Launch) (y : MethodName) (ws : List Cond) (rm : Room) (av : List Value) (r : Int64) : Prop :=
  Met l y ws rm (fun v _ => v = av.toArray) (va_Ql (fun (x : Int64) (_ : Unit) => x = r) (fun _ _ => True) (fun _ => False)) 0 0 (fun _ => False)
theorem xk_blind {X : xk_T} {D : va_G} {cl : List vw_C} {tys : List (ClassId × FieldType)} {wc : va_W} {sz : Nat} {av : List Value} (hX : xk_ok X) : FrameBlind (va_Pc av (xk_pre X D cl tys wc sz)) := by
  intro a U g mk q
  obtain ⟨q0, q1, qP, qK, qD, qX⟩ := q
  exact ⟨q0, q1, qP, va_K.moved (u := U) (U := U.calling g mk a) (Vm.Alike.refl U.vm) qK, qD, hX.1 _ U (U.calling g mk a) _ (Or.inl rfl) qX⟩
theorem xk_at {X : xk_T} {D : va_G} {cl : List vw_C} {tys : List (ClassId × FieldType)} {ws wc : va_W} {av : List Value} {A : Nat → Prop} {s : State} {H : Heap} {locs : List Loc} (hX : xk_ok X) (hx : X A s s.heap) (hP : va_P D cl ws H) (hD : va_D A ws) (hK : va_K D cl tys s) (hS : va_S A s.heap H locs) (hA : ∀ q, s.heap.size ≤ q → A q) (isC : List Nat) (h1 : isC.filterMap (fun i => ws[i]?) = wc) (hn : va_nd isC = true) (h2 : isC.map (fun i => ws[i]?) = wc.map some) :
    ∀ U : State, U.heap = H → s.WarmedH U.vm → va_Pc av (xk_pre X D cl tys wc H.size) av.toArray U := by
  intro U hU hW
  have hF := va_free (wc := wc) hD hS hA isC h2
  refine ⟨rfl, by rw [hU], by rw [hU]; exact hP.sub isC h1, va_K.moved hW.alike hK, (hD.sub isC hn h2).weaken (fun _ _ _ _ => trivial), ?_⟩
  rw [hU]
  exact hX.1 _ _ _ _ (Or.inr hW) (hX.2.2 _ _ _ _ hF (hX.2.1 _ _ _ _ hS.2.1 hx))
section XK
variable {p : Program} {l : Launch} {e : Env} {R : Room} {s : State} {m : MethodId} {args : Array Value} {below : List Frame} {meth : Method} {c : Code} {H : Heap} {locs : List Loc} {cells slots : Nat} {Q : State → Prop}
variable {cc : ByteArray} {pc : Nat} {ls : Array Slot} {rest st0 : List Value} {D : va_G} {cl : List vw_C} {A : Nat → Prop} {a : Nat} {tys : List (ClassId × FieldType)} {ws wc wr w1 w2 : va_W} {H0 : Heap} {av : Array Value}
theorem xk_goV (hr : va_Run p l e R s m args below meth c H locs cells slots 0 0 (F0 m pc ls st0) rest (va_Qv (fun _ : Unit => True) (xk_B D cl (va_A wc H.size) w1) (va_A wc H.size) av) (va_A wc H.size)) (hP : va_P D cl ws H) (hD : va_D A ws) (hS : va_S A s.heap H locs) (hA : ∀ q, s.heap.size ≤ q → A q) (isC isR pm : List Nat) (hC : isC.map (fun i => ws[i]?) = wc.map some) (hR : isR.map (fun i => ws[i]?) = wr.map some) (hn : va_nd isR = true) (hdis : ∀ i ∈ isR, i ∉ isC) (hm1 : pm.filterMap (fun i => (wr ++ w1)[i]?) = w2) (hmn : va_nd pm = true) (hm2 : pm.map (fun i => (wr ++ w1)[i]?) = w2.map some)
    (kk : ∀ (H1 : Heap) (locs1 : List Loc), va_P D cl w2 H1 → va_D A w2 → va_S A s.heap H1 locs1 → W p l e R s m args below meth c H1 locs1 cells slots Q (F0 m (pc + 3) ls rest)) : W p l e R s m args below meth c H locs cells slots Q (F0 m pc ls st0) := by
  have hF := va_free (wc := wc) hD hS hA isC hC
  refine va_callv hr hS (fun q _ h => hF q h) hF (fun u t H1 locs1 ht hvm _ hB hz hk hS1 => ?_)
  obtain ⟨hP1, hD1⟩ := hB
  rw [ht] at hP1
  obtain ⟨hP2, hD2⟩ := va_join hP hD isC isR hC hR hn hdis hk hF hP1 hD1
  exact kk H1 locs1 (hP2.sub pm hm1) (hD2.sub pm hmn hm2) hS1
theorem xk_goI {r : Int32} (hr : va_Run p l e R s m args below meth c H locs cells slots 0 0 (F0 m pc ls st0) rest (va_Qi (fun (x : Int32) (_ : Unit) => x = r) (xk_B D cl (va_A wc H.size) w1) (va_A wc H.size) av) (va_A wc H.size)) (hP : va_P D cl ws H) (hD : va_D A ws) (hS : va_S A s.heap H locs) (hA : ∀ q, s.heap.size ≤ q → A q) (isC isR pm : List Nat) (hC : isC.map (fun i => ws[i]?) = wc.map some) (hR : isR.map (fun i => ws[i]?) = wr.map some) (hn : va_nd isR = true) (hdis : ∀ i ∈ isR, i ∉ isC) (hm1 : pm.filterMap (fun i => (wr ++ w1)[i]?) = w2) (hmn : va_nd pm = true) (hm2 : pm.map (fun i => (wr ++ w1)[i]?) = w2.map some)
    (kk : ∀ (H1 : Heap) (locs1 : List Loc), va_P D cl w2 H1 → va_D A w2 → va_S A s.heap H1 locs1 → W p l e R s m args below meth c H1 locs1 cells slots Q (F0 m (pc + 3) ls (.int r :: rest))) : W p l e R s m args below meth c H locs cells slots Q (F0 m pc ls st0) := by
  have hF := va_free (wc := wc) hD hS hA isC hC
  refine va_calli hr hS (fun q _ h => hF q h) hF (fun x u t H1 locs1 ht hvm hx hB hz hk hS1 => ?_)
  subst hx
  obtain ⟨hP1, hD1⟩ := hB
  rw [ht] at hP1
  obtain ⟨hP2, hD2⟩ := va_join hP hD isC isR hC hR hn hdis hk hF hP1 hD1
  exact kk H1 locs1 (hP2.sub pm hm1) (hD2.sub pm hmn hm2) hS1
theorem xk_goL {r : Int64} (hr : va_Run p l e R s m args below meth c H locs cells slots 0 0 (F0 m pc ls st0) rest (va_Ql (fun (x : Int64) (_ : Unit) => x = r) (xk_B D cl (va_A wc H.size) w1) (va_A wc H.size) av) (va_A wc H.size)) (hP : va_P D cl ws H) (hD : va_D A ws) (hS : va_S A s.heap H locs) (hA : ∀ q, s.heap.size ≤ q → A q) (isC isR pm : List Nat) (hC : isC.map (fun i => ws[i]?) = wc.map some) (hR : isR.map (fun i => ws[i]?) = wr.map some) (hn : va_nd isR = true) (hdis : ∀ i ∈ isR, i ∉ isC) (hm1 : pm.filterMap (fun i => (wr ++ w1)[i]?) = w2) (hmn : va_nd pm = true) (hm2 : pm.map (fun i => (wr ++ w1)[i]?) = w2.map some)
    (kk : ∀ (H1 : Heap) (locs1 : List Loc), va_P D cl w2 H1 → va_D A w2 → va_S A s.heap H1 locs1 → W p l e R s m args below meth c H1 locs1 cells slots Q (F0 m (pc + 3) ls (.long r :: rest))) : W p l e R s m args below meth c H locs cells slots Q (F0 m pc ls st0) := by
  have hF := va_free (wc := wc) hD hS hA isC hC
  refine va_calll hr hS (fun q _ h => hF q h) hF (fun x u t H1 locs1 ht hvm hx hB hz hk hS1 => ?_)
  subst hx
  obtain ⟨hP1, hD1⟩ := hB
  rw [ht] at hP1
  obtain ⟨hP2, hD2⟩ := va_join hP hD isC isR hC hR hn hdis hk hF hP1 hD1
  exact kk H1 locs1 (hP2.sub pm hm1) (hD2.sub pm hmn hm2) hS1
theorem xk_goPI {r : Int32} (hr : va_Run p l e R s m args below meth c H locs cells slots 0 0 (F0 m pc ls st0) rest (va_Qi (fun (x : Int32) (_ : Unit) => x = r) (fun _ _ => True) (fun _ => False) av) (fun _ => False)) (hP : va_P D cl ws H) (hS : va_S A H0 H locs)
    (kk : ∀ (H1 : Heap) (locs1 : List Loc), va_P D cl ws H1 → va_S A H0 H1 locs1 → W p l e R s m args below meth c H1 locs1 cells slots Q (F0 m (pc + 3) ls (.int r :: rest))) : W p l e R s m args below meth c H locs cells slots Q (F0 m pc ls st0) := by
  refine va_calli hr hS (fun _ _ h => h.elim) (fun _ h => h.elim) (fun x u t H1 locs1 ht hvm hx _ hz hk hS1 => ?_)
  subst hx
  exact kk H1 locs1 (hP.kept (fun k q hq => hk q.1 (hP k q hq).lt id)) hS1
theorem xk_goPL {r : Int64} (hr : va_Run p l e R s m args below meth c H locs cells slots 0 0 (F0 m pc ls st0) rest (va_Ql (fun (x : Int64) (_ : Unit) => x = r) (fun _ _ => True) (fun _ => False) av) (fun _ => False)) (hP : va_P D cl ws H) (hS : va_S A H0 H locs)
    (kk : ∀ (H1 : Heap) (locs1 : List Loc), va_P D cl ws H1 → va_S A H0 H1 locs1 → W p l e R s m args below meth c H1 locs1 cells slots Q (F0 m (pc + 3) ls (.long r :: rest))) : W p l e R s m args below meth c H locs cells slots Q (F0 m pc ls st0) := by
  refine va_calll hr hS (fun _ _ h => h.elim) (fun _ h => h.elim) (fun x u t H1 locs1 ht hvm hx _ hz hk hS1 => ?_)
  subst hx
  exact kk H1 locs1 (hP.kept (fun k q hq => hk q.1 (hP k q hq).lt id)) hS1
theorem xk_iald (hexec : p.tables.exec = Jvm.exec) (hb : c.code = cc) (hK : va_K D cl tys s) (hP : va_P D cl ws H) (q0 t0 : Nat) {cA : ClassId} {n : Nat} {f : Nat → Int32} (ha : ws[q0]? = some (a, .inl (cA, n, .inl f))) (ht : tys[t0]? = some (cA, .int)) {i : Int32} (k : Nat) (hi : i = nI k) (hk : k < n) (hn : n < 2 ^ 31) (hdg : decode cc pc = .ok (.iaload, 1))
    (kk : W p l e R s m args below meth c H locs cells slots Q (F0 m (pc + 1) ls (.int (f k) :: rest))) : W p l e R s m args below meth c H locs cells slots Q (F0 m pc ls (.int i :: .ref a :: rest)) := by
  subst hi
  refine va_iald hexec hb hK hP q0 t0 ha ht (vp_in_nI hk hn) hdg ?_
  rw [nI_clamp (Nat.lt_trans hk hn)]
  exact kk
theorem xk_lald (hexec : p.tables.exec = Jvm.exec) (hb : c.code = cc) (hK : va_K D cl tys s) (hP : va_P D cl ws H) (q0 t0 : Nat) {cA : ClassId} {n : Nat} {f : Nat → Int64} (ha : ws[q0]? = some (a, .inl (cA, n, .inr (.inl f)))) (ht : tys[t0]? = some (cA, .long)) {i : Int32} (k : Nat) (hi : i = nI k) (hk : k < n) (hn : n < 2 ^ 31) (hdg : decode cc pc = .ok (.laload, 1))
    (kk : W p l e R s m args below meth c H locs cells slots Q (F0 m (pc + 1) ls (.long (f k) :: rest))) : W p l e R s m args below meth c H locs cells slots Q (F0 m pc ls (.int i :: .ref a :: rest)) := by
  subst hi
  refine va_lald hexec hb hK hP q0 t0 ha ht (vp_in_nI hk hn) hdg ?_
  rw [nI_clamp (Nat.lt_trans hk hn)]
  exact kk
theorem xk_iast (hexec : p.tables.exec = Jvm.exec) (hb : c.code = cc) (hK : va_K D cl tys s) (hP : va_P D cl ws H) (hD : va_D A ws) (hS : va_S A H0 H locs) (q0 t0 : Nat) {cA : ClassId} {n : Nat} {f : Nat → Int32} (ha : ws[q0]? = some (a, .inl (cA, n, .inl f))) (ht : tys[t0]? = some (cA, .int)) {i x : Int32} (k : Nat) (hi : i = nI k) (hk : k < n) (hn : n < 2 ^ 31) (hdg : decode cc pc = .ok (.iastore, 1))
    (kk : ∀ (H1 : Heap) (locs1 : List Loc), va_P D cl (ws.set q0 (a, .inl (cA, n, .inl (upd f k x)))) H1 → va_D A (ws.set q0 (a, .inl (cA, n, .inl (upd f k x)))) → va_S A H0 H1 locs1 → W p l e R s m args below meth c H1 locs1 cells slots Q (F0 m (pc + 1) ls rest)) : W p l e R s m args below meth c H locs cells slots Q (F0 m pc ls (.int x :: .int i :: .ref a :: rest)) := by
  subst hi
  refine va_iast hexec hb hK hP hD hS q0 t0 ha ht (vp_in_nI hk hn) hdg ?_
  rw [nI_clamp (Nat.lt_trans hk hn)]
  exact kk
theorem xk_last (hexec : p.tables.exec = Jvm.exec) (hb : c.code = cc) (hK : va_K D cl tys s) (hP : va_P D cl ws H) (hD : va_D A ws) (hS : va_S A H0 H locs) (q0 t0 : Nat) {cA : ClassId} {n : Nat} {f : Nat → Int64} (ha : ws[q0]? = some (a, .inl (cA, n, .inr (.inl f)))) (ht : tys[t0]? = some (cA, .long)) {i : Int32} {x : Int64} (k : Nat) (hi : i = nI k) (hk : k < n) (hn : n < 2 ^ 31) (hdg : decode cc pc = .ok (.lastore, 1))
    (kk : ∀ (H1 : Heap) (locs1 : List Loc), va_P D cl (ws.set q0 (a, .inl (cA, n, .inr (.inl (vp_updL f k x))))) H1 → va_D A (ws.set q0 (a, .inl (cA, n, .inr (.inl (vp_updL f k x))))) → va_S A H0 H1 locs1 → W p l e R s m args below meth c H1 locs1 cells slots Q (F0 m (pc + 1) ls rest)) : W p l e R s m args below meth c H locs cells slots Q (F0 m pc ls (.long x :: .int i :: .ref a :: rest)) := by
  subst hi
  refine va_last hexec hb hK hP hD hS q0 t0 ha ht (vp_in_nI hk hn) hdg ?_
  rw [nI_clamp (Nat.lt_trans hk hn)]
  exact kk
theorem xk_iaddN (hexec : p.tables.exec = Jvm.exec) (hb : c.code = cc) {x y : Int32} (a b k : Nat) (hx : x = nI a) (hy : y = nI b) (hk : a + b = k) (hdg : decode cc pc = .ok (.iadd, 1))
    (kk : W p l e R s m args below meth c H locs cells slots Q (F0 m (pc + 1) ls (.int (nI k) :: rest))) : W p l e R s m args below meth c H locs cells slots Q (F0 m pc ls (.int y :: .int x :: rest)) := by
  subst hx; subst hy; subst hk
  refine lv_iadd hexec hb hdg ?_
  rw [nI_add]
  exact kk
theorem xk_isubN (hexec : p.tables.exec = Jvm.exec) (hb : c.code = cc) {x y : Int32} (a b k : Nat) (hx : x = nI a) (hy : y = nI b) (hk : k + b = a) (hdg : decode cc pc = .ok (.isub, 1))
    (kk : W p l e R s m args below meth c H locs cells slots Q (F0 m (pc + 1) ls (.int (nI k) :: rest))) : W p l e R s m args below meth c H locs cells slots Q (F0 m pc ls (.int y :: .int x :: rest)) := by
  subst hx; subst hy; subst hk
  refine lv_isub hexec hb hdg ?_
  rw [pk_sub (Nat.le_add_left _ _), Nat.add_sub_cancel]
  exact kk
theorem xk_imulN (hexec : p.tables.exec = Jvm.exec) (hb : c.code = cc) {x y : Int32} (a b k : Nat) (hx : x = nI a) (hy : y = nI b) (hk : a * b = k) (hdg : decode cc pc = .ok (.imul, 1))
    (kk : W p l e R s m args below meth c H locs cells slots Q (F0 m (pc + 1) ls (.int (nI k) :: rest))) : W p l e R s m args below meth c H locs cells slots Q (F0 m pc ls (.int y :: .int x :: rest)) := by
  subst hx; subst hy; subst hk
  refine lv_imul hexec hb hdg ?_
  rw [pk_mul]
  exact kk
theorem xk_idivN (hexec : p.tables.exec = Jvm.exec) (hb : c.code = cc) {x y : Int32} (a b k : Nat) (hx : x = nI a) (hy : y = nI b) (ha : a < 2 ^ 31) (h0 : 0 < b) (hbb : b < 2 ^ 31) (hk : a / b = k) (hdg : decode cc pc = .ok (.idiv, 1))
    (kk : W p l e R s m args below meth c H locs cells slots Q (F0 m (pc + 1) ls (.int (nI k) :: rest))) : W p l e R s m args below meth c H locs cells slots Q (F0 m pc ls (.int y :: .int x :: rest)) := by
  subst hx; subst hy; subst hk
  refine lv_idiv hexec hb hdg (nI_ne0 h0 hbb) ?_
  rw [pk_div ha h0 hbb]
  exact kk
theorem xk_iremN (hexec : p.tables.exec = Jvm.exec) (hb : c.code = cc) {x y : Int32} (a b k : Nat) (hx : x = nI a) (hy : y = nI b) (ha : a < 2 ^ 31) (h0 : 0 < b) (hbb : b < 2 ^ 31) (hk : a % b = k) (hdg : decode cc pc = .ok (.irem, 1))
    (kk : W p l e R s m args below meth c H locs cells slots Q (F0 m (pc + 1) ls (.int (nI k) :: rest))) : W p l e R s m args below meth c H locs cells slots Q (F0 m pc ls (.int y :: .int x :: rest)) := by
  subst hx; subst hy; subst hk
  refine lv_irem hexec hb hdg (nI_ne0 h0 hbb) ?_
  rw [pk_rem ha h0 hbb]
  exact kk
/-- the int on top has another name -/
theorem xk_as {x : Int32} (y : Int32) (h : x = y) (kk : W p l e R s m args below meth c H locs cells slots Q (F0 m pc ls (.int y :: rest))) : W p l e R s m args below meth c H locs cells slots Q (F0 m pc ls (.int x :: rest)) := by
  subst h; exact kk
theorem xk_asl {x : Int64} (y : Int64) (h : x = y) (kk : W p l e R s m args below meth c H locs cells slots Q (F0 m pc ls (.long y :: rest))) : W p l e R s m args below meth c H locs cells slots Q (F0 m pc ls (.long x :: rest)) := by
  subst h; exact kk
end XK
/-- the entry of a method without an answer -/
theorem xk_entV {l : Launch} {y : MethodName} {ws ws' : List Cond} {rm : Room} {X : xk_T} {D : va_G} {cl : List vw_C} {tys : List (ClassId × FieldType)} {av : List Value} {wc w1 : va_W} {sz : Nat} {cc : ByteArray} {maxL : Nat} (hy : plainName y.cls = true) (hw : ws = Cond.code y cc maxL none :: ws') (hlen : (lg_sl av).length ≤ maxL)
    (body : ∀ (p : Program) (e : Env) (s : State) (m : MethodId) (args : Array Value) (below : List Frame) (meth : Method) (c : Code) (Q : State → Prop) (A : Nat → Prop) (ls : Array Slot), p.tables.exec = Jvm.exec → c.code = cc → c.maxLocals = maxL → (∀ w ∈ ws, w.before args s = true) → s.vm.findClass y.cls = some m.cls → (∀ q, s.heap.size ≤ q → A q) → va_K D cl tys s → va_P D cl wc s.heap → va_D A wc → va_S A s.heap s.heap [] → X A s s.heap →
      (∀ (H : Heap) (locs : List Loc) (pc : Nat) (ls : Array Slot), va_P D cl w1 H → va_D A w1 → va_S A s.heap H locs → decode cc pc = .ok (.return_, 1) → W p l e rm s m args below meth c H locs 0 0 Q (F0 m pc ls [])) → lv_has ls maxL (lv_args 0 av) → W p l e rm s m args below meth c s.heap [] 0 0 Q (F0 m 0 ls [])) : xk_V l y ws rm X D cl tys av wc w1 sz := by
  refine Met.ofW (cc := cc) (maxL := maxL) (ret := none) hy hw ?_
  intro p e s m args below meth c s₁ B hml hv
  obtain ⟨rfl, hsz, hP, hK, hD0, hX⟩ := hv
  have hx := B.exec
  have hb := B.bytes
  have hr := B.returns
  have hts := atoms_spec (ws := ws) B.pre
  have hown := findClass_of_methodNamed B.named
  have hlocks := B.notSynchronized
  subst hsz
  have hD := hD0.self (sz := s.heap.size)
  have hA : ∀ q : Nat, s.heap.size ≤ q → va_A wc s.heap.size q := fun q h => Or.inr h
  have hl := lv_entry av (n := maxL) hlen
  rw [lg_entry_eq]
  refine body p e s m _ below meth c _ (va_A wc s.heap.size) _ hx hb hml hts hown hA hK hP hD va_S.rf hX (fun H locs pc ls hP1 hD1 hS1 hdg => ?_) hl
  exact W.vret hx hb hr (fun t ht hW => ⟨⟨(), rfl, trivial, by rw [ht]; exact hP1, hD1⟩, hS1.F ht⟩) hS1.2.2 hdg
theorem xk_entI {l : Launch} {y : MethodName} {ws ws' : List Cond} {rm : Room} {X : xk_T} {D : va_G} {cl : List vw_C} {tys : List (ClassId × FieldType)} {av : List Value} {wc w1 : va_W} {r : Int32} {sz : Nat} {cc : ByteArray} {maxL : Nat} (hy : plainName y.cls = true) (hw : ws = Cond.code y cc maxL (some .int) :: ws') (hlen : (lg_sl av).length ≤ maxL)
    (body : ∀ (p : Program) (e : Env) (s : State) (m : MethodId) (args : Array Value) (below : List Frame) (meth : Method) (c : Code) (Q : State → Prop) (A : Nat → Prop) (ls : Array Slot), p.tables.exec = Jvm.exec → c.code = cc → c.maxLocals = maxL → (∀ w ∈ ws, w.before args s = true) → s.vm.findClass y.cls = some m.cls → (∀ q, s.heap.size ≤ q → A q) → va_K D cl tys s → va_P D cl wc s.heap → va_D A wc → va_S A s.heap s.heap [] → X A s s.heap →
      (∀ (H : Heap) (locs : List Loc) (pc : Nat) (ls : Array Slot) (x : Int32), x = r → va_P D cl w1 H → va_D A w1 → va_S A s.heap H locs → decode cc pc = .ok (.ireturn, 1) → W p l e rm s m args below meth c H locs 0 0 Q (F0 m pc ls [.int x])) → lv_has ls maxL (lv_args 0 av) → W p l e rm s m args below meth c s.heap [] 0 0 Q (F0 m 0 ls [])) : xk_I l y ws rm X D cl tys av wc w1 r sz := by
  refine Met.ofW (cc := cc) (maxL := maxL) (ret := some .int) hy hw ?_
  intro p e s m args below meth c s₁ B hml hv
  obtain ⟨rfl, hsz, hP, hK, hD0, hX⟩ := hv
  have hx := B.exec
  have hb := B.bytes
  have hr := B.returns
  have hts := atoms_spec (ws := ws) B.pre
  have hown := findClass_of_methodNamed B.named
  have hlocks := B.notSynchronized
  subst hsz
  have hD := hD0.self (sz := s.heap.size)
  have hA : ∀ q : Nat, s.heap.size ≤ q → va_A wc s.heap.size q := fun q h => Or.inr h
  have hl := lv_entry av (n := maxL) hlen
  rw [lg_entry_eq]
  refine body p e s m _ below meth c _ (va_A wc s.heap.size) _ hx hb hml hts hown hA hK hP hD va_S.rf hX (fun H locs pc ls x hxr hP1 hD1 hS1 hdg => ?_) hl
  exact W.iret hx hb hr (fun t ht hW => ⟨⟨x, (), rfl, hxr, by rw [ht]; exact hP1, hD1⟩, hS1.F ht⟩) hS1.2.2 hdg
/-- the entry of a method that answers true or false -/
theorem xk_entZ {l : Launch} {y : MethodName} {ws ws' : List Cond} {rm : Room} {X : xk_T} {D : va_G} {cl : List vw_C} {tys : List (ClassId × FieldType)} {av : List Value} {wc w1 : va_W} {r : Int32} {sz : Nat} {cc : ByteArray} {maxL : Nat} (hy : plainName y.cls = true) (hw : ws = Cond.code y cc maxL (some .boolean) :: ws') (hlen : (lg_sl av).length ≤ maxL) (hnr : r = 0 ∨ r = 1)
    (body : ∀ (p : Program) (e : Env) (s : State) (m : MethodId) (args : Array Value) (below : List Frame) (meth : Method) (c : Code) (Q : State → Prop) (A : Nat → Prop) (ls : Array Slot), p.tables.exec = Jvm.exec → c.code = cc → c.maxLocals = maxL → (∀ w ∈ ws, w.before args s = true) → s.vm.findClass y.cls = some m.cls → (∀ q, s.heap.size ≤ q → A q) → va_K D cl tys s → va_P D cl wc s.heap → va_D A wc → va_S A s.heap s.heap [] → X A s s.heap →
      (∀ (H : Heap) (locs : List Loc) (pc : Nat) (ls : Array Slot) (x : Int32), x = r → va_P D cl w1 H → va_D A w1 → va_S A s.heap H locs → decode cc pc = .ok (.ireturn, 1) → W p l e rm s m args below meth c H locs 0 0 Q (F0 m pc ls [.int x])) → lv_has ls maxL (lv_args 0 av) → W p l e rm s m args below meth c s.heap [] 0 0 Q (F0 m 0 ls [])) : xk_I l y ws rm X D cl tys av wc w1 r sz := by
  refine Met.ofW (cc := cc) (maxL := maxL) (ret := some .boolean) hy hw ?_
  intro p e s m args below meth c s₁ B hml hv
  obtain ⟨rfl, hsz, hP, hK, hD0, hX⟩ := hv
  have hx := B.exec
  have hb := B.bytes
  have hr := B.returns
  have hts := atoms_spec (ws := ws) B.pre
  have hown := findClass_of_methodNamed B.named
  have hlocks := B.notSynchronized
  subst hsz
  have hD := hD0.self (sz := s.heap.size)
  have hA : ∀ q : Nat, s.heap.size ≤ q → va_A wc s.heap.size q := fun q h => Or.inr h
  have hl := lv_entry av (n := maxL) hlen
  rw [lg_entry_eq]
  refine body p e s m _ below meth c _ (va_A wc s.heap.size) _ hx hb hml hts hown hA hK hP hD va_S.rf hX (fun H locs pc ls x hxr hP1 hD1 hS1 hdg => ?_) hl
  have hnx : narrow .boolean (.int x) = .int x := by rw [hxr]; rcases hnr with h | h <;> rw [h] <;> rfl
  exact W.zret hx hb hr hnx (fun t ht hW => ⟨⟨x, (), rfl, hxr, by rw [ht]; exact hP1, hD1⟩, hS1.F ht⟩) hS1.2.2 hdg
theorem xk_entL {l : Launch} {y : MethodName} {ws ws' : List Cond} {rm : Room} {X : xk_T} {D : va_G} {cl : List vw_C} {tys : List (ClassId × FieldType)} {av : List Value} {wc w1 : va_W} {r : Int64} {sz : Nat} {cc : ByteArray} {maxL : Nat} (hy : plainName y.cls = true) (hw : ws = Cond.code y cc maxL (some .long) :: ws') (hlen : (lg_sl av).length ≤ maxL)
    (body : ∀ (p : Program) (e : Env) (s : State) (m : MethodId) (args : Array Value) (below : List Frame) (meth : Method) (c : Code) (Q : State → Prop) (A : Nat → Prop) (ls : Array Slot), p.tables.exec = Jvm.exec → c.code = cc → c.maxLocals = maxL → (∀ w ∈ ws, w.before args s = true) → s.vm.findClass y.cls = some m.cls → (∀ q, s.heap.size ≤ q → A q) → va_K D cl tys s → va_P D cl wc s.heap → va_D A wc → va_S A s.heap s.heap [] → X A s s.heap →
      (∀ (H : Heap) (locs : List Loc) (pc : Nat) (ls : Array Slot) (x : Int64), x = r → va_P D cl w1 H → va_D A w1 → va_S A s.heap H locs → decode cc pc = .ok (.lreturn, 1) → W p l e rm s m args below meth c H locs 0 0 Q (F0 m pc ls [.long x])) → lv_has ls maxL (lv_args 0 av) → W p l e rm s m args below meth c s.heap [] 0 0 Q (F0 m 0 ls [])) : xk_L l y ws rm X D cl tys av wc w1 r sz := by
  refine Met.ofW (cc := cc) (maxL := maxL) (ret := some .long) hy hw ?_
  intro p e s m args below meth c s₁ B hml hv
  obtain ⟨rfl, hsz, hP, hK, hD0, hX⟩ := hv
  have hx := B.exec
  have hb := B.bytes
  have hr := B.returns
  have hts := atoms_spec (ws := ws) B.pre
  have hown := findClass_of_methodNamed B.named
  have hlocks := B.notSynchronized
  subst hsz
  have hD := hD0.self (sz := s.heap.size)
  have hA : ∀ q : Nat, s.heap.size ≤ q → va_A wc s.heap.size q := fun q h => Or.inr h
  have hl := lv_entry av (n := maxL) hlen
  rw [lg_entry_eq]
  refine body p e s m _ below meth c _ (va_A wc s.heap.size) _ hx hb hml hts hown hA hK hP hD va_S.rf hX (fun H locs pc ls x hxr hP1 hD1 hS1 hdg => ?_) hl
  exact W.lret hx hb hr (fun t ht hW => ⟨⟨x, (), rfl, hxr, by rw [ht]; exact hP1, hD1⟩, hS1.F ht⟩) hS1.2.2 hdg
/-- the entries of static methods that touch no cell -/
theorem xk_entPI {l : Launch} {y : MethodName} {ws ws' : List Cond} {rm : Room} {av : List Value} {r : Int32} {cc : ByteArray} {maxL : Nat} {D : va_G} {cl : List vw_C} (hy : plainName y.cls = true) (hw : ws = Cond.code y cc maxL (some .int) :: ws') (hlen : (lg_sl av).length ≤ maxL)
    (body : ∀ (p : Program) (e : Env) (s : State) (m : MethodId) (args : Array Value) (below : List Frame) (meth : Method) (c : Code) (Q : State → Prop) (A : Nat → Prop) (ls : Array Slot), p.tables.exec = Jvm.exec → c.code = cc → c.maxLocals = maxL → (∀ w ∈ ws, w.before args s = true) → s.vm.findClass y.cls = some m.cls → va_P D cl [] s.heap → va_S A s.heap s.heap [] →
      (∀ (H : Heap) (locs : List Loc) (pc : Nat) (ls : Array Slot) (x : Int32), x = r → va_S A s.heap H locs → decode cc pc = .ok (.ireturn, 1) → W p l e rm s m args below meth c H locs 0 0 Q (F0 m pc ls [.int x])) → lv_has ls maxL (lv_args 0 av) → W p l e rm s m args below meth c s.heap [] 0 0 Q (F0 m 0 ls [])) : xk_pI l y ws rm av r := by
  refine Met.ofW (cc := cc) (maxL := maxL) (ret := some .int) hy hw ?_
  intro p e s m args below meth c s₁ B hml hv
  obtain rfl := hv
  have hx := B.exec
  have hb := B.bytes
  have hr := B.returns
  have hts := atoms_spec (ws := ws) B.pre
  have hown := findClass_of_methodNamed B.named
  have hlocks := B.notSynchronized
  have hl := lv_entry av (n := maxL) hlen
  rw [lg_entry_eq]
  refine body p e s m _ below meth c _ (fun _ => False) _ hx hb hml hts hown (fun k q h => by simp at h) va_S.rf (fun H locs pc ls x hxr hS1 hdg => ?_) hl
  exact W.iret hx hb hr (fun t ht hW => ⟨⟨x, (), rfl, hxr, trivial⟩, hS1.F ht⟩) hS1.2.2 hdg
theorem xk_entPZ {l : Launch} {y : MethodName} {ws ws' : List Cond} {rm : Room} {av : List Value} {r : Int32} {cc : ByteArray} {maxL : Nat} {D : va_G} {cl : List vw_C} (hy : plainName y.cls = true) (hw : ws = Cond.code y cc maxL (some .boolean) :: ws') (hlen : (lg_sl av).length ≤ maxL) (hnr : r = 0 ∨ r = 1)
    (body : ∀ (p : Program) (e : Env) (s : State) (m : MethodId) (args : Array Value) (below : List Frame) (meth : Method) (c : Code) (Q : State → Prop) (A : Nat → Prop) (ls : Array Slot), p.tables.exec = Jvm.exec → c.code = cc → c.maxLocals = maxL → (∀ w ∈ ws, w.before args s = true) → s.vm.findClass y.cls = some m.cls → va_P D cl [] s.heap → va_S A s.heap s.heap [] →
      (∀ (H : Heap) (locs : List Loc) (pc : Nat) (ls : Array Slot) (x : Int32), x = r → va_S A s.heap H locs → decode cc pc = .ok (.ireturn, 1) → W p l e rm s m args below meth c H locs 0 0 Q (F0 m pc ls [.int x])) → lv_has ls maxL (lv_args 0 av) → W p l e rm s m args below meth c s.heap [] 0 0 Q (F0 m 0 ls [])) : xk_pI l y ws rm av r := by
  refine Met.ofW (cc := cc) (maxL := maxL) (ret := some .boolean) hy hw ?_
  intro p e s m args below meth c s₁ B hml hv
  obtain rfl := hv
  have hx := B.exec
  have hb := B.bytes
  have hr := B.returns
  have hts := atoms_spec (ws := ws) B.pre
  have hown := findClass_of_methodNamed B.named
  have hlocks := B.notSynchronized
  have hl := lv_entry av (n := maxL) hlen
  rw [lg_entry_eq]
  refine body p e s m _ below meth c _ (fun _ => False) _ hx hb hml hts hown (fun k q h => by simp at h) va_S.rf (fun H locs pc ls x hxr hS1 hdg => ?_) hl
  have hnx : narrow .boolean (.int x) = .int x := by rw [hxr]; rcases hnr with h | h <;> rw [h] <;> rfl
  exact W.zret hx hb hr hnx (fun t ht hW => ⟨⟨x, (), rfl, hxr, trivial⟩, hS1.F ht⟩) hS1.2.2 hdg
theorem xk_entPL {l : Launch} {y : MethodName} {ws ws' : List Cond} {rm : Room} {av : List Value} {r : Int64} {cc : ByteArray} {maxL : Nat} {D : va_G} {cl : List vw_C} (hy : plainName y.cls = true) (hw : ws = Cond.code y cc maxL (some .long) :: ws') (hlen : (lg_sl av).length ≤ maxL)
    (body : ∀ (p : Program) (e : Env) (s : State) (m : MethodId) (args : Array Value) (below : List Frame) (meth : Method) (c : Code) (Q : State → Prop) (A : Nat → Prop) (ls : Array Slot), p.tables.exec = Jvm.exec → c.code = cc → c.maxLocals = maxL → (∀ w ∈ ws, w.before args s = true) → s.vm.findClass y.cls = some m.cls → va_P D cl [] s.heap → va_S A s.heap s.heap [] →
      (∀ (H : Heap) (locs : List Loc) (pc : Nat) (ls : Array Slot) (x : Int64), x = r → va_S A s.heap H locs → decode cc pc = .ok (.lreturn, 1) → W p l e rm s m args below meth c H locs 0 0 Q (F0 m pc ls [.long x])) → lv_has ls maxL (lv_args 0 av) → W p l e rm s m args below meth c s.heap [] 0 0 Q (F0 m 0 ls [])) : xk_pL l y ws rm av r := by
  refine Met.ofW (cc := cc) (maxL := maxL) (ret := some .long) hy hw ?_
  intro p e s m args below meth c s₁ B hml hv
  obtain rfl := hv
  have hx := B.exec
  have hb := B.bytes
  have hr := B.returns
  have hts := atoms_spec (ws := ws) B.pre
  have hown := findClass_of_methodNamed B.named
  have hlocks := B.notSynchronized
  have hl := lv_entry av (n := maxL) hlen
  rw [lg_entry_eq]
  refine body p e s m _ below meth c _ (fun _ => False) _ hx hb hml hts hown (fun k q h => by simp at h) va_S.rf (fun H locs pc ls x hxr hS1 hdg => ?_) hl
  exact W.lret hx hb hr (fun t ht hW => ⟨⟨x, (), rfl, hxr, trivial⟩, hS1.F ht⟩) hS1.2.2 hdg
end
section
/-! MIRRORS of the class: what its methods do to rows, word for word -/
def xj_u (x y : Int32) : Int32 := (x.toUInt32 >>> (y.toUInt32 &&& Int32.toUInt32 31)).toInt32
def xm_l (x : Int64) (y : Int32) : Int64 := x <<< (y.toInt64 &&& 63)
def xm_r (x : Int64) (y : Int32) : Int64 := x >>> (y.toInt64 &&& 63)
def xm_u (x : Int64) (y : Int32) : Int64 := (x.toUInt64 >>> (y.toInt64.toUInt64 &&& Int64.toUInt64 63)).toInt64
def jc_carry (a b : Int32) : Int32 := xj_u ((a &&& b) ||| ((a ||| b) &&& ((a + b) ^^^ (-1)))) 31
def jc_moved (u w n : Int32) : Int32 := (xj_u w n) ||| ((u <<< ((1 : Int32) &&& 31)) <<< ((31 - n) &&& 31))
def jc_turned (u w n : Int32) : Int32 := if (n &&& 32) = 0 then jc_moved w u (n &&& 31) else jc_moved u w (n &&& 31)
def jc_words (k : Int32) : Int32 := if k = 1 then 16 else if k = 2 then 12 else if k = 3 then 2 else 0
def jc_addTo (f : Nat → Int32) (k : Nat) (u w : Int32) : Nat → Int32 := upd (upd f k (f k + (u + jc_carry (f (k + 1)) w))) (k + 1) ((upd f k (f k + (u + jc_carry (f (k + 1)) w))) (k + 1) + w)
def jc_SA (u w : Int32) : Int32 := (jc_turned u w 28 ^^^ jc_turned u w 34) ^^^ jc_turned u w 39
def jc_SE (u w : Int32) : Int32 := (jc_turned u w 14 ^^^ jc_turned u w 18) ^^^ jc_turned u w 41
def jc_ch (f : Nat → Int32) (k : Nat) : Int32 := (f (8 + k) &&& f (10 + k)) ^^^ ((f (8 + k) ^^^ (-1)) &&& f (12 + k))
def jc_mj (f : Nat → Int32) (k : Nat) : Int32 := ((f (0 + k) &&& f (2 + k)) ^^^ (f (0 + k) &&& f (4 + k))) ^^^ (f (2 + k) &&& f (4 + k))
def jc_ext1 (f : Nat → Int32) (k : Nat) : Nat → Int32 := upd (upd f k (f (k - 32))) (k + 1) ((upd f k (f (k - 32))) (k - 31))
def jc_ext2 (g : Nat → Int32) (k : Nat) (u w : Int32) : Nat → Int32 := jc_addTo g k ((jc_turned u w 1 ^^^ jc_turned u w 8) ^^^ xj_u u 7) ((jc_turned w u 1 ^^^ jc_turned w u 8) ^^^ jc_moved u w 7)
def jc_ext3 (g : Nat → Int32) (k : Nat) : Nat → Int32 := jc_addTo g k (g (k - 14)) (g (k - 13))
def jc_ext4 (g : Nat → Int32) (k : Nat) (u w : Int32) : Nat → Int32 := jc_addTo g k ((jc_turned u w 19 ^^^ jc_turned u w 61) ^^^ xj_u u 6) ((jc_turned w u 19 ^^^ jc_turned w u 61) ^^^ jc_moved u w 6)
def jc_extend (f : Nat → Int32) (k : Nat) : Nat → Int32 := jc_ext4 (jc_ext3 (jc_ext2 (jc_ext1 f k) k (f (k - 30)) (f (k - 29))) k) k (f (k - 4)) (f (k - 3))
def jc_r1 (f : Nat → Int32) : Nat → Int32 := jc_addTo f 14 (jc_SE (f 8) (f 9)) (jc_SE (f 9) (f 8))
def jc_r2 (f : Nat → Int32) : Nat → Int32 := jc_addTo f 14 (jc_ch f 0) (jc_ch f 1)
def jc_r3 (f g : Nat → Int32) (k : Nat) : Nat → Int32 := jc_addTo f 14 (g k) (g (k + 1))
def jc_r4 (f : Nat → Int32) : Nat → Int32 := upd (upd (jc_addTo (va_cpy f f 0 2 14) 8 (f 14) (f 15)) 0 (f 14)) 1 (f 15)
def jc_r5 (f : Nat → Int32) : Nat → Int32 := jc_addTo f 0 (jc_SA (f 2) (f 3)) (jc_SA (f 3) (f 2))
def jc_r6 (f g : Nat → Int32) : Nat → Int32 := jc_addTo (jc_r5 (jc_r4 f)) 0 (jc_mj g 0) (jc_mj g 1)
def jc_rx (cr f g : Nat → Int32) (k : Nat) : Nat → Int32 := jc_r3 (jc_r3 (jc_r2 (jc_r1 f)) cr k) g k
def jc_round (cr f g : Nat → Int32) (k : Nat) : Nat → Int32 := jc_r6 (jc_rx cr f g k) (jc_rx cr f g k)
def jc_exts (f : Nat → Int32) : Nat → (Nat → Int32)
  | 0 => f
  | n + 1 => jc_extend (jc_exts f n) (32 + 2 * n)
def jc_rounds (cr f g : Nat → Int32) : Nat → (Nat → Int32)
  | 0 => f
  | n + 1 => jc_round cr (jc_rounds cr f g n) g (2 * n)
def jc_adds (f g : Nat → Int32) : Nat → (Nat → Int32)
  | 0 => f
  | n + 1 => jc_addTo (jc_adds f g n) (2 * n) (g (2 * n)) (g (2 * n + 1))
def jc_mbS (sch : Nat → Int32) : Nat → Int32 := jc_exts sch 64
def jc_mbL (cr tot lt sch : Nat → Int32) : Nat → Int32 := jc_rounds cr (va_cpy tot lt 0 0 16) (jc_mbS sch) 80
def jc_mbT (cr tot lt sch : Nat → Int32) : Nat → Int32 := jc_adds tot (jc_mbL cr tot lt sch) 8
abbrev xs_S : Type := (Nat → Int32) × (Nat → Int32) × (Nat → Int32) × Nat
def jc_put (f : Nat → Int32) (k : Nat) (b : Int32) : Nat → Int32 := upd f (k / 4) ((f (k / 4) <<< ((8 : Int32) &&& 31)) ||| b)
def jc_mix (cr : Nat → Int32) (S : xs_S) : xs_S := (jc_mbT cr S.1 S.2.1 S.2.2.1, jc_mbL cr S.1 S.2.1 S.2.2.1, jc_mbS S.2.2.1, S.2.2.2)
def jc_take (cr : Nat → Int32) (S : xs_S) (b : Int32) : xs_S :=
  if S.2.2.2 + 1 = 128 then (jc_mbT cr S.1 S.2.1 (jc_put S.2.2.1 S.2.2.2 b), jc_mbL cr S.1 S.2.1 (jc_put S.2.2.1 S.2.2.2 b), jc_mbS (jc_put S.2.2.1 S.2.2.2 b), 0)
  else (S.1, S.2.1, jc_put S.2.2.1 S.2.2.2 b, S.2.2.2 + 1)
def jc_pads (cr : Nat → Int32) (S : xs_S) : Nat → xs_S
  | 0 => S
  | n + 1 => jc_take cr (jc_pads cr S n) 0
def jc_z (n : Int32) : Nat := (111 - n).toBitVec.toNat % 2 ^ 7
def jc_len (f : Nat → Int32) (n : Int32) : Nat → Int32 := upd (upd (upd (upd f 28 0) 29 0) 30 (xj_u n 29)) 31 (n <<< ((3 : Int32) &&& 31))
def jc_endS (cr : Nat → Int32) (S : xs_S) (n : Int32) : xs_S := jc_pads cr (jc_take cr S 128) (jc_z n)
def jc_end (cr : Nat → Int32) (S : xs_S) (n : Int32) : xs_S :=
  (jc_mbT cr (jc_endS cr S n).1 (jc_endS cr S n).2.1 (jc_len (jc_endS cr S n).2.2.1 n), jc_mbL cr (jc_endS cr S n).1 (jc_endS cr S n).2.1 (jc_len (jc_endS cr S n).2.2.1 n), jc_mbS (jc_len (jc_endS cr S n).2.2.1 n), (jc_endS cr S n).2.2.2)
-- SipHash
def jc_left (v : Nat → Int32) (k : Nat) (n : Int32) : Nat → Int32 := upd (upd v k (jc_turned (v k) (v (k + 1)) (-n))) (k + 1) (jc_turned (v (k + 1)) (v k) (-n))
def jc_pair1 (v : Nat → Int32) (i j : Nat) (n : Int32) : Nat → Int32 := jc_left (jc_addTo v i (v j) (v (j + 1))) j n
def jc_xor2 (v : Nat → Int32) (j i : Nat) : Nat → Int32 := upd (upd v j (v j ^^^ v i)) (j + 1) ((upd v j (v j ^^^ v i)) (j + 1) ^^^ (upd v j (v j ^^^ v i)) (i + 1))
def jc_pair (v : Nat → Int32) (i j : Nat) (n : Int32) : Nat → Int32 := jc_xor2 (jc_pair1 v i j n) j i
def jc_sround (v : Nat → Int32) : Nat → Int32 := jc_left (jc_pair (jc_pair (jc_pair (jc_left (jc_pair v 0 2 13) 0 32) 4 6 16) 0 6 21) 4 2 17) 4 32
def jc_srounds (v : Nat → Int32) : Nat → (Nat → Int32)
  | 0 => v
  | n + 1 => jc_sround (jc_srounds v n)
def jc_gx (v : Nat → Int32) (i : Nat) (u w : Int32) : Nat → Int32 := upd (upd v i (v i ^^^ u)) (i + 1) ((upd v i (v i ^^^ u)) (i + 1) ^^^ w)
def jc_group (v : Nat → Int32) (u w : Int32) : Nat → Int32 := jc_gx (jc_sround (jc_sround (jc_gx v 6 u w))) 0 u w
abbrev xp_S : Type := (Nat → Int32) × Int32 × Int32 × Nat
def jc_gl (u w : Int32) : Int32 := jc_moved u w 8
def jc_gh (u b : Int32) : Int32 := (xj_u u 8) ||| (b <<< ((24 : Int32) &&& 31))
def jc_ptake (S : xp_S) (b : Int32) : xp_S :=
  if S.2.2.2 + 1 = 8 then (jc_group S.1 (jc_gh S.2.1 b) (jc_gl S.2.1 S.2.2.1), jc_gh S.2.1 b, jc_gl S.2.1 S.2.2.1, 0)
  else (S.1, jc_gh S.2.1 b, jc_gl S.2.1 S.2.2.1, S.2.2.2 + 1)
def jc_ppads (S : xp_S) : Nat → xp_S
  | 0 => S
  | n + 1 => jc_ptake (jc_ppads S n) 0
def jc_pz (n : Int32) : Nat := (7 - n).toBitVec.toNat % 2 ^ 3
def jc_pendS (S : xp_S) (n : Int32) : xp_S := jc_ptake (jc_ppads S (jc_pz n)) (n &&& 255)
def jc_pend (S : xp_S) (n : Int32) : xp_S := (jc_srounds (upd (jc_pendS S n).1 5 ((jc_pendS S n).1 5 ^^^ 255)) 4, (jc_pendS S n).2.1, (jc_pendS S n).2.2.1, (jc_pendS S n).2.2.2)
def jc_first (fr key v : Nat → Int32) : Nat → (Nat → Int32)
  | 0 => v
  | n + 1 => upd (upd (jc_first fr key v n) (2 * n) (fr (2 * n) ^^^ key (2 * n % 4 + 1))) (2 * n + 1) (fr (2 * n + 1) ^^^ key (2 * n % 4))
def jc_pword (v : Nat → Int32) (i : Nat) : Int32 := ((v (0 + i) ^^^ v (2 + i)) ^^^ v (4 + i)) ^^^ v (6 + i)
theorem xk_i1 {a b : Nat} (h : a + 1 = b) : nI a + Int32.ofInt 1 = nI b := by subst h; exact nI_1 a
theorem xk_i2 {a b : Nat} (h : a + 2 = b) : nI a + Int32.ofInt 2 = nI b := by subst h; exact nI_add a 2
theorem xk_im1 {a b : Nat} (h : b + 1 = a) : nI a + Int32.ofInt (-1) = nI b := by subst h; exact pk_m1 b
/-! MIRRORS of the reference -/
def xb_I (b : Bool) : Int32 := if b then 1 else 0
def mo_of (u w : Int32) : Int64 := (xm_l (Int32.toInt64 u) 32) ||| ((Int32.toInt64 w) &&& 4294967295)
def mo_right (v : Int64) (n : Int32) : Int64 := if (n &&& 63) = 0 then v else (xm_u v (n &&& 63)) ||| (xm_l v (64 - (n &&& 63)))
def mo_left (v : Int64) (n : Int32) : Int64 := mo_right v (64 - n)
def mo_pl (n : Nat) : Nat → Nat → Bool
  | 0, _ => true
  | d + 1, k => if k * k ≤ n then (if n % k = 0 then false else mo_pl n d (k + 1)) else true
def mo_prime (n : Nat) : Bool := mo_pl n n 2
-- a block of SHA-512
def mo_be (rs : Nat → Int32) (t : Nat) : Nat → Int64
  | 0 => 0
  | k + 1 => xm_l (mo_be rs t k) 8 ||| Int32.toInt64 (rs (8 * t + k))
def mo_s0 (a : Int64) : Int64 := (mo_right a 1 ^^^ mo_right a 8) ^^^ xm_u a 7
def mo_s1 (a : Int64) : Int64 := (mo_right a 19 ^^^ mo_right a 61) ^^^ xm_u a 6
def mo_wn (w : Nat → Int64) (t : Nat) : Int64 := ((w (t - 16) + mo_s0 (w (t - 15))) + w (t - 7)) + mo_s1 (w (t - 2))
def mo_ws (w : Nat → Int64) (rs : Nat → Int32) : Nat → (Nat → Int64)
  | 0 => w
  | t + 1 => vp_updL (mo_ws w rs t) t (if t < 16 then mo_be rs t 8 else mo_wn (mo_ws w rs t) t)
def mo_cp (r st : Nat → Int64) : Nat → (Nat → Int64)
  | 0 => r
  | k + 1 => vp_updL (mo_cp r st k) k (st k)
def mo_x (cu w r : Nat → Int64) (a t : Nat) : Int64 := (((r ((a + 7) % 8) + ((mo_right (r ((a + 4) % 8)) 14 ^^^ mo_right (r ((a + 4) % 8)) 18) ^^^ mo_right (r ((a + 4) % 8)) 41)) + ((r ((a + 4) % 8) &&& r ((a + 5) % 8)) ^^^ ((r ((a + 4) % 8) ^^^ (-1)) &&& r ((a + 6) % 8)))) + cu t) + w t
def mo_y (r : Nat → Int64) (a : Nat) : Int64 := ((mo_right (r a) 28 ^^^ mo_right (r a) 34) ^^^ mo_right (r a) 39) + (((r a &&& r ((a + 1) % 8)) ||| (r a &&& r ((a + 2) % 8))) ||| (r ((a + 1) % 8) &&& r ((a + 2) % 8)))
def mo_rd (cu w r : Nat → Int64) (t : Nat) : Nat → Int64 :=
  vp_updL (vp_updL r (((80 - t) % 8 + 3) % 8) (r (((80 - t) % 8 + 3) % 8) + mo_x cu w r ((80 - t) % 8) t)) (((80 - t) % 8 + 7) % 8) (mo_x cu w r ((80 - t) % 8) t + mo_y r ((80 - t) % 8))
def mo_rds (cu w r : Nat → Int64) : Nat → (Nat → Int64)
  | 0 => r
  | t + 1 => mo_rd cu w (mo_rds cu w r t) t
def mo_ad (st r : Nat → Int64) : Nat → (Nat → Int64)
  | 0 => st
  | k + 1 => vp_updL (mo_ad st r k) k (mo_ad st r k k + r k)
def mo_bW (w : Nat → Int64) (rs : Nat → Int32) : Nat → Int64 := mo_ws w rs 80
def mo_bR (cu st w r : Nat → Int64) (rs : Nat → Int32) : Nat → Int64 := mo_rds cu (mo_bW w rs) (mo_cp r st 8) 80
def mo_bS (cu st w r : Nat → Int64) (rs : Nat → Int32) : Nat → Int64 := mo_ad st (mo_bR cu st w r rs) 8
-- SipHash
def mo_q1 (v : Nat → Int64) : Nat → Int64 := vp_updL (vp_updL v 0 (v 0 + v 1)) 2 ((vp_updL v 0 (v 0 + v 1)) 2 + (vp_updL v 0 (v 0 + v 1)) 3)
def mo_q2 (v : Nat → Int64) : Nat → Int64 := vp_updL v 1 (mo_left (v 1) 13 ^^^ v 0)
def mo_q3 (v : Nat → Int64) : Nat → Int64 := vp_updL v 3 (mo_left (v 3) 16 ^^^ v 2)
def mo_q4 (v : Nat → Int64) : Nat → Int64 := vp_updL v 0 (mo_left (v 0) 32)
def mo_q5 (v : Nat → Int64) : Nat → Int64 := vp_updL (vp_updL v 2 (v 2 + v 1)) 0 ((vp_updL v 2 (v 2 + v 1)) 0 + (vp_updL v 2 (v 2 + v 1)) 3)
def mo_q6 (v : Nat → Int64) : Nat → Int64 := vp_updL v 1 (mo_left (v 1) 17 ^^^ v 2)
def mo_q7 (v : Nat → Int64) : Nat → Int64 := vp_updL v 3 (mo_left (v 3) 21 ^^^ v 0)
def mo_q8 (v : Nat → Int64) : Nat → Int64 := vp_updL v 2 (mo_left (v 2) 32)
def mo_sr (v : Nat → Int64) : Nat → Int64 := mo_q8 (mo_q7 (mo_q6 (mo_q5 (mo_q4 (mo_q3 (mo_q2 (mo_q1 v)))))))
def mo_srs (v : Nat → Int64) : Nat → (Nat → Int64)
  | 0 => v
  | k + 1 => mo_sr (mo_srs v k)
def mo_le (rs : Nat → Int32) : Nat → Int64
  | 0 => 0
  | k + 1 => xm_l (mo_le rs k) 8 ||| Int32.toInt64 (rs (7 - k))
def mo_sb (v : Nat → Int64) (rs : Nat → Int32) : Nat → Int64 :=
  vp_updL (mo_srs (vp_updL v 3 (v 3 ^^^ mo_le rs 8)) 2) 0 ((mo_srs (vp_updL v 3 (v 3 ^^^ mo_le rs 8)) 2) 0 ^^^ mo_le rs 8)
end
section
/-! the static rows, and what goes along with the worlds: the rows' cells, the links between nest mates -/
def xs_SQl : List Int32 := [1779033703, -205731576, -1150833019, -2067093701, 1013904242, -23791573, -1521486534, 1595750129, 1359893119, -1377402159, -1694144372, 725511199, 528734635, -79577749, 1541459225, 327033209, -876896931, -1056596264, 1654270250, 914150663, -1856437926, 812702999, 355462360, -150054599, 1731405415, -4191439, -1900787065, 1750603025, -619958771, 1694076839, 1203062813, -1090891868]
def xs_SQ (j : Nat) : Int32 := xs_SQl.getD j 0
def xs_CRl : List Int32 := [1116352408, -685199838, 1899447441, 602891725, -1245643825, -330482897, -373957723, -2121671748, 961987163, -213338824, 1508970993, -1241133031, -1841331548, -1357295717, -1424204075, -630357736, -670586216, -1560083902, 310598401, 1164996542, 607225278, 1323610764, 1426881987, -704662302, 1925078388, -226784913, -2132889090, 991336113, -1680079193, 633803317, -1046744716, -815192428, -459576895, -1628353838, -272742522, 944711139, 264347078, -1953704523, 604807628, 2007800933, 770255983, 1495990901, 1249150122, 1856431235, 1555081692, -1119749164, 1996064986, -2096016459, -1740746414, -295247957, -1473132947, 766784016, -1341970488, -1728372417, -1084653625, -1091629340, -958395405, 1034457026, -710438585, -1828018395, 113926993, -536640913, 338241895, 168717936, 666307205, 1188179964, 773529912, 1546045734, 1294757372, 1522805485, 1396182291, -1651133473, 1695183700, -1951439906, 1986661051, 1014477480, -2117940946, 1206759142, -1838011259, 344077627, -1564481375, 1290863460, -1474664885, -1136513023, -1035236496, -789014639, -949202525, 106217008, -778901479, -688958952, -694614492, 1432725776, -200395387, 1467031594, 275423344, 851169720, 430227734, -1194143544, 506948616, 1363258195, 659060556, -544281703, 883997877, -509917016, 958139571, -976659869, 1322822218, -482243893, 1537002063, 2003034995, 1747873779, -692930397, 1955562222, 1575990012, 2024104815, 1125592928, -2067236844, -1578062990, -1933114872, 442776044, -1866530822, 593698344, -1538233109, -561857047, -1090935817, -1295615723, -965641998, -479046869, -903397682, -366583396, -779700025, 566280711, -354779690, -840897762, -176337025, -294727304, 116418474, 1914138554, 174292421, -1563912026, 289380356, -1090974290, 460393269, 320620315, 685471733, 587496836, 852142971, 1086792851, 1017036298, 365543100, 1126000580, -1676669620, 1288033470, -885112138, 1501505948, -60457430, 1607167915, 987167468, 1816402316, 1246189591]
def xs_CR (j : Nat) : Int32 := xs_CRl.getD j 0
def xs_FRl : List Int32 := [1936682341, 1886610805, 1685025377, 1852075885, 1819895653, 1852142177, 1952801890, 2037671283]
def xs_FR (j : Nat) : Int32 := xs_FRl.getD j 0
abbrev classes : List vw_C := [(RX0, TX0, 4), (RX1, TX1, 4), (RX2, TX2, 7), (RX3, TX3, 17)]
def xs_row (C n : String) (N : Nat) (f : Nat → Int32) : xk_T := fun A U H => ∃ t : Nat, va_Z C n "[I" (.ref t) A U H ∧ va_T .int t N (fun j => .int (f j)) A U H
def xs_nest (U : State) : Prop := va_Nw (.methodLinkNest RX0 45 yX2_addTo "WideHash") U ∧ va_Nw (.methodLinkNest RX0 51 yX2_turned "WideHash") U ∧ va_Nw (.methodLinkNest RX0 55 yX2_moved "WideHash") U ∧ va_Nw (.methodLinkNest RX1 26 yX2_moved "WideHash") U ∧ va_Nw (.methodLinkNest RX1 50 yX2_addTo "WideHash") U ∧ va_Nw (.methodLinkNest RX1 54 yX2_turned "WideHash") U ∧ va_Nw (.methodLinkNest RX2 9 yX0_init "WideHash") U ∧ va_Nw (.methodLinkNest RX2 18 yX1_init "WideHash") U
def xs_X : xk_T := fun A U H => xs_row "WideHash$Sha" "SQUARE_ROOTS" 32 xs_SQ A U H ∧ xs_row "WideHash$Sha" "CUBE_ROOTS" 160 xs_CR A U H ∧ xs_row "WideHash$Sip" "FIRST" 8 xs_FR A U H ∧ xs_nest U
theorem xs_row_ok (C n : String) (N : Nat) (f : Nat → Int32) : xk_ok (xs_row C n N f) := by
  refine ⟨fun A u U H hv h => ?_, fun A U H H1 hq h => ?_, fun A B U H hAB h => ?_⟩
  · obtain ⟨t, h1, h2⟩ := h
    have hvm : u.vm.Alike U.vm := hv.elim (fun e => by rw [e]; exact Vm.Alike.refl _) (fun w => w.alike)
    exact ⟨t, h1.moved hvm, h2.moved hvm⟩
  · obtain ⟨t, h1, h2⟩ := h
    exact ⟨t, h1.kept hq, h2.kept hq⟩
  · obtain ⟨t, h1, h2⟩ := h
    exact ⟨t, h1.narrow hAB, h2.narrow hAB⟩
theorem xs_nw {a : String} {i : Nat} {x : MethodName} {h : String} {u U : State} (hv : u.vm = U.vm ∨ u.WarmedH U.vm) (hZ : va_Nw (.methodLinkNest a i x h) u) : va_Nw (.methodLinkNest a i x h) U :=
  hv.elim (fun e => va_Nw.same rfl e hZ) (fun w => va_Nw.warmM w hZ)
theorem xs_X_ok : xk_ok xs_X := by
  refine ⟨fun A u U H hv h => ?_, fun A U H H1 hq h => ?_, fun A B U H hAB h => ?_⟩
  · obtain ⟨h1, h2, h3, n1, n2, n3, n4, n5, n6, n7, n8⟩ := h
    exact ⟨(xs_row_ok _ _ _ _).1 _ _ _ _ hv h1, (xs_row_ok _ _ _ _).1 _ _ _ _ hv h2, (xs_row_ok _ _ _ _).1 _ _ _ _ hv h3, xs_nw hv n1, xs_nw hv n2, xs_nw hv n3, xs_nw hv n4, xs_nw hv n5, xs_nw hv n6, xs_nw hv n7, xs_nw hv n8⟩
  · exact ⟨(xs_row_ok _ _ _ _).2.1 _ _ _ _ hq h.1, (xs_row_ok _ _ _ _).2.1 _ _ _ _ hq h.2.1, (xs_row_ok _ _ _ _).2.1 _ _ _ _ hq h.2.2.1, h.2.2.2⟩
  · exact ⟨(xs_row_ok _ _ _ _).2.2 _ _ _ _ hAB h.1, (xs_row_ok _ _ _ _).2.2 _ _ _ _ hAB h.2.1, (xs_row_ok _ _ _ _).2.2 _ _ _ _ hAB h.2.2.1, h.2.2.2⟩
theorem xs_get_SQUARE_ROOTS {A : Nat → Prop} {U : State} {H : Heap} (h : xs_X A U H) : ∃ t : Nat, va_Z "WideHash$Sha" "SQUARE_ROOTS" "[I" (.ref t) A U H ∧ va_T .int t 32 (fun j => .int (xs_SQ j)) A U H := h.1
theorem xs_get_CUBE_ROOTS {A : Nat → Prop} {U : State} {H : Heap} (h : xs_X A U H) : ∃ t : Nat, va_Z "WideHash$Sha" "CUBE_ROOTS" "[I" (.ref t) A U H ∧ va_T .int t 160 (fun j => .int (xs_CR j)) A U H := h.2.1
theorem xs_get_FIRST {A : Nat → Prop} {U : State} {H : Heap} (h : xs_X A U H) : ∃ t : Nat, va_Z "WideHash$Sip" "FIRST" "[I" (.ref t) A U H ∧ va_T .int t 8 (fun j => .int (xs_FR j)) A U H := h.2.2.1
theorem xs_n0_45 {A : Nat → Prop} {U : State} {H : Heap} (h : xs_X A U H) : va_Nw (.methodLinkNest RX0 45 yX2_addTo "WideHash") U := h.2.2.2.1
theorem xs_n0_51 {A : Nat → Prop} {U : State} {H : Heap} (h : xs_X A U H) : va_Nw (.methodLinkNest RX0 51 yX2_turned "WideHash") U := h.2.2.2.2.1
theorem xs_n0_55 {A : Nat → Prop} {U : State} {H : Heap} (h : xs_X A U H) : va_Nw (.methodLinkNest RX0 55 yX2_moved "WideHash") U := h.2.2.2.2.2.1
theorem xs_n1_26 {A : Nat → Prop} {U : State} {H : Heap} (h : xs_X A U H) : va_Nw (.methodLinkNest RX1 26 yX2_moved "WideHash") U := h.2.2.2.2.2.2.1
theorem xs_n1_50 {A : Nat → Prop} {U : State} {H : Heap} (h : xs_X A U H) : va_Nw (.methodLinkNest RX1 50 yX2_addTo "WideHash") U := h.2.2.2.2.2.2.2.1
theorem xs_n1_54 {A : Nat → Prop} {U : State} {H : Heap} (h : xs_X A U H) : va_Nw (.methodLinkNest RX1 54 yX2_turned "WideHash") U := h.2.2.2.2.2.2.2.2.1
theorem xs_n2_9 {A : Nat → Prop} {U : State} {H : Heap} (h : xs_X A U H) : va_Nw (.methodLinkNest RX2 9 yX0_init "WideHash") U := h.2.2.2.2.2.2.2.2.2.1
theorem xs_n2_18 {A : Nat → Prop} {U : State} {H : Heap} (h : xs_X A U H) : va_Nw (.methodLinkNest RX2 18 yX1_init "WideHash") U := h.2.2.2.2.2.2.2.2.2.2
section XC
variable {p : Program} {l : Launch} {e : Env} {R : Room} {s : State} {m : MethodId} {args : Array Value} {below : List Frame} {meth : Method} {c : Code} {H : Heap} {locs : List Loc} {cells slots : Nat} {Q : State → Prop}
variable {cc : ByteArray} {pc : Nat} {ls : Array Slot} {rest : List Value} {D : va_G} {cl : List vw_C} {A : Nat → Prop} {a : Nat} {tys : List (ClassId × FieldType)} {ws : va_W} {H0 : Heap}
theorem xk_copyi (hexec : p.tables.exec = Jvm.exec) (hb : c.code = cc) (hml : c.maxLocals = ls.size) {own : String} {index : Nat} (hown : s.vm.findClass own = some m.cls) (hlink : (Cond.methodLink own index arraycopyName).before args s = true) (hnat : (Cond.native arraycopyName).before args s = true) (hstat : (Cond.static arraycopyName).before args s = true) (hini : (Cond.initialized "java/lang/System").before args s = true)
    (hK : va_K D cl tys s) (hP : va_P D cl ws H) (hD : va_D A ws) (hS : va_S A H0 H locs) (q0 q1 t0 t1 : Nat) {a0 : Nat} {c0 c1 : ClassId} {n0 n1 : Nat} {f g : Nat → Int32} (ha0 : ws[q0]? = some (a0, .inl (c0, n0, .inl f))) (ha1 : ws[q1]? = some (a, .inl (c1, n1, .inl g))) (ht0 : tys[t0]? = some (c0, .int)) (ht1 : tys[t1]? = some (c1, .int))
    {sp dp n : Int32} (i j k : Nat) (hsp : sp = nI i) (hdp : dp = nI j) (hnk : n = nI k) (h4 : i + k ≤ n0) (h5 : j + k ≤ n1) (hn0 : n0 < 2 ^ 31) (hn1 : n1 < 2 ^ 31) (hframes : 1 ≤ R.frames) (hlocals : (rest.map fun v => v.category).sum + (nativeFrameWords "java/lang/System" "arraycopy" 5 + 11) ≤ R.locals) (hdg : decode cc pc = .ok (.invokestatic index, 3))
    (kk : ∀ (H1 : Heap) (locs1 : List Loc), va_P D cl (ws.set q1 (a, .inl (c1, n1, .inl (va_cpy f g i j k)))) H1 → va_D A (ws.set q1 (a, .inl (c1, n1, .inl (va_cpy f g i j k)))) → va_S A H0 H1 locs1 → W p l e R s m args below meth c H1 locs1 cells slots Q (F0 m (pc + 3) ls rest)) : W p l e R s m args below meth c H locs cells slots Q (F0 m pc ls (.int n :: .int dp :: .ref a :: .int sp :: .ref a0 :: rest)) := by
  subst hsp; subst hdp; subst hnk
  have ei : (nI i).toNatClampNeg = i := nI_clamp (by omega)
  have ej : (nI j).toNatClampNeg = j := nI_clamp (by omega)
  have ek : (nI k).toNatClampNeg = k := nI_clamp (by omega)
  refine va_copyi hexec hb hml hown hlink hnat hstat hini hK hP hD hS q0 q1 t0 t1 ha0 ha1 ht0 ht1 rfl (nI_pos (by omega)) (nI_pos (by omega)) (nI_pos (by omega)) (by rw [ei, ek]; exact h4) (by rw [ej, ek]; exact h5) (fun _ _ => rfl) hframes hlocals hdg ?_
  rw [ei, ej, ek]
  exact kk
/-- arraycopy out of a static row -/
theorem xk_copyt (hexec : p.tables.exec = Jvm.exec) (hb : c.code = cc) (hml : c.maxLocals = ls.size) {own : String} {index : Nat} (hown : s.vm.findClass own = some m.cls) (hlink : (Cond.methodLink own index arraycopyName).before args s = true) (hnat : (Cond.native arraycopyName).before args s = true) (hstat : (Cond.static arraycopyName).before args s = true) (hini : (Cond.initialized "java/lang/System").before args s = true)
    (hK : va_K D cl tys s) (hP : va_P D cl ws H) (hD : va_D A ws) (hS : va_S A s.heap H locs) {b0 n0 : Nat} {f : Nat → Int32} (hT0 : va_T .int b0 n0 (fun j => .int (f j)) A s s.heap) (q1 t1 : Nat) {c1 : ClassId} {n1 : Nat} {g : Nat → Int32} (ha1 : ws[q1]? = some (a, .inl (c1, n1, .inl g))) (ht1 : tys[t1]? = some (c1, .int))
    {sp dp n : Int32} (i j k : Nat) (hsp : sp = nI i) (hdp : dp = nI j) (hnk : n = nI k) (h4 : i + k ≤ n0) (h5 : j + k ≤ n1) (hn0 : n0 < 2 ^ 31) (hn1 : n1 < 2 ^ 31) (hframes : 1 ≤ R.frames) (hlocals : (rest.map fun v => v.category).sum + (nativeFrameWords "java/lang/System" "arraycopy" 5 + 11) ≤ R.locals) (hdg : decode cc pc = .ok (.invokestatic index, 3))
    (kk : ∀ (H1 : Heap) (locs1 : List Loc), va_P D cl (ws.set q1 (a, .inl (c1, n1, .inl (va_cpy f g i j k)))) H1 → va_D A (ws.set q1 (a, .inl (c1, n1, .inl (va_cpy f g i j k)))) → va_S A s.heap H1 locs1 → W p l e R s m args below meth c H1 locs1 cells slots Q (F0 m (pc + 3) ls rest)) : W p l e R s m args below meth c H locs cells slots Q (F0 m pc ls (.int n :: .int dp :: .ref a :: .int sp :: .ref b0 :: rest)) := by
  subst hsp; subst hdp; subst hnk
  have ei : (nI i).toNatClampNeg = i := nI_clamp (by omega)
  have ej : (nI j).toNatClampNeg = j := nI_clamp (by omega)
  have ek : (nI k).toNatClampNeg = k := nI_clamp (by omega)
  have ti : (nI i).toInt = (i : Int) := nI_toInt (by omega)
  have tj : (nI j).toInt = (j : Int) := nI_toInt (by omega)
  have tk : (nI k).toInt = (k : Int) := nI_toInt (by omega)
  intro T hT X
  obtain ⟨scr, hs1, hs2, hs3, hs4, -, hs5, hs7⟩ := hT0
  have hc0 : H[b0]? = some scr := by rw [hS.2.1 b0 (Array.getElem?_eq_some_iff.mp hs1).1 hs7]; exact hs1
  have hc1 : H[a]? = some (vp_cell c1 (n1, .inl g)) := hP q1 _ ha1
  obtain ⟨hs6, k0, hk0, cm0, hkk0⟩ := hs2
  obtain ⟨-, k1, hk1, cm1, hkk1⟩ := (hK.2 t1 _ ht1).1 n1 (fun j => .int (g j))
  obtain ⟨vm', X', step⟩ := X.arraycopy hexec hown hlink hnat hstat hini (src := b0) (dst := a) (cs := scr) (cd := vp_cell c1 (n1, .inl g)) (srcPos := nI i) (destPos := nI j) (n := nI k) (by rw [hT]; exact hc0) (by rw [hT]; exact hc1)
    hs6 (fun _ h => by cases h) hs3 (fun h => by cases h) hk0 hk1 hkk0 hkk1 (by simp [refKind]) (nI_pos (by omega)) (nI_pos (by omega)) (nI_pos (by omega))
    (by rw [ti, tk]; omega)
    (by rw [tj, tk]; show ¬ _ > ((arrV c1 n1 (fun j => .int (g j))).slots.size : Int); rw [arrV_size]; omega)
    (fun vm₁ _ z hz => by
      rw [ek] at hz
      have e0 : scr.slots.getD ((nI i).toNatClampNeg + z) .null = .int (f (i + z)) := by
        rw [ei, Array.getD_eq_getD_getElem?, hs5 _ (by omega)]
        rfl
      refine ⟨?_, ?_⟩
      · rw [e0]
        rfl
      · rw [e0]
        exact trivial)
    (g := F0 m pc ls (.int (nI k) :: .int (nI j) :: .ref a :: .int (nI i) :: .ref b0 :: rest)) rfl (by rw [hml]) (rest := rest) rfl (by rw [hb]; exact hdg) hframes (by show 2 * 0 + _ + _ ≤ _; omega)
  have e1 : copied scr (vp_cell c1 (n1, .inl g)) (nI i) (nI j) (nI k) = vp_cell c1 (n1, .inl (va_cpy f g i j k)) := by
    have e2 : copied scr (vp_cell c1 (n1, .inl g)) (nI i) (nI j) (nI k) = vp_cell c1 (n1, .inl (va_cpy f g (nI i).toNatClampNeg (nI j).toNatClampNeg (nI k).toNatClampNeg)) := va_copiedX (fun z => .int z) scr c1 f g hs5 (by rw [ei, ek]; exact h4)
    rw [e2, ei, ej, ek]
  rw [e1] at X' step
  have hl : a < H.size := (Array.getElem?_eq_some_iff.mp hc1).1
  have hheap : ((T.setVm vm').setCell a (vp_cell c1 (n1, .inl (va_cpy f g i j k)))).heap = H.setIfInBounds a (vp_cell c1 (n1, .inl (va_cpy f g i j k))) := by rw [← hT]; rfl
  have oq : ∀ q : Nat, q ≠ a → (H.setIfInBounds a (vp_cell c1 (n1, .inl (va_cpy f g i j k))))[q]? = H[q]? := fun q hq => by simp [Array.getElem?_setIfInBounds, Ne.symm hq]
  obtain ⟨t, a1, b1⟩ := kk _ _ (hP.set hD ha1 (show (H.setIfInBounds a _)[a]? = some _ by simp [Array.getElem?_setIfInBounds, hl]) oq) (hD.set ha1) ⟨by simp; exact hS.1, fun q g1 g2 => by
      rw [oq q (fun e => g2 (by rw [e]; exact hD.2 q1 _ ha1))]
      exact hS.2.1 q g1 g2, fun q hq => by
      rcases List.mem_append.mp hq with h | h
      · exact hS.2.2 q h
      · obtain ⟨z, -, hz⟩ := List.mem_map.mp h
        rw [← hz]
        exact hD.2 q1 _ ha1⟩ _ hheap X'
  exact ⟨t, step t a1, b1⟩
end XC
end
section
abbrev rm_X2_carry : Room := { frames := 0, cells := 0, slots := 0, locals := 0 }
set_option maxHeartbeats 4000000 in
set_option maxRecDepth 100000 in
theorem c_X2_carry (l : Launch) (D : va_G) (a : Int32) (b : Int32) : xk_pI l yX2_carry wsX2_carry rm_X2_carry [.int a, .int b] (jc_carry a b) := by
  refine xk_entPI (cc := cX2_carry) (maxL := 2) (D := D) (cl := classes) (by decide) rfl (Nat.le_of_ble_eq_true rfl) ?_
  intro p e s m args below meth c Q A ls hx hb hml hts hown hP hS ret hl
  have hl : lv_has ls 2 [(0, .int a), (1, .int b)] := hl
  refine lv_iload_n hx hb dX2_carry_0 rfl (lv_at hl 0 rfl) ?_
  refine lv_iload_n hx hb dX2_carry_1 rfl (lv_at hl 1 rfl) ?_
  refine lv_iand hx hb dX2_carry_2 ?_
  refine lv_iload_n hx hb dX2_carry_3 rfl (lv_at hl 0 rfl) ?_
  refine lv_iload_n hx hb dX2_carry_4 rfl (lv_at hl 1 rfl) ?_
  refine lv_ior hx hb dX2_carry_5 ?_
  refine lv_iload_n hx hb dX2_carry_6 rfl (lv_at hl 0 rfl) ?_
  refine lv_iload_n hx hb dX2_carry_7 rfl (lv_at hl 1 rfl) ?_
  refine lv_iadd hx hb dX2_carry_8 ?_
  refine lv_iconst (v := (-1)) hx hb dX2_carry_9 (by decide) ?_
  refine lv_ixor hx hb dX2_carry_10 ?_
  refine lv_iand hx hb dX2_carry_11 ?_
  refine lv_ior hx hb dX2_carry_12 ?_
  refine lv_bipush (v := 31) hx hb dX2_carry_13 (by decide) ?_
  refine lv_iushr (v := (xj_u ((a &&& b) ||| ((a ||| b) &&& ((a + b) ^^^ (-1)))) 31)) hx hb dX2_carry_15 rfl ?_
  exact ret _ _ _ _ _ rfl hS dX2_carry_16
abbrev rm_X2_moved : Room := { frames := 0, cells := 0, slots := 0, locals := 0 }
set_option maxHeartbeats 4000000 in
set_option maxRecDepth 100000 in
theorem c_X2_moved (l : Launch) (D : va_G) (u : Int32) (w : Int32) (n : Int32) : xk_pI l yX2_moved wsX2_moved rm_X2_moved [.int u, .int w, .int n] (jc_moved u w n) := by
  refine xk_entPI (cc := cX2_moved) (maxL := 3) (D := D) (cl := classes) (by decide) rfl (Nat.le_of_ble_eq_true rfl) ?_
  intro p e s m args below meth c Q A ls hx hb hml hts hown hP hS ret hl
  have hl : lv_has ls 3 [(0, .int u), (1, .int w), (2, .int n)] := hl
  refine lv_iload_n hx hb dX2_moved_0 rfl (lv_at hl 1 rfl) ?_
  refine lv_iload_n hx hb dX2_moved_1 rfl (lv_at hl 2 rfl) ?_
  refine lv_iushr (v := (xj_u w n)) hx hb dX2_moved_2 rfl ?_
  refine lv_iload_n hx hb dX2_moved_3 rfl (lv_at hl 0 rfl) ?_
  refine lv_iconst (v := 1) hx hb dX2_moved_4 (by decide) ?_
  refine lv_ishl hx hb dX2_moved_5 ?_
  refine lv_bipush (v := 31) hx hb dX2_moved_6 (by decide) ?_
  refine lv_iload_n hx hb dX2_moved_8 rfl (lv_at hl 2 rfl) ?_
  refine lv_isub hx hb dX2_moved_9 ?_
  refine lv_ishl hx hb dX2_moved_10 ?_
  refine lv_ior hx hb dX2_moved_11 ?_
  exact ret _ _ _ _ _ rfl hS dX2_moved_12
abbrev rm_X2_turned : Room := { frames := 1, cells := 0, slots := 0, locals := 22 }
set_option maxHeartbeats 4000000 in
set_option maxRecDepth 100000 in
theorem c_X2_turned (l : Launch) (D : va_G) (u : Int32) (w : Int32) (n : Int32) : xk_pI l yX2_turned wsX2_turned rm_X2_turned [.int u, .int w, .int n] (jc_turned u w n) := by
  refine xk_entPI (cc := cX2_turned) (maxL := 4) (D := D) (cl := classes) (by decide) rfl (Nat.le_of_ble_eq_true rfl) ?_
  intro p e s m args below meth c Q A ls hx hb hml hts hown hP hS ret hl
  have hl : lv_has ls 4 [(0, .int u), (1, .int w), (2, .int n)] := hl
  refine lv_iload_n hx hb dX2_turned_0 rfl (lv_at hl 2 rfl) ?_
  refine lv_bipush (v := 31) hx hb dX2_turned_1 (by decide) ?_
  refine lv_iand hx hb dX2_turned_3 ?_
  refine lv_istore_n (lv' := [(3, .int (n &&& 31)), (0, .int u), (1, .int w), (2, .int n)]) hx hb dX2_turned_4 rfl hl (by decide) rfl (fun ls hl => ?_)
  refine lv_iload_n hx hb dX2_turned_5 rfl (lv_at hl 3 rfl) ?_
  refine lv_bipush (v := 32) hx hb dX2_turned_6 (by decide) ?_
  refine lv_iand hx hb dX2_turned_8 ?_
  refine lv_if_ne (tgt := 21) hx hb dX2_turned_9 (by decide) (fun c1 => ?_) (fun c1 => ?_)
  · refine lv_iload_n hx hb dX2_turned_21 rfl (lv_at hl 1 rfl) ?_
    refine lv_iload_n hx hb dX2_turned_22 rfl (lv_at hl 2 rfl) ?_
    refine lv_iload_n hx hb dX2_turned_23 rfl (lv_at hl 0 rfl) ?_
    refine xk_goPI (r := (jc_moved u w (n &&& 31))) (va_runS (As := [.int u, .int w, .int (n &&& 31)]) (rest := []) ⟨hx, hb, hml, hown, hts⟩ (c_X2_moved l D u w (n &&& 31)) (va_cwS 3 hts gX2_turned_X2_moved rfl rfl rfl (by decide +kernel) ⟨Nat.le_of_ble_eq_true rfl, Nat.le_of_ble_eq_true rfl⟩) preEq rfl rfl hl.1 rfl (lv_room (Nat.le_of_ble_eq_true rfl)) dX2_turned_24 ⟨Nat.le_of_ble_eq_true rfl, Nat.le_of_ble_eq_true rfl⟩) hP hS (fun H locs hP hS => ?_)
    exact ret _ _ _ _ _ (if_neg c1).symm hS dX2_turned_27
  · refine lv_iload_n hx hb dX2_turned_12 rfl (lv_at hl 2 rfl) ?_
    refine lv_iload_n hx hb dX2_turned_13 rfl (lv_at hl 1 rfl) ?_
    refine lv_iload_n hx hb dX2_turned_14 rfl (lv_at hl 0 rfl) ?_
    refine xk_goPI (r := (jc_moved w u (n &&& 31))) (va_runS (As := [.int w, .int u, .int (n &&& 31)]) (rest := []) ⟨hx, hb, hml, hown, hts⟩ (c_X2_moved l D w u (n &&& 31)) (va_cwS 3 hts gX2_turned_X2_moved rfl rfl rfl (by decide +kernel) ⟨Nat.le_of_ble_eq_true rfl, Nat.le_of_ble_eq_true rfl⟩) preEq rfl rfl hl.1 rfl (lv_room (Nat.le_of_ble_eq_true rfl)) dX2_turned_15 ⟨Nat.le_of_ble_eq_true rfl, Nat.le_of_ble_eq_true rfl⟩) hP hS (fun H locs hP hS => ?_)
    refine lv_goto (tgt := 27) hx hb dX2_turned_18 (by decide) ?_
    exact ret _ _ _ _ _ (if_pos c1).symm hS dX2_turned_27
abbrev rm_X2_wordsOf : Room := { frames := 0, cells := 0, slots := 0, locals := 0 }
set_option maxHeartbeats 4000000 in
set_option maxRecDepth 100000 in
theorem c_X2_wordsOf (l : Launch) (D : va_G) (k : Int32) : xk_pI l yX2_wordsOf wsX2_wordsOf rm_X2_wordsOf [.int k] (jc_words k) := by
  refine xk_entPI (cc := cX2_wordsOf) (maxL := 1) (D := D) (cl := classes) (by decide) rfl (Nat.le_of_ble_eq_true rfl) ?_
  intro p e s m args below meth c Q A ls hx hb hml hts hown hP hS ret hl
  have hl : lv_has ls 1 [(0, .int k)] := hl
  refine lv_iload_n hx hb dX2_wordsOf_0 rfl (lv_at hl 0 rfl) ?_
  by_cases h1 : k = 1
  · subst h1
    refine lv_tableIn (tgt := 28) hx hb dX2_wordsOf_1 (by decide) (by decide) rfl (by decide) ?_
    refine lv_bipush (v := 16) hx hb dX2_wordsOf_28 (by decide) ?_
    exact ret _ _ _ _ _ rfl hS dX2_wordsOf_30
  · by_cases h2 : k = 2
    · subst h2
      refine lv_tableIn (tgt := 31) hx hb dX2_wordsOf_1 (by decide) (by decide) rfl (by decide) ?_
      refine lv_bipush (v := 12) hx hb dX2_wordsOf_31 (by decide) ?_
      exact ret _ _ _ _ _ rfl hS dX2_wordsOf_33
    · by_cases h3 : k = 3
      · subst h3
        refine lv_tableIn (tgt := 34) hx hb dX2_wordsOf_1 (by decide) (by decide) rfl (by decide) ?_
        refine lv_iconst (v := 2) hx hb dX2_wordsOf_34 (by decide) ?_
        exact ret _ _ _ _ _ rfl hS dX2_wordsOf_35
      · refine lv_tableOut (tgt := 36) hx hb dX2_wordsOf_1 (by have a1 := lv_neT h1 (show (1 : Int32).toInt = 1 by decide); have a2 := lv_neT h2 (show (2 : Int32).toInt = 2 by decide); have a3 := lv_neT h3 (show (3 : Int32).toInt = 3 by decide); omega) (by decide) ?_
        refine lv_iconst (v := 0) hx hb dX2_wordsOf_36 (by decide) ?_
        exact ret _ _ _ _ _ (by unfold jc_words; rw [if_neg h1, if_neg h2, if_neg h3]) hS dX2_wordsOf_37
abbrev rm_X0_turnsOfA : Room := { frames := 2, cells := 0, slots := 0, locals := 45 }
set_option maxHeartbeats 4000000 in
set_option maxRecDepth 100000 in
theorem c_X0_turnsOfA (l : Launch) (D : va_G) (cI cL : ClassId) (sz : Nat) (u : Int32) (w : Int32) : xk_I l yX0_turnsOfA wsX0_turnsOfA rm_X0_turnsOfA xs_X D classes [(cI, .int), (cL, .long)] [.int u, .int w] [] [] (jc_SA u w) sz := by
  refine xk_entI (cc := cX0_turnsOfA) (maxL := 2) (by decide) rfl (Nat.le_of_ble_eq_true rfl) ?_
  intro p e s m args below meth c Q A ls hx hb hml hts hown hA hK hP hD hS hX ret hl
  have hl : lv_has ls 2 [(0, .int u), (1, .int w)] := hl
  have in_X2 := hts (.initialized RX2) (by decide +kernel)
  have sm_51 := hts (.static yX2_turned) (by decide +kernel)
  refine lv_iload_n hx hb dX0_turnsOfA_0 rfl (lv_at hl 0 rfl) ?_
  refine lv_iload_n hx hb dX0_turnsOfA_1 rfl (lv_at hl 1 rfl) ?_
  refine lv_bipush (v := 28) hx hb dX0_turnsOfA_2 (by decide) ?_
  refine xk_goPI (r := (jc_turned u w 28)) (va_runSN (As := [.int u, .int w, .int 28]) (rest := []) ⟨hx, hb, hml, hown, hts⟩ (c_X2_turned l D u w 28) ⟨va_cnB 3 hts gX0_turnsOfA_X2_turned_n51 rfl rfl rfl (xs_n0_51 hX) in_X2 (by decide +kernel) ⟨Nat.le_of_ble_eq_true rfl, Nat.le_of_ble_eq_true rfl⟩, sm_51, trivial⟩ preEq rfl rfl hl.1 rfl (lv_room (Nat.le_of_ble_eq_true rfl)) dX0_turnsOfA_4 ⟨Nat.le_of_ble_eq_true rfl, Nat.le_of_ble_eq_true rfl⟩) hP hS (fun H locs hP hS => ?_)
  refine lv_iload_n hx hb dX0_turnsOfA_7 rfl (lv_at hl 0 rfl) ?_
  refine lv_iload_n hx hb dX0_turnsOfA_8 rfl (lv_at hl 1 rfl) ?_
  refine lv_bipush (v := 34) hx hb dX0_turnsOfA_9 (by decide) ?_
  refine xk_goPI (r := (jc_turned u w 34)) (va_runSN (As := [.int u, .int w, .int 34]) (rest := [.int (jc_turned u w 28)]) ⟨hx, hb, hml, hown, hts⟩ (c_X2_turned l D u w 34) ⟨va_cnB 3 hts gX0_turnsOfA_X2_turned_n51 rfl rfl rfl (xs_n0_51 hX) in_X2 (by decide +kernel) ⟨Nat.le_of_ble_eq_true rfl, Nat.le_of_ble_eq_true rfl⟩, sm_51, trivial⟩ preEq rfl rfl hl.1 rfl (lv_room (Nat.le_of_ble_eq_true rfl)) dX0_turnsOfA_11 ⟨Nat.le_of_ble_eq_true rfl, Nat.le_of_ble_eq_true rfl⟩) hP hS (fun H locs hP hS => ?_)
  refine lv_ixor hx hb dX0_turnsOfA_14 ?_
  refine lv_iload_n hx hb dX0_turnsOfA_15 rfl (lv_at hl 0 rfl) ?_
  refine lv_iload_n hx hb dX0_turnsOfA_16 rfl (lv_at hl 1 rfl) ?_
  refine lv_bipush (v := 39) hx hb dX0_turnsOfA_17 (by decide) ?_
  refine xk_goPI (r := (jc_turned u w 39)) (va_runSN (As := [.int u, .int w, .int 39]) (rest := [.int ((jc_turned u w 28) ^^^ (jc_turned u w 34))]) ⟨hx, hb, hml, hown, hts⟩ (c_X2_turned l D u w 39) ⟨va_cnB 3 hts gX0_turnsOfA_X2_turned_n51 rfl rfl rfl (xs_n0_51 hX) in_X2 (by decide +kernel) ⟨Nat.le_of_ble_eq_true rfl, Nat.le_of_ble_eq_true rfl⟩, sm_51, trivial⟩ preEq rfl rfl hl.1 rfl (lv_room (Nat.le_of_ble_eq_true rfl)) dX0_turnsOfA_19 ⟨Nat.le_of_ble_eq_true rfl, Nat.le_of_ble_eq_true rfl⟩) hP hS (fun H locs hP hS => ?_)
  refine lv_ixor hx hb dX0_turnsOfA_22 ?_
  exact ret _ _ _ _ _ rfl hP hD hS dX0_turnsOfA_23
abbrev rm_X0_turnsOfE : Room := { frames := 2, cells := 0, slots := 0, locals := 45 }
set_option maxHeartbeats 4000000 in
set_option maxRecDepth 100000 in
theorem c_X0_turnsOfE (l : Launch) (D : va_G) (cI cL : ClassId) (sz : Nat) (u : Int32) (w : Int32) : xk_I l yX0_turnsOfE wsX0_turnsOfE rm_X0_turnsOfE xs_X D classes [(cI, .int), (cL, .long)] [.int u, .int w] [] [] (jc_SE u w) sz := by
  refine xk_entI (cc := cX0_turnsOfE) (maxL := 2) (by decide) rfl (Nat.le_of_ble_eq_true rfl) ?_
  intro p e s m args below meth c Q A ls hx hb hml hts hown hA hK hP hD hS hX ret hl
  have hl : lv_has ls 2 [(0, .int u), (1, .int w)] := hl
  have in_X2 := hts (.initialized RX2) (by decide +kernel)
  have sm_51 := hts (.static yX2_turned) (by decide +kernel)
  refine lv_iload_n hx hb dX0_turnsOfE_0 rfl (lv_at hl 0 rfl) ?_
  refine lv_iload_n hx hb dX0_turnsOfE_1 rfl (lv_at hl 1 rfl) ?_
  refine lv_bipush (v := 14) hx hb dX0_turnsOfE_2 (by decide) ?_
  refine xk_goPI (r := (jc_turned u w 14)) (va_runSN (As := [.int u, .int w, .int 14]) (rest := []) ⟨hx, hb, hml, hown, hts⟩ (c_X2_turned l D u w 14) ⟨va_cnB 3 hts gX0_turnsOfE_X2_turned_n51 rfl rfl rfl (xs_n0_51 hX) in_X2 (by decide +kernel) ⟨Nat.le_of_ble_eq_true rfl, Nat.le_of_ble_eq_true rfl⟩, sm_51, trivial⟩ preEq rfl rfl hl.1 rfl (lv_room (Nat.le_of_ble_eq_true rfl)) dX0_turnsOfE_4 ⟨Nat.le_of_ble_eq_true rfl, Nat.le_of_ble_eq_true rfl⟩) hP hS (fun H locs hP hS => ?_)
  refine lv_iload_n hx hb dX0_turnsOfE_7 rfl (lv_at hl 0 rfl) ?_
  refine lv_iload_n hx hb dX0_turnsOfE_8 rfl (lv_at hl 1 rfl) ?_
  refine lv_bipush (v := 18) hx hb dX0_turnsOfE_9 (by decide) ?_
  refine xk_goPI (r := (jc_turned u w 18)) (va_runSN (As := [.int u, .int w, .int 18]) (rest := [.int (jc_turned u w 14)]) ⟨hx, hb, hml, hown, hts⟩ (c_X2_turned l D u w 18) ⟨va_cnB 3 hts gX0_turnsOfE_X2_turned_n51 rfl rfl rfl (xs_n0_51 hX) in_X2 (by decide +kernel) ⟨Nat.le_of_ble_eq_true rfl, Nat.le_of_ble_eq_true rfl⟩, sm_51, trivial⟩ preEq rfl rfl hl.1 rfl (lv_room (Nat.le_of_ble_eq_true rfl)) dX0_turnsOfE_11 ⟨Nat.le_of_ble_eq_true rfl, Nat.le_of_ble_eq_true rfl⟩) hP hS (fun H locs hP hS => ?_)
  refine lv_ixor hx hb dX0_turnsOfE_14 ?_
  refine lv_iload_n hx hb dX0_turnsOfE_15 rfl (lv_at hl 0 rfl) ?_
  refine lv_iload_n hx hb dX0_turnsOfE_16 rfl (lv_at hl 1 rfl) ?_
  refine lv_bipush (v := 41) hx hb dX0_turnsOfE_17 (by decide) ?_
  refine xk_goPI (r := (jc_turned u w 41)) (va_runSN (As := [.int u, .int w, .int 41]) (rest := [.int ((jc_turned u w 14) ^^^ (jc_turned u w 18))]) ⟨hx, hb, hml, hown, hts⟩ (c_X2_turned l D u w 41) ⟨va_cnB 3 hts gX0_turnsOfE_X2_turned_n51 rfl rfl rfl (xs_n0_51 hX) in_X2 (by decide +kernel) ⟨Nat.le_of_ble_eq_true rfl, Nat.le_of_ble_eq_true rfl⟩, sm_51, trivial⟩ preEq rfl rfl hl.1 rfl (lv_room (Nat.le_of_ble_eq_true rfl)) dX0_turnsOfE_19 ⟨Nat.le_of_ble_eq_true rfl, Nat.le_of_ble_eq_true rfl⟩) hP hS (fun H locs hP hS => ?_)
  refine lv_ixor hx hb dX0_turnsOfE_22 ?_
  exact ret _ _ _ _ _ rfl hP hD hS dX0_turnsOfE_23
end
