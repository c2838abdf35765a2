/-! ===== BEGIN words of one list among another's, by their places ===== -/
theorem goodIn_r {big : List Cond} (ws : List Cond) (ps : List Nat) (hp : ws = ps.filterMap (fun i => big[i]?)) (h : ws.all goodWord = true) : GoodIn big ws := by
  intro w hw
  have h1 := List.all_eq_true.mp h w hw
  rw [hp] at hw
  obtain ⟨i, -, hi⟩ := List.mem_filterMap.mp hw
  have hm : w ∈ big := by first | exact List.mem_of_getElem? hi | exact List.getElem?_mem hi
  exact ⟨hm, good_of_word h1⟩
theorem goodIn_app {big a b : List Cond} (ha : GoodIn big a) (hb : GoodIn big b) : GoodIn big (a ++ b) := fun w h => (List.mem_append.mp h).elim (ha w) (hb w)
theorem goodIn_ca {big a b : List Cond} {c : Cond} (ha : GoodIn big (c :: a)) (hb : GoodIn big b) : GoodIn big (c :: (a ++ b)) := fun w h => (List.mem_cons.mp h).elim (fun e => ha w (List.mem_cons.mpr (Or.inl e))) (fun h => (List.mem_append.mp h).elim (fun h => ha w (List.mem_cons.mpr (Or.inr h))) (hb w))
theorem goodIn_sub {big ws : List Cond} (hm : ∀ w ∈ ws, w ∈ big) (h : ws.all goodWord = true) : GoodIn big ws := fun w hw => ⟨hm w hw, good_of_word (List.all_eq_true.mp h w hw)⟩
/-! ===== END ===== -/

/-! ===== BEGIN printed: names, fields, word lists, decode rows ===== -/
def RX0 : String := "FenceHandshakes$Clans"
def TX0 : u_T := fun k => match k with
  | _ => ("FenceHandshakes$Clans", "cells", "[I", true)
def tyX0 : Nat → FieldType := fun k => match k with
  | _ => .array .int
abbrev wsX00 : List Cond := u_ws RX0 TX0 1
theorem nmX0 : ∀ a, a < 1 → ∀ b, b < 1 → a ≠ b → (TX0 a).2.1 ≠ (TX0 b).2.1 := by decide +kernel
theorem tyX0_ok : ∀ k, k < 1 → parseFieldDescriptor (TX0 k).2.2.1 = some (tyX0 k) := by decide +kernel
abbrev cX0_init : ByteArray := prog_2_method_1_code
def yX0_init : MethodName := ⟨RX0, "<init>", "()V"⟩
abbrev cX0_copyFrom : ByteArray := prog_2_method_2_code
def yX0_copyFrom : MethodName := ⟨RX0, "copyFrom", "(LFenceHandshakes$Clans;)V"⟩
abbrev cX0_hasWish : ByteArray := prog_2_method_3_code
def yX0_hasWish : MethodName := ⟨RX0, "hasWish", "(II)Z"⟩
abbrev cX0_openWish : ByteArray := prog_2_method_4_code
def yX0_openWish : MethodName := ⟨RX0, "openWish", "(II)V"⟩
abbrev cX0_openWishes : ByteArray := prog_2_method_5_code
def yX0_openWishes : MethodName := ⟨RX0, "openWishes", "(II)V"⟩
abbrev cX0_closeWish : ByteArray := prog_2_method_6_code
def yX0_closeWish : MethodName := ⟨RX0, "closeWish", "(II)V"⟩
abbrev cX0_feudOf : ByteArray := prog_2_method_7_code
def yX0_feudOf : MethodName := ⟨RX0, "feudOf", "(II)I"⟩
abbrev cX0_setFeud : ByteArray := prog_2_method_8_code
def yX0_setFeud : MethodName := ⟨RX0, "setFeud", "(III)V"⟩
abbrev cX0_handshakesOf : ByteArray := prog_2_method_9_code
def yX0_handshakesOf : MethodName := ⟨RX0, "handshakesOf", "(II)I"⟩
abbrev cX0_areLinked : ByteArray := prog_2_method_10_code
def yX0_areLinked : MethodName := ⟨RX0, "areLinked", "(II)Z"⟩
abbrev cX0_setLinked : ByteArray := prog_2_method_11_code
def yX0_setLinked : MethodName := ⟨RX0, "setLinked", "(IIZ)V"⟩
abbrev cX0_linkedPairsOfGates : ByteArray := prog_2_method_12_code
def yX0_linkedPairsOfGates : MethodName := ⟨RX0, "linkedPairsOfGates", "()I"⟩
abbrev cX0_gateOf : ByteArray := prog_2_method_13_code
def yX0_gateOf : MethodName := ⟨RX0, "gateOf", "(ZI)I"⟩
abbrev cX0_setGate : ByteArray := prog_2_method_14_code
def yX0_setGate : MethodName := ⟨RX0, "setGate", "(ZII)V"⟩
abbrev cX0_areAtLinkedGates : ByteArray := prog_2_method_15_code
def yX0_areAtLinkedGates : MethodName := ⟨RX0, "areAtLinkedGates", "(II)Z"⟩
abbrev cX0_canMeet : ByteArray := prog_2_method_16_code
def yX0_canMeet : MethodName := ⟨RX0, "canMeet", "(II)Z"⟩
abbrev cX0_isPossible : ByteArray := prog_2_method_17_code
def yX0_isPossible : MethodName := ⟨RX0, "isPossible", "(II)Z"⟩
abbrev cX0_peopleToMeet : ByteArray := prog_2_method_18_code
def yX0_peopleToMeet : MethodName := ⟨RX0, "peopleToMeet", "(ZI)I"⟩
abbrev cX0_hasWishOverUnlinkedGates : ByteArray := prog_2_method_19_code
def yX0_hasWishOverUnlinkedGates : MethodName := ⟨RX0, "hasWishOverUnlinkedGates", "()Z"⟩
abbrev cX0_amountOfPair : ByteArray := prog_2_method_20_code
def yX0_amountOfPair : MethodName := ⟨RX0, "amountOfPair", "(III)I"⟩
abbrev cX0_amountOfPerson : ByteArray := prog_2_method_21_code
def yX0_amountOfPerson : MethodName := ⟨RX0, "amountOfPerson", "(ZII)I"⟩
abbrev cX0_amountOfAll : ByteArray := prog_2_method_22_code
def yX0_amountOfAll : MethodName := ⟨RX0, "amountOfAll", "(I)I"⟩
abbrev cX0_numberOfWishes : ByteArray := prog_2_method_23_code
def yX0_numberOfWishes : MethodName := ⟨RX0, "numberOfWishes", "()I"⟩
abbrev cX0_roundsSoFar : ByteArray := prog_2_method_24_code
def yX0_roundsSoFar : MethodName := ⟨RX0, "roundsSoFar", "()I"⟩
abbrev cX0_shakeHands : ByteArray := prog_2_method_25_code
def yX0_shakeHands : MethodName := ⟨RX0, "shakeHands", "(II)V"⟩
abbrev cX0_endRound : ByteArray := prog_2_method_26_code
def yX0_endRound : MethodName := ⟨RX0, "endRound", "()V"⟩
def RX1 : String := "FenceHandshakes$History"
def TX1 : u_T := fun k => match k with
  | 0 => ("FenceHandshakes$History", "rows", "[I", true)
  | 1 => ("FenceHandshakes$History", "oldest", "I", false)
  | _ => ("FenceHandshakes$History", "size", "I", false)
def tyX1 : Nat → FieldType := fun k => match k with
  | 0 => .array .int
  | 1 => .int
  | _ => .int
abbrev wsX10 : List Cond := u_ws RX1 TX1 3
theorem nmX1 : ∀ a, a < 3 → ∀ b, b < 3 → a ≠ b → (TX1 a).2.1 ≠ (TX1 b).2.1 := by decide +kernel
theorem tyX1_ok : ∀ k, k < 3 → parseFieldDescriptor (TX1 k).2.2.1 = some (tyX1 k) := by decide +kernel
abbrev cX1_init : ByteArray := prog_3_method_1_code
def yX1_init : MethodName := ⟨RX1, "<init>", "()V"⟩
abbrev cX1_size : ByteArray := prog_3_method_2_code
def yX1_size : MethodName := ⟨RX1, "size", "()I"⟩
abbrev cX1_keep : ByteArray := prog_3_method_3_code
def yX1_keep : MethodName := ⟨RX1, "keep", "(LFenceHandshakes$Clans;)V"⟩
abbrev cX1_takeLatest : ByteArray := prog_3_method_4_code
def yX1_takeLatest : MethodName := ⟨RX1, "takeLatest", "(LFenceHandshakes$Clans;)V"⟩
abbrev cX1_startOfRow : ByteArray := prog_3_method_5_code
def yX1_startOfRow : MethodName := ⟨RX1, "startOfRow", "(I)I"⟩
def RX2 : String := "FenceHandshakes$Matching"
def TX2 : u_T := fun k => match k with
  | 0 => ("FenceHandshakes$Matching", "wished", "[I", true)
  | 1 => ("FenceHandshakes$Matching", "ofLeft", "[I", true)
  | 2 => ("FenceHandshakes$Matching", "ofRight", "[I", true)
  | 3 => ("FenceHandshakes$Matching", "seenFrom", "[I", true)
  | _ => ("FenceHandshakes$Matching", "reachedLefts", "I", false)
def tyX2 : Nat → FieldType := fun k => match k with
  | 0 => .array .int
  | 1 => .array .int
  | 2 => .array .int
  | 3 => .array .int
  | _ => .int
abbrev wsX20 : List Cond := u_ws RX2 TX2 5
theorem nmX2 : ∀ a, a < 5 → ∀ b, b < 5 → a ≠ b → (TX2 a).2.1 ≠ (TX2 b).2.1 := by decide +kernel
theorem tyX2_ok : ∀ k, k < 5 → parseFieldDescriptor (TX2 k).2.2.1 = some (tyX2 k) := by decide +kernel
abbrev cX2_init : ByteArray := prog_4_method_1_code
def yX2_init : MethodName := ⟨RX2, "<init>", "()V"⟩
abbrev cX2_partnerOf : ByteArray := prog_4_method_2_code
def yX2_partnerOf : MethodName := ⟨RX2, "partnerOf", "(ZI)I"⟩
abbrev cX2_size : ByteArray := prog_4_method_3_code
def yX2_size : MethodName := ⟨RX2, "size", "()I"⟩
abbrev cX2_takeGreatest : ByteArray := prog_4_method_4_code
def yX2_takeGreatest : MethodName := ⟨RX2, "takeGreatest", "(LFenceHandshakes$Clans;)V"⟩
abbrev cX2_takeFirst : ByteArray := prog_4_method_5_code
def yX2_takeFirst : MethodName := ⟨RX2, "takeFirst", "(LFenceHandshakes$Clans;)V"⟩
abbrev cX2_leftsWhoMayBeLeftOut : ByteArray := prog_4_method_6_code
def yX2_leftsWhoMayBeLeftOut : MethodName := ⟨RX2, "leftsWhoMayBeLeftOut", "()I"⟩
abbrev cX2_canTake : ByteArray := prog_4_method_7_code
def yX2_canTake : MethodName := ⟨RX2, "canTake", "(III)Z"⟩
abbrev cX2_join : ByteArray := prog_4_method_8_code
def yX2_join : MethodName := ⟨RX2, "join", "(II)V"⟩
abbrev cX2_growsByOne : ByteArray := prog_4_method_9_code
def yX2_growsByOne : MethodName := ⟨RX2, "growsByOne", "(II)Z"⟩
abbrev cX2_findFreeRight : ByteArray := prog_4_method_10_code
def yX2_findFreeRight : MethodName := ⟨RX2, "findFreeRight", "(II)I"⟩
abbrev cX2_leftsWithoutPartner : ByteArray := prog_4_method_11_code
def yX2_leftsWithoutPartner : MethodName := ⟨RX2, "leftsWithoutPartner", "(I)I"⟩
def RX3 : String := "FenceHandshakes$Plan"
def TX3 : u_T := fun k => match k with
  | _ => ("FenceHandshakes$Plan", "numbers", "[I", true)
def tyX3 : Nat → FieldType := fun k => match k with
  | _ => .array .int
abbrev wsX30 : List Cond := u_ws RX3 TX3 1
theorem nmX3 : ∀ a, a < 1 → ∀ b, b < 1 → a ≠ b → (TX3 a).2.1 ≠ (TX3 b).2.1 := by decide +kernel
theorem tyX3_ok : ∀ k, k < 1 → parseFieldDescriptor (TX3 k).2.2.1 = some (tyX3 k) := by decide +kernel
abbrev cX3_init : ByteArray := prog_5_method_1_code
def yX3_init : MethodName := ⟨RX3, "<init>", "()V"⟩
def RX4 : String := "FenceHandshakes$WishText"
def TX4 : u_T := fun k => match k with
  | 0 => ("FenceHandshakes$WishText", "signs", "[C", true)
  | 1 => ("FenceHandshakes$WishText", "length", "I", false)
  | 2 => ("FenceHandshakes$WishText", "rows", "[I", true)
  | 3 => ("FenceHandshakes$WishText", "lefts", "I", false)
  | 4 => ("FenceHandshakes$WishText", "rights", "I", false)
  | _ => ("FenceHandshakes$WishText", "isBehindDash", "Z", false)
def tyX4 : Nat → FieldType := fun k => match k with
  | 0 => .array .char
  | 1 => .int
  | 2 => .array .int
  | 3 => .int
  | 4 => .int
  | _ => .boolean
abbrev wsX40 : List Cond := u_ws RX4 TX4 6
theorem nmX4 : ∀ a, a < 6 → ∀ b, b < 6 → a ≠ b → (TX4 a).2.1 ≠ (TX4 b).2.1 := by decide +kernel
theorem tyX4_ok : ∀ k, k < 6 → parseFieldDescriptor (TX4 k).2.2.1 = some (tyX4 k) := by decide +kernel
abbrev cX4_init : ByteArray := prog_6_method_1_code
def yX4_init : MethodName := ⟨RX4, "<init>", "()V"⟩
abbrev cX4_length : ByteArray := prog_6_method_2_code
def yX4_length : MethodName := ⟨RX4, "length", "()I"⟩
def RX5 : String := "FenceHandshakes"
def TX5 : u_T := fun k => match k with
  | 0 => ("FenceHandshakes", "now", "LFenceHandshakes$Clans;", true)
  | 1 => ("FenceHandshakes", "trial", "LFenceHandshakes$Clans;", true)
  | 2 => ("FenceHandshakes", "snapshot", "LFenceHandshakes$Clans;", true)
  | 3 => ("FenceHandshakes", "hasSnapshot", "Z", false)
  | 4 => ("FenceHandshakes", "history", "LFenceHandshakes$History;", true)
  | 5 => ("FenceHandshakes", "text", "LFenceHandshakes$WishText;", true)
  | 6 => ("FenceHandshakes", "matching", "LFenceHandshakes$Matching;", true)
  | _ => ("FenceHandshakes", "plan", "LFenceHandshakes$Plan;", true)
def tyX5 : Nat → FieldType := fun k => match k with
  | 0 => .object "FenceHandshakes$Clans"
  | 1 => .object "FenceHandshakes$Clans"
  | 2 => .object "FenceHandshakes$Clans"
  | 3 => .boolean
  | 4 => .object "FenceHandshakes$History"
  | 5 => .object "FenceHandshakes$WishText"
  | 6 => .object "FenceHandshakes$Matching"
  | _ => .object "FenceHandshakes$Plan"
abbrev wsX50 : List Cond := u_ws RX5 TX5 8
theorem nmX5 : ∀ a, a < 8 → ∀ b, b < 8 → a ≠ b → (TX5 a).2.1 ≠ (TX5 b).2.1 := by decide +kernel
theorem tyX5_ok : ∀ k, k < 8 → parseFieldDescriptor (TX5 k).2.2.1 = some (tyX5 k) := by decide +kernel
abbrev cX5_init : ByteArray := prog_1_method_1_code
def yX5_init : MethodName := ⟨RX5, "<init>", "()V"⟩
abbrev cX5_wish : ByteArray := prog_1_method_2_code
def yX5_wish : MethodName := ⟨RX5, "wish", "(II)I"⟩
abbrev cX5_withdraw : ByteArray := prog_1_method_3_code
def yX5_withdraw : MethodName := ⟨RX5, "withdraw", "(II)I"⟩
abbrev cX5_quarrel : ByteArray := prog_1_method_4_code
def yX5_quarrel : MethodName := ⟨RX5, "quarrel", "(III)I"⟩
abbrev cX5_reconcile : ByteArray := prog_1_method_5_code
def yX5_reconcile : MethodName := ⟨RX5, "reconcile", "(II)I"⟩
abbrev cX5_link : ByteArray := prog_1_method_6_code
def yX5_link : MethodName := ⟨RX5, "link", "(IIZ)I"⟩
abbrev cX5_move : ByteArray := prog_1_method_7_code
def yX5_move : MethodName := ⟨RX5, "move", "(ZII)I"⟩
abbrev cX5_round : ByteArray := prog_1_method_8_code
def yX5_round : MethodName := ⟨RX5, "round", "()I"⟩
abbrev cX5_undo : ByteArray := prog_1_method_13_code
def yX5_undo : MethodName := ⟨RX5, "undo", "()I"⟩
abbrev cX5_save : ByteArray := prog_1_method_14_code
def yX5_save : MethodName := ⟨RX5, "save", "()I"⟩
abbrev cX5_restore : ByteArray := prog_1_method_15_code
def yX5_restore : MethodName := ⟨RX5, "restore", "()I"⟩
abbrev cX5_person : ByteArray := prog_1_method_16_code
def yX5_person : MethodName := ⟨RX5, "person", "(ZII)I"⟩
abbrev cX5_pair : ByteArray := prog_1_method_17_code
def yX5_pair : MethodName := ⟨RX5, "pair", "(III)I"⟩
abbrev cX5_isLinked : ByteArray := prog_1_method_18_code
def yX5_isLinked : MethodName := ⟨RX5, "isLinked", "(II)I"⟩
abbrev cX5_partner : ByteArray := prog_1_method_19_code
def yX5_partner : MethodName := ⟨RX5, "partner", "(ZI)I"⟩
abbrev cX5_hindered : ByteArray := prog_1_method_20_code
def yX5_hindered : MethodName := ⟨RX5, "hindered", "()I"⟩
abbrev cX5_count : ByteArray := prog_1_method_22_code
def yX5_count : MethodName := ⟨RX5, "count", "(I)I"⟩
abbrev cX5_doneIn : ByteArray := prog_1_method_23_code
def yX5_doneIn : MethodName := ⟨RX5, "doneIn", "()I"⟩
abbrev cX5_mean : ByteArray := prog_1_method_25_code
def yX5_mean : MethodName := ⟨RX5, "mean", "()D"⟩
abbrev cX5_isPerson : ByteArray := prog_1_method_26_code
def yX5_isPerson : MethodName := ⟨RX5, "isPerson", "(I)Z"⟩
abbrev cX5_arePeople : ByteArray := prog_1_method_27_code
def yX5_arePeople : MethodName := ⟨RX5, "arePeople", "(II)Z"⟩
abbrev cX5_isGate : ByteArray := prog_1_method_28_code
def yX5_isGate : MethodName := ⟨RX5, "isGate", "(I)Z"⟩
abbrev cX5_asNumber : ByteArray := prog_1_method_29_code
def yX5_asNumber : MethodName := ⟨RX5, "asNumber", "(Z)I"⟩
abbrev cX5_hasBit : ByteArray := prog_1_method_30_code
def yX5_hasBit : MethodName := ⟨RX5, "hasBit", "(II)Z"⟩
abbrev cX5_makeRound : ByteArray := prog_1_method_31_code
def yX5_makeRound : MethodName := ⟨RX5, "makeRound", "(LFenceHandshakes$Clans;)I"⟩
abbrev cX5_reasonAgainst : ByteArray := prog_1_method_32_code
def yX5_reasonAgainst : MethodName := ⟨RX5, "reasonAgainst", "(II)I"⟩
abbrev cX5_greatestSize : ByteArray := prog_1_method_33_code
def yX5_greatestSize : MethodName := ⟨RX5, "greatestSize", "(LFenceHandshakes$Clans;)I"⟩
abbrev cX5_mostPossibleOfAPerson : ByteArray := prog_1_method_34_code
def yX5_mostPossibleOfAPerson : MethodName := ⟨RX5, "mostPossibleOfAPerson", "()I"⟩
def RX6 : String := "FenceHandshakesModel"
def TX6 : u_T := fun k => match k with
  | _ => ("", "", "", false)
def tyX6 : Nat → FieldType := fun k => match k with
  | _ => .int
abbrev wsX60 : List Cond := u_ws RX6 TX6 0
theorem nmX6 : ∀ a, a < 0 → ∀ b, b < 0 → a ≠ b → (TX6 a).2.1 ≠ (TX6 b).2.1 := by decide +kernel
theorem tyX6_ok : ∀ k, k < 0 → parseFieldDescriptor (TX6 k).2.2.1 = some (tyX6 k) := by decide +kernel
def RJ6 : String := "java/lang/Integer"
def TJ6 : u_T := fun k => match k with
  | _ => ("", "", "", false)
def tyJ6 : Nat → FieldType := fun k => match k with
  | _ => .int
abbrev wsJ60 : List Cond := u_ws RJ6 TJ6 0
theorem nmJ6 : ∀ a, a < 0 → ∀ b, b < 0 → a ≠ b → (TJ6 a).2.1 ≠ (TJ6 b).2.1 := by decide +kernel
theorem tyJ6_ok : ∀ k, k < 0 → parseFieldDescriptor (TJ6 k).2.2.1 = some (tyJ6 k) := by decide +kernel
abbrev cJ6_bitCount_0f7a4 : ByteArray := prog_9_method_49_code
def yJ6_bitCount_0f7a4 : MethodName := ⟨RJ6, "bitCount", "(I)I"⟩
def RJ9 : String := "java/lang/Math"
def TJ9 : u_T := fun k => match k with
  | _ => ("", "", "", false)
def tyJ9 : Nat → FieldType := fun k => match k with
  | _ => .int
abbrev wsJ90 : List Cond := u_ws RJ9 TJ9 0
theorem nmJ9 : ∀ a, a < 0 → ∀ b, b < 0 → a ≠ b → (TJ9 a).2.1 ≠ (TJ9 b).2.1 := by decide +kernel
theorem tyJ9_ok : ∀ k, k < 0 → parseFieldDescriptor (TJ9 k).2.2.1 = some (tyJ9 k) := by decide +kernel
abbrev cJ9_max_7cf53 : ByteArray := prog_10_method_65_code
def yJ9_max_7cf53 : MethodName := ⟨RJ9, "max", "(II)I"⟩
def RJ10 : String := "java/lang/System"
def TJ10 : u_T := fun k => match k with
  | _ => ("", "", "", false)
def tyJ10 : Nat → FieldType := fun k => match k with
  | _ => .int
abbrev wsJ100 : List Cond := u_ws RJ10 TJ10 0
theorem nmJ10 : ∀ a, a < 0 → ∀ b, b < 0 → a ≠ b → (TJ10 a).2.1 ≠ (TJ10 b).2.1 := by decide +kernel
theorem tyJ10_ok : ∀ k, k < 0 → parseFieldDescriptor (TJ10 k).2.2.1 = some (tyJ10 k) := by decide +kernel
def RJ7 : String := "java/util/Arrays"
def TJ7 : u_T := fun k => match k with
  | _ => ("", "", "", false)
def tyJ7 : Nat → FieldType := fun k => match k with
  | _ => .int
abbrev wsJ70 : List Cond := u_ws RJ7 TJ7 0
theorem nmJ7 : ∀ a, a < 0 → ∀ b, b < 0 → a ≠ b → (TJ7 a).2.1 ≠ (TJ7 b).2.1 := by decide +kernel
theorem tyJ7_ok : ∀ k, k < 0 → parseFieldDescriptor (TJ7 k).2.2.1 = some (tyJ7 k) := by decide +kernel
abbrev cJ7_fill_53178 : ByteArray := prog_12_method_103_code
def yJ7_fill_53178 : MethodName := ⟨RJ7, "fill", "([II)V"⟩
def RL : String := "FenceHandshakesLaw"
abbrev cL_cell : ByteArray := method_2_code
def yL_cell : MethodName := ⟨RL, "cell", "([II)I"⟩
abbrev cL_low : ByteArray := method_3_code
def yL_low : MethodName := ⟨RL, "low", "(II)I"⟩
abbrev cL_told : ByteArray := method_4_code
def yL_told : MethodName := ⟨RL, "told", "(LFenceHandshakes;)J"⟩
abbrev cL_act : ByteArray := method_5_code
def yL_act : MethodName := ⟨RL, "act", "(LFenceHandshakes;II)I"⟩
abbrev cL_ones : ByteArray := method_6_code
def yL_ones : MethodName := ⟨RL, "ones", "(I)I"⟩
abbrev cL_holds : ByteArray := method_7_code
def yL_holds : MethodName := ⟨RL, "holds", "(LFenceHandshakes;)Z"⟩
abbrev cL_isRound : ByteArray := method_8_code
def yL_isRound : MethodName := ⟨RL, "isRound", "(LFenceHandshakes;II)Z"⟩
abbrev cL_law : ByteArray := code
def yL_law : MethodName := ⟨RL, "law", "([I)Z"⟩
def wsX0_init : List Cond := .code yX0_init cX0_init 2 none :: ([.methodLink RX0 5 objectInit, .instanceMethod objectInit, .code objectInit ⟨#[0xb1]⟩ 1 none, .arrayClass .int, .fieldLink RX0 11 "FenceHandshakes$Clans" "cells" "[I"] ++ wsX00)
def wsX0_copyFrom : List Cond := .code yX0_copyFrom cX0_copyFrom 2 none :: ([.fieldLink RX0 11 "FenceHandshakes$Clans" "cells" "[I", .methodLink RX0 15 arraycopyName, .native arraycopyName, .static arraycopyName, .initialized "java/lang/System"] ++ wsX00)
def wsX5_hasBit : List Cond := .code yX5_hasBit cX5_hasBit 2 (some .boolean) :: ([])
def wsX0_hasWish : List Cond := .code yX0_hasWish cX0_hasWish 3 (some .boolean) :: ([.fieldLink RX0 11 "FenceHandshakes$Clans" "cells" "[I", .static yX5_hasBit, .initialized RX5, .code yX5_hasBit cX5_hasBit 2 (some .boolean)] ++ wsX00)
def wsX0_openWishes : List Cond := .code yX0_openWishes cX0_openWishes 3 none :: ([.fieldLink RX0 11 "FenceHandshakes$Clans" "cells" "[I"] ++ wsX00)
def wsX0_openWish : List Cond := .code yX0_openWish cX0_openWish 3 none :: ([.methodLink RX0 25 yX0_openWishes, .instanceMethod yX0_openWishes, .selects RX0 yX0_openWishes yX0_openWishes, .initialized RX0, .code yX0_openWishes cX0_openWishes 3 none, .fieldLink RX0 11 "FenceHandshakes$Clans" "cells" "[I"] ++ wsX00)
def wsX0_closeWish : List Cond := .code yX0_closeWish cX0_closeWish 3 none :: ([.fieldLink RX0 11 "FenceHandshakes$Clans" "cells" "[I"] ++ wsX00)
def wsX0_feudOf : List Cond := .code yX0_feudOf cX0_feudOf 3 (some .int) :: ([.fieldLink RX0 11 "FenceHandshakes$Clans" "cells" "[I"] ++ wsX00)
def wsX0_setFeud : List Cond := .code yX0_setFeud cX0_setFeud 4 none :: ([.fieldLink RX0 11 "FenceHandshakes$Clans" "cells" "[I"] ++ wsX00)
def wsX0_handshakesOf : List Cond := .code yX0_handshakesOf cX0_handshakesOf 3 (some .int) :: ([.fieldLink RX0 11 "FenceHandshakes$Clans" "cells" "[I"] ++ wsX00)
def wsX0_areLinked : List Cond := .code yX0_areLinked cX0_areLinked 3 (some .boolean) :: ([.fieldLink RX0 11 "FenceHandshakes$Clans" "cells" "[I", .static yX5_hasBit, .initialized RX5, .code yX5_hasBit cX5_hasBit 2 (some .boolean)] ++ wsX00)
def wsX0_setLinked : List Cond := .code yX0_setLinked cX0_setLinked 5 none :: ([.fieldLink RX0 11 "FenceHandshakes$Clans" "cells" "[I"] ++ wsX00)
def wsJ6_bitCount_0f7a4 : List Cond := .code yJ6_bitCount_0f7a4 cJ6_bitCount_0f7a4 1 (some .int) :: ([.constant RJ6 265 (1431655765), .constant RJ6 266 (858993459), .constant RJ6 267 (252645135)])
def wsX0_linkedPairsOfGates : List Cond := .code yX0_linkedPairsOfGates cX0_linkedPairsOfGates 1 (some .int) :: ([.fieldLink RX0 11 "FenceHandshakes$Clans" "cells" "[I", .methodLink RX0 29 yJ6_bitCount_0f7a4, .static yJ6_bitCount_0f7a4, .initialized RJ6, .code yJ6_bitCount_0f7a4 cJ6_bitCount_0f7a4 1 (some .int), .constant RJ6 265 (1431655765), .constant RJ6 266 (858993459), .constant RJ6 267 (252645135)] ++ wsX00)
def wsX0_gateOf : List Cond := .code yX0_gateOf cX0_gateOf 3 (some .int) :: ([.fieldLink RX0 11 "FenceHandshakes$Clans" "cells" "[I"] ++ wsX00)
def wsX0_setGate : List Cond := .code yX0_setGate cX0_setGate 4 none :: ([.fieldLink RX0 11 "FenceHandshakes$Clans" "cells" "[I"] ++ wsX00)
def wsX0_areAtLinkedGates : List Cond := .code yX0_areAtLinkedGates cX0_areAtLinkedGates 4 (some .boolean) :: ([.fieldLink RX0 11 "FenceHandshakes$Clans" "cells" "[I"] ++ wsX00)
def wsX0_canMeet : List Cond := .code yX0_canMeet cX0_canMeet 3 (some .boolean) :: ([.methodLink RX0 35 yX0_feudOf, .instanceMethod yX0_feudOf, .selects RX0 yX0_feudOf yX0_feudOf, .initialized RX0, .code yX0_feudOf cX0_feudOf 3 (some .int), .fieldLink RX0 11 "FenceHandshakes$Clans" "cells" "[I", .methodLink RX0 39 yX0_areAtLinkedGates, .instanceMethod yX0_areAtLinkedGates, .selects RX0 yX0_areAtLinkedGates yX0_areAtLinkedGates, .code yX0_areAtLinkedGates cX0_areAtLinkedGates 4 (some .boolean)] ++ wsX00)
def wsX0_isPossible : List Cond := .code yX0_isPossible cX0_isPossible 3 (some .boolean) :: ([.methodLink RX0 42 yX0_hasWish, .instanceMethod yX0_hasWish, .selects RX0 yX0_hasWish yX0_hasWish, .initialized RX0, .code yX0_hasWish cX0_hasWish 3 (some .boolean), .fieldLink RX0 11 "FenceHandshakes$Clans" "cells" "[I", .static yX5_hasBit, .initialized RX5, .code yX5_hasBit cX5_hasBit 2 (some .boolean), .methodLink RX0 45 yX0_canMeet, .instanceMethod yX0_canMeet, .selects RX0 yX0_canMeet yX0_canMeet, .code yX0_canMeet cX0_canMeet 3 (some .boolean), .methodLink RX0 35 yX0_feudOf, .instanceMethod yX0_feudOf, .selects RX0 yX0_feudOf yX0_feudOf, .code yX0_feudOf cX0_feudOf 3 (some .int), .methodLink RX0 39 yX0_areAtLinkedGates, .instanceMethod yX0_areAtLinkedGates, .selects RX0 yX0_areAtLinkedGates yX0_areAtLinkedGates, .code yX0_areAtLinkedGates cX0_areAtLinkedGates 4 (some .boolean)] ++ wsX00)
def wsX0_peopleToMeet : List Cond := .code yX0_peopleToMeet cX0_peopleToMeet 5 (some .int) :: ([.methodLink RX0 45 yX0_canMeet, .instanceMethod yX0_canMeet, .selects RX0 yX0_canMeet yX0_canMeet, .initialized RX0, .code yX0_canMeet cX0_canMeet 3 (some .boolean), .methodLink RX0 35 yX0_feudOf, .instanceMethod yX0_feudOf, .selects RX0 yX0_feudOf yX0_feudOf, .code yX0_feudOf cX0_feudOf 3 (some .int), .fieldLink RX0 11 "FenceHandshakes$Clans" "cells" "[I", .methodLink RX0 39 yX0_areAtLinkedGates, .instanceMethod yX0_areAtLinkedGates, .selects RX0 yX0_areAtLinkedGates yX0_areAtLinkedGates, .code yX0_areAtLinkedGates cX0_areAtLinkedGates 4 (some .boolean)] ++ wsX00)
def wsX0_hasWishOverUnlinkedGates : List Cond := .code yX0_hasWishOverUnlinkedGates cX0_hasWishOverUnlinkedGates 3 (some .boolean) :: ([.methodLink RX0 42 yX0_hasWish, .instanceMethod yX0_hasWish, .selects RX0 yX0_hasWish yX0_hasWish, .initialized RX0, .code yX0_hasWish cX0_hasWish 3 (some .boolean), .fieldLink RX0 11 "FenceHandshakes$Clans" "cells" "[I", .static yX5_hasBit, .initialized RX5, .code yX5_hasBit cX5_hasBit 2 (some .boolean), .methodLink RX0 39 yX0_areAtLinkedGates, .instanceMethod yX0_areAtLinkedGates, .selects RX0 yX0_areAtLinkedGates yX0_areAtLinkedGates, .code yX0_areAtLinkedGates cX0_areAtLinkedGates 4 (some .boolean)] ++ wsX00)
def wsX5_asNumber : List Cond := .code yX5_asNumber cX5_asNumber 1 (some .int) :: ([])
def wsX0_amountOfPair_r1 : List Cond := [Cond.methodLink RX0 42 yX0_hasWish, Cond.instanceMethod yX0_hasWish, Cond.selects RX0 yX0_hasWish yX0_hasWish, Cond.initialized RX0, Cond.code yX0_hasWish cX0_hasWish 3 (some .boolean), Cond.fieldLink RX0 11 "FenceHandshakes$Clans" "cells" "[I", Cond.static yX5_hasBit, Cond.initialized RX5, Cond.code yX5_hasBit cX5_hasBit 2 (some .boolean), Cond.static yX5_asNumber, Cond.code yX5_asNumber cX5_asNumber 1 (some .int), Cond.methodLink RX0 52 yX0_isPossible, Cond.instanceMethod yX0_isPossible, Cond.selects RX0 yX0_isPossible yX0_isPossible, Cond.code yX0_isPossible cX0_isPossible 3 (some .boolean), Cond.methodLink RX0 45 yX0_canMeet, Cond.instanceMethod yX0_canMeet, Cond.selects RX0 yX0_canMeet yX0_canMeet, Cond.code yX0_canMeet cX0_canMeet 3 (some .boolean), Cond.methodLink RX0 35 yX0_feudOf, Cond.instanceMethod yX0_feudOf, Cond.selects RX0 yX0_feudOf yX0_feudOf, Cond.code yX0_feudOf cX0_feudOf 3 (some .int), Cond.methodLink RX0 39 yX0_areAtLinkedGates]
def wsX0_amountOfPair_r2 : List Cond := [Cond.instanceMethod yX0_areAtLinkedGates, Cond.selects RX0 yX0_areAtLinkedGates yX0_areAtLinkedGates, Cond.code yX0_areAtLinkedGates cX0_areAtLinkedGates 4 (some .boolean), Cond.methodLink RX0 55 yX0_handshakesOf, Cond.instanceMethod yX0_handshakesOf, Cond.selects RX0 yX0_handshakesOf yX0_handshakesOf, Cond.code yX0_handshakesOf cX0_handshakesOf 3 (some .int)]
def wsX0_amountOfPair : List Cond := .code yX0_amountOfPair cX0_amountOfPair 4 (some .int) :: ((wsX0_amountOfPair_r1 ++ wsX0_amountOfPair_r2) ++ wsX00)
def wsX0_amountOfPerson_r1 : List Cond := [Cond.methodLink RX0 58 yX0_amountOfPair, Cond.instanceMethod yX0_amountOfPair, Cond.selects RX0 yX0_amountOfPair yX0_amountOfPair, Cond.initialized RX0, Cond.code yX0_amountOfPair cX0_amountOfPair 4 (some .int), Cond.methodLink RX0 42 yX0_hasWish, Cond.instanceMethod yX0_hasWish, Cond.selects RX0 yX0_hasWish yX0_hasWish, Cond.code yX0_hasWish cX0_hasWish 3 (some .boolean), Cond.fieldLink RX0 11 "FenceHandshakes$Clans" "cells" "[I", Cond.static yX5_hasBit, Cond.initialized RX5, Cond.code yX5_hasBit cX5_hasBit 2 (some .boolean), Cond.static yX5_asNumber, Cond.code yX5_asNumber cX5_asNumber 1 (some .int), Cond.methodLink RX0 52 yX0_isPossible, Cond.instanceMethod yX0_isPossible, Cond.selects RX0 yX0_isPossible yX0_isPossible, Cond.code yX0_isPossible cX0_isPossible 3 (some .boolean), Cond.methodLink RX0 45 yX0_canMeet, Cond.instanceMethod yX0_canMeet, Cond.selects RX0 yX0_canMeet yX0_canMeet, Cond.code yX0_canMeet cX0_canMeet 3 (some .boolean), Cond.methodLink RX0 35 yX0_feudOf]
def wsX0_amountOfPerson_r2 : List Cond := [Cond.instanceMethod yX0_feudOf, Cond.selects RX0 yX0_feudOf yX0_feudOf, Cond.code yX0_feudOf cX0_feudOf 3 (some .int), Cond.methodLink RX0 39 yX0_areAtLinkedGates, Cond.instanceMethod yX0_areAtLinkedGates, Cond.selects RX0 yX0_areAtLinkedGates yX0_areAtLinkedGates, Cond.code yX0_areAtLinkedGates cX0_areAtLinkedGates 4 (some .boolean), Cond.methodLink RX0 55 yX0_handshakesOf, Cond.instanceMethod yX0_handshakesOf, Cond.selects RX0 yX0_handshakesOf yX0_handshakesOf, Cond.code yX0_handshakesOf cX0_handshakesOf 3 (some .int)]
def wsX0_amountOfPerson : List Cond := .code yX0_amountOfPerson cX0_amountOfPerson 6 (some .int) :: ((wsX0_amountOfPerson_r1 ++ wsX0_amountOfPerson_r2) ++ wsX00)
def wsX0_amountOfAll_r1 : List Cond := [Cond.methodLink RX0 62 yX0_amountOfPerson, Cond.instanceMethod yX0_amountOfPerson, Cond.selects RX0 yX0_amountOfPerson yX0_amountOfPerson, Cond.initialized RX0, Cond.code yX0_amountOfPerson cX0_amountOfPerson 6 (some .int), Cond.methodLink RX0 58 yX0_amountOfPair, Cond.instanceMethod yX0_amountOfPair, Cond.selects RX0 yX0_amountOfPair yX0_amountOfPair, Cond.code yX0_amountOfPair cX0_amountOfPair 4 (some .int), Cond.methodLink RX0 42 yX0_hasWish, Cond.instanceMethod yX0_hasWish, Cond.selects RX0 yX0_hasWish yX0_hasWish, Cond.code yX0_hasWish cX0_hasWish 3 (some .boolean), Cond.fieldLink RX0 11 "FenceHandshakes$Clans" "cells" "[I", Cond.static yX5_hasBit, Cond.initialized RX5, Cond.code yX5_hasBit cX5_hasBit 2 (some .boolean), Cond.static yX5_asNumber, Cond.code yX5_asNumber cX5_asNumber 1 (some .int), Cond.methodLink RX0 52 yX0_isPossible, Cond.instanceMethod yX0_isPossible, Cond.selects RX0 yX0_isPossible yX0_isPossible, Cond.code yX0_isPossible cX0_isPossible 3 (some .boolean), Cond.methodLink RX0 45 yX0_canMeet]
def wsX0_amountOfAll_r2 : List Cond := [Cond.instanceMethod yX0_canMeet, Cond.selects RX0 yX0_canMeet yX0_canMeet, Cond.code yX0_canMeet cX0_canMeet 3 (some .boolean), Cond.methodLink RX0 35 yX0_feudOf, Cond.instanceMethod yX0_feudOf, Cond.selects RX0 yX0_feudOf yX0_feudOf, Cond.code yX0_feudOf cX0_feudOf 3 (some .int), Cond.methodLink RX0 39 yX0_areAtLinkedGates, Cond.instanceMethod yX0_areAtLinkedGates, Cond.selects RX0 yX0_areAtLinkedGates yX0_areAtLinkedGates, Cond.code yX0_areAtLinkedGates cX0_areAtLinkedGates 4 (some .boolean), Cond.methodLink RX0 55 yX0_handshakesOf, Cond.instanceMethod yX0_handshakesOf, Cond.selects RX0 yX0_handshakesOf yX0_handshakesOf, Cond.code yX0_handshakesOf cX0_handshakesOf 3 (some .int)]
def wsX0_amountOfAll : List Cond := .code yX0_amountOfAll cX0_amountOfAll 4 (some .int) :: ((wsX0_amountOfAll_r1 ++ wsX0_amountOfAll_r2) ++ wsX00)
def wsX0_numberOfWishes : List Cond := .code yX0_numberOfWishes cX0_numberOfWishes 3 (some .int) :: ([.fieldLink RX0 11 "FenceHandshakes$Clans" "cells" "[I", .methodLink RX0 29 yJ6_bitCount_0f7a4, .static yJ6_bitCount_0f7a4, .initialized RJ6, .code yJ6_bitCount_0f7a4 cJ6_bitCount_0f7a4 1 (some .int), .constant RJ6 265 (1431655765), .constant RJ6 266 (858993459), .constant RJ6 267 (252645135)] ++ wsX00)
def wsX0_roundsSoFar : List Cond := .code yX0_roundsSoFar cX0_roundsSoFar 1 (some .int) :: ([.fieldLink RX0 11 "FenceHandshakes$Clans" "cells" "[I"] ++ wsX00)
def wsX0_shakeHands : List Cond := .code yX0_shakeHands cX0_shakeHands 3 none :: ([.fieldLink RX0 11 "FenceHandshakes$Clans" "cells" "[I", .methodLink RX0 66 yX0_closeWish, .instanceMethod yX0_closeWish, .selects RX0 yX0_closeWish yX0_closeWish, .initialized RX0, .code yX0_closeWish cX0_closeWish 3 none] ++ wsX00)
def wsX0_endRound : List Cond := .code yX0_endRound cX0_endRound 2 none :: ([.fieldLink RX0 11 "FenceHandshakes$Clans" "cells" "[I"] ++ wsX00)
def wsX1_init : List Cond := .code yX1_init cX1_init 1 none :: ([.methodLink RX1 3 objectInit, .instanceMethod objectInit, .code objectInit ⟨#[0xb1]⟩ 1 none, .arrayClass .int, .fieldLink RX1 11 "FenceHandshakes$History" "rows" "[I"] ++ wsX10)
def wsX1_size : List Cond := .code yX1_size cX1_size 1 (some .int) :: ([.fieldLink RX1 17 "FenceHandshakes$History" "size" "I"] ++ wsX10)
def wsX1_startOfRow : List Cond := .code yX1_startOfRow cX1_startOfRow 2 (some .int) :: ([.fieldLink RX1 21 "FenceHandshakes$History" "oldest" "I"] ++ wsX10)
def wsX1_keep : List Cond := .code yX1_keep cX1_keep 2 none :: ([.fieldLink RX1 17 "FenceHandshakes$History" "size" "I", .fieldLink RX1 21 "FenceHandshakes$History" "oldest" "I", .fieldLink RX1 11 "FenceHandshakes$History" "rows" "[I", .methodLink RX1 31 arraycopyName, .native arraycopyName, .static arraycopyName, .initialized "java/lang/System", .methodLink RX1 27 yX1_startOfRow, .instanceMethod yX1_startOfRow, .selects RX1 yX1_startOfRow yX1_startOfRow, .initialized RX1, .code yX1_startOfRow cX1_startOfRow 2 (some .int)] ++ wsX10 ++ wsX00)
def wsX1_takeLatest : List Cond := .code yX1_takeLatest cX1_takeLatest 2 none :: ([.fieldLink RX1 17 "FenceHandshakes$History" "size" "I", .fieldLink RX1 11 "FenceHandshakes$History" "rows" "[I", .methodLink RX1 31 arraycopyName, .native arraycopyName, .static arraycopyName, .initialized "java/lang/System", .methodLink RX1 27 yX1_startOfRow, .instanceMethod yX1_startOfRow, .selects RX1 yX1_startOfRow yX1_startOfRow, .initialized RX1, .code yX1_startOfRow cX1_startOfRow 2 (some .int), .fieldLink RX1 21 "FenceHandshakes$History" "oldest" "I"] ++ wsX10 ++ wsX00)
def wsX2_init : List Cond := .code yX2_init cX2_init 1 none :: ([.methodLink RX2 3 objectInit, .instanceMethod objectInit, .code objectInit ⟨#[0xb1]⟩ 1 none, .arrayClass .int, .fieldLink RX2 9 "FenceHandshakes$Matching" "wished" "[I", .fieldLink RX2 15 "FenceHandshakes$Matching" "ofLeft" "[I", .fieldLink RX2 18 "FenceHandshakes$Matching" "ofRight" "[I", .fieldLink RX2 21 "FenceHandshakes$Matching" "seenFrom" "[I"] ++ wsX20)
def wsX2_partnerOf : List Cond := .code yX2_partnerOf cX2_partnerOf 3 (some .int) :: ([.fieldLink RX2 15 "FenceHandshakes$Matching" "ofLeft" "[I", .fieldLink RX2 18 "FenceHandshakes$Matching" "ofRight" "[I"] ++ wsX20)
def wsX2_size : List Cond := .code yX2_size cX2_size 3 (some .int) :: ([.fieldLink RX2 15 "FenceHandshakes$Matching" "ofLeft" "[I", .static yX5_asNumber, .initialized RX5, .code yX5_asNumber cX5_asNumber 1 (some .int)] ++ wsX20)
def wsJ7_fill_53178 : List Cond := .code yJ7_fill_53178 cJ7_fill_53178 4 none :: ([])
def wsX2_leftsWithoutPartner : List Cond := .code yX2_leftsWithoutPartner cX2_leftsWithoutPartner 4 (some .int) :: ([.fieldLink RX2 15 "FenceHandshakes$Matching" "ofLeft" "[I"] ++ wsX20)
def wsX2_findFreeRight : List Cond := .code yX2_findFreeRight cX2_findFreeRight 8 (some .int) :: ([.fieldLink RX2 62 "FenceHandshakes$Matching" "reachedLefts" "I", .fieldLink RX2 9 "FenceHandshakes$Matching" "wished" "[I", .fieldLink RX2 21 "FenceHandshakes$Matching" "seenFrom" "[I", .fieldLink RX2 18 "FenceHandshakes$Matching" "ofRight" "[I", .methodLink RX2 70 yX2_leftsWithoutPartner, .instanceMethod yX2_leftsWithoutPartner, .selects RX2 yX2_leftsWithoutPartner yX2_leftsWithoutPartner, .initialized RX2, .code yX2_leftsWithoutPartner cX2_leftsWithoutPartner 4 (some .int), .fieldLink RX2 15 "FenceHandshakes$Matching" "ofLeft" "[I", .static yX5_hasBit, .initialized RX5, .code yX5_hasBit cX5_hasBit 2 (some .boolean)] ++ wsX20)
def wsX5_isPerson : List Cond := .code yX5_isPerson cX5_isPerson 1 (some .boolean) :: ([])
def wsX2_join : List Cond := .code yX2_join cX2_join 3 none :: ([.fieldLink RX2 15 "FenceHandshakes$Matching" "ofLeft" "[I", .fieldLink RX2 18 "FenceHandshakes$Matching" "ofRight" "[I"] ++ wsX20)
def wsX2_growsByOne : List Cond := .code yX2_growsByOne cX2_growsByOne 7 (some .boolean) :: ([.fieldLink RX2 21 "FenceHandshakes$Matching" "seenFrom" "[I", .fieldLink RX2 15 "FenceHandshakes$Matching" "ofLeft" "[I", .methodLink RX2 58 yX2_findFreeRight, .instanceMethod yX2_findFreeRight, .selects RX2 yX2_findFreeRight yX2_findFreeRight, .initialized RX2, .code yX2_findFreeRight cX2_findFreeRight 8 (some .int), .fieldLink RX2 62 "FenceHandshakes$Matching" "reachedLefts" "I", .fieldLink RX2 9 "FenceHandshakes$Matching" "wished" "[I", .fieldLink RX2 18 "FenceHandshakes$Matching" "ofRight" "[I", .methodLink RX2 70 yX2_leftsWithoutPartner, .instanceMethod yX2_leftsWithoutPartner, .selects RX2 yX2_leftsWithoutPartner yX2_leftsWithoutPartner, .code yX2_leftsWithoutPartner cX2_leftsWithoutPartner 4 (some .int), .static yX5_hasBit, .initialized RX5, .code yX5_hasBit cX5_hasBit 2 (some .boolean), .static yX5_isPerson, .code yX5_isPerson cX5_isPerson 1 (some .boolean), .methodLink RX2 66 yX2_join, .instanceMethod yX2_join, .selects RX2 yX2_join yX2_join, .code yX2_join cX2_join 3 none] ++ wsX20)
def wsX2_takeGreatest_r1 : List Cond := [Cond.fieldLink RX2 9 "FenceHandshakes$Matching" "wished" "[I", Cond.fieldLink RX2 15 "FenceHandshakes$Matching" "ofLeft" "[I", Cond.fieldLink RX2 18 "FenceHandshakes$Matching" "ofRight" "[I", Cond.methodLink RX2 28 yJ7_fill_53178, Cond.static yJ7_fill_53178, Cond.initialized RJ7, Cond.code yJ7_fill_53178 cJ7_fill_53178 4 none, Cond.methodLink RX2 34 yX0_isPossible, Cond.instanceMethod yX0_isPossible, Cond.selects RX0 yX0_isPossible yX0_isPossible, Cond.initialized RX0, Cond.code yX0_isPossible cX0_isPossible 3 (some .boolean), Cond.methodLink RX0 42 yX0_hasWish, Cond.instanceMethod yX0_hasWish, Cond.selects RX0 yX0_hasWish yX0_hasWish, Cond.code yX0_hasWish cX0_hasWish 3 (some .boolean), Cond.fieldLink RX0 11 "FenceHandshakes$Clans" "cells" "[I", Cond.static yX5_hasBit, Cond.initialized RX5, Cond.code yX5_hasBit cX5_hasBit 2 (some .boolean), Cond.methodLink RX0 45 yX0_canMeet, Cond.instanceMethod yX0_canMeet, Cond.selects RX0 yX0_canMeet yX0_canMeet, Cond.code yX0_canMeet cX0_canMeet 3 (some .boolean)]
def wsX2_takeGreatest_r2 : List Cond := [Cond.methodLink RX0 35 yX0_feudOf, Cond.instanceMethod yX0_feudOf, Cond.selects RX0 yX0_feudOf yX0_feudOf, Cond.code yX0_feudOf cX0_feudOf 3 (some .int), Cond.methodLink RX0 39 yX0_areAtLinkedGates, Cond.instanceMethod yX0_areAtLinkedGates, Cond.selects RX0 yX0_areAtLinkedGates yX0_areAtLinkedGates, Cond.code yX0_areAtLinkedGates cX0_areAtLinkedGates 4 (some .boolean), Cond.methodLink RX2 40 yX2_growsByOne, Cond.instanceMethod yX2_growsByOne, Cond.selects RX2 yX2_growsByOne yX2_growsByOne, Cond.initialized RX2, Cond.code yX2_growsByOne cX2_growsByOne 7 (some .boolean), Cond.fieldLink RX2 21 "FenceHandshakes$Matching" "seenFrom" "[I", Cond.methodLink RX2 58 yX2_findFreeRight, Cond.instanceMethod yX2_findFreeRight, Cond.selects RX2 yX2_findFreeRight yX2_findFreeRight, Cond.code yX2_findFreeRight cX2_findFreeRight 8 (some .int), Cond.fieldLink RX2 62 "FenceHandshakes$Matching" "reachedLefts" "I", Cond.methodLink RX2 70 yX2_leftsWithoutPartner, Cond.instanceMethod yX2_leftsWithoutPartner, Cond.selects RX2 yX2_leftsWithoutPartner yX2_leftsWithoutPartner, Cond.code yX2_leftsWithoutPartner cX2_leftsWithoutPartner 4 (some .int), Cond.static yX5_isPerson]
def wsX2_takeGreatest_r3 : List Cond := [Cond.code yX5_isPerson cX5_isPerson 1 (some .boolean), Cond.methodLink RX2 66 yX2_join, Cond.instanceMethod yX2_join, Cond.selects RX2 yX2_join yX2_join, Cond.code yX2_join cX2_join 3 none]
def wsX2_takeGreatest : List Cond := .code yX2_takeGreatest cX2_takeGreatest 4 none :: ((wsX2_takeGreatest_r1 ++ (wsX2_takeGreatest_r2 ++ wsX2_takeGreatest_r3)) ++ wsX20 ++ wsX00)
def wsX2_canTake_r1 : List Cond := [Cond.fieldLink RX2 15 "FenceHandshakes$Matching" "ofLeft" "[I", Cond.fieldLink RX2 18 "FenceHandshakes$Matching" "ofRight" "[I", Cond.static yX5_isPerson, Cond.initialized RX5, Cond.code yX5_isPerson cX5_isPerson 1 (some .boolean), Cond.methodLink RX2 66 yX2_join, Cond.instanceMethod yX2_join, Cond.selects RX2 yX2_join yX2_join, Cond.initialized RX2, Cond.code yX2_join cX2_join 3 none, Cond.methodLink RX2 40 yX2_growsByOne, Cond.instanceMethod yX2_growsByOne, Cond.selects RX2 yX2_growsByOne yX2_growsByOne, Cond.code yX2_growsByOne cX2_growsByOne 7 (some .boolean), Cond.fieldLink RX2 21 "FenceHandshakes$Matching" "seenFrom" "[I", Cond.methodLink RX2 58 yX2_findFreeRight, Cond.instanceMethod yX2_findFreeRight, Cond.selects RX2 yX2_findFreeRight yX2_findFreeRight, Cond.code yX2_findFreeRight cX2_findFreeRight 8 (some .int), Cond.fieldLink RX2 62 "FenceHandshakes$Matching" "reachedLefts" "I", Cond.fieldLink RX2 9 "FenceHandshakes$Matching" "wished" "[I", Cond.methodLink RX2 70 yX2_leftsWithoutPartner, Cond.instanceMethod yX2_leftsWithoutPartner, Cond.selects RX2 yX2_leftsWithoutPartner yX2_leftsWithoutPartner]
def wsX2_canTake_r2 : List Cond := [Cond.code yX2_leftsWithoutPartner cX2_leftsWithoutPartner 4 (some .int), Cond.static yX5_hasBit, Cond.code yX5_hasBit cX5_hasBit 2 (some .boolean)]
def wsX2_canTake : List Cond := .code yX2_canTake cX2_canTake 6 (some .boolean) :: ((wsX2_canTake_r1 ++ wsX2_canTake_r2) ++ wsX20)
def wsX2_takeFirst_r1 : List Cond := [Cond.fieldLink RX2 15 "FenceHandshakes$Matching" "ofLeft" "[I", Cond.fieldLink RX2 9 "FenceHandshakes$Matching" "wished" "[I", Cond.methodLink RX2 43 yX2_takeGreatest, Cond.instanceMethod yX2_takeGreatest, Cond.selects RX2 yX2_takeGreatest yX2_takeGreatest, Cond.initialized RX2, Cond.code yX2_takeGreatest cX2_takeGreatest 4 none, Cond.fieldLink RX2 18 "FenceHandshakes$Matching" "ofRight" "[I", Cond.methodLink RX2 28 yJ7_fill_53178, Cond.static yJ7_fill_53178, Cond.initialized RJ7, Cond.code yJ7_fill_53178 cJ7_fill_53178 4 none, Cond.methodLink RX2 34 yX0_isPossible, Cond.instanceMethod yX0_isPossible, Cond.selects RX0 yX0_isPossible yX0_isPossible, Cond.initialized RX0, Cond.code yX0_isPossible cX0_isPossible 3 (some .boolean), Cond.methodLink RX0 42 yX0_hasWish, Cond.instanceMethod yX0_hasWish, Cond.selects RX0 yX0_hasWish yX0_hasWish, Cond.code yX0_hasWish cX0_hasWish 3 (some .boolean), Cond.fieldLink RX0 11 "FenceHandshakes$Clans" "cells" "[I", Cond.static yX5_hasBit, Cond.initialized RX5]
def wsX2_takeFirst_r2 : List Cond := [Cond.code yX5_hasBit cX5_hasBit 2 (some .boolean), Cond.methodLink RX0 45 yX0_canMeet, Cond.instanceMethod yX0_canMeet, Cond.selects RX0 yX0_canMeet yX0_canMeet, Cond.code yX0_canMeet cX0_canMeet 3 (some .boolean), Cond.methodLink RX0 35 yX0_feudOf, Cond.instanceMethod yX0_feudOf, Cond.selects RX0 yX0_feudOf yX0_feudOf, Cond.code yX0_feudOf cX0_feudOf 3 (some .int), Cond.methodLink RX0 39 yX0_areAtLinkedGates, Cond.instanceMethod yX0_areAtLinkedGates, Cond.selects RX0 yX0_areAtLinkedGates yX0_areAtLinkedGates, Cond.code yX0_areAtLinkedGates cX0_areAtLinkedGates 4 (some .boolean), Cond.methodLink RX2 40 yX2_growsByOne, Cond.instanceMethod yX2_growsByOne, Cond.selects RX2 yX2_growsByOne yX2_growsByOne, Cond.code yX2_growsByOne cX2_growsByOne 7 (some .boolean), Cond.fieldLink RX2 21 "FenceHandshakes$Matching" "seenFrom" "[I", Cond.methodLink RX2 58 yX2_findFreeRight, Cond.instanceMethod yX2_findFreeRight, Cond.selects RX2 yX2_findFreeRight yX2_findFreeRight, Cond.code yX2_findFreeRight cX2_findFreeRight 8 (some .int), Cond.fieldLink RX2 62 "FenceHandshakes$Matching" "reachedLefts" "I", Cond.methodLink RX2 70 yX2_leftsWithoutPartner]
def wsX2_takeFirst_r3 : List Cond := [Cond.instanceMethod yX2_leftsWithoutPartner, Cond.selects RX2 yX2_leftsWithoutPartner yX2_leftsWithoutPartner, Cond.code yX2_leftsWithoutPartner cX2_leftsWithoutPartner 4 (some .int), Cond.static yX5_isPerson, Cond.code yX5_isPerson cX5_isPerson 1 (some .boolean), Cond.methodLink RX2 66 yX2_join, Cond.instanceMethod yX2_join, Cond.selects RX2 yX2_join yX2_join, Cond.code yX2_join cX2_join 3 none, Cond.methodLink RX2 50 yX2_canTake, Cond.instanceMethod yX2_canTake, Cond.selects RX2 yX2_canTake yX2_canTake, Cond.code yX2_canTake cX2_canTake 6 (some .boolean)]
def wsX2_takeFirst : List Cond := .code yX2_takeFirst cX2_takeFirst 6 none :: ((wsX2_takeFirst_r1 ++ (wsX2_takeFirst_r2 ++ wsX2_takeFirst_r3)) ++ wsX20 ++ wsX00)
def wsX2_leftsWhoMayBeLeftOut : List Cond := .code yX2_leftsWhoMayBeLeftOut cX2_leftsWhoMayBeLeftOut 3 (some .int) :: ([.fieldLink RX2 62 "FenceHandshakes$Matching" "reachedLefts" "I", .fieldLink RX2 9 "FenceHandshakes$Matching" "wished" "[I", .methodLink RX2 58 yX2_findFreeRight, .instanceMethod yX2_findFreeRight, .selects RX2 yX2_findFreeRight yX2_findFreeRight, .initialized RX2, .code yX2_findFreeRight cX2_findFreeRight 8 (some .int), .fieldLink RX2 21 "FenceHandshakes$Matching" "seenFrom" "[I", .fieldLink RX2 18 "FenceHandshakes$Matching" "ofRight" "[I", .methodLink RX2 70 yX2_leftsWithoutPartner, .instanceMethod yX2_leftsWithoutPartner, .selects RX2 yX2_leftsWithoutPartner yX2_leftsWithoutPartner, .code yX2_leftsWithoutPartner cX2_leftsWithoutPartner 4 (some .int), .fieldLink RX2 15 "FenceHandshakes$Matching" "ofLeft" "[I", .static yX5_hasBit, .initialized RX5, .code yX5_hasBit cX5_hasBit 2 (some .boolean)] ++ wsX20)
def wsX3_init : List Cond := .code yX3_init cX3_init 1 none :: ([.methodLink RX3 3 objectInit, .instanceMethod objectInit, .code objectInit ⟨#[0xb1]⟩ 1 none, .arrayClass .int, .fieldLink RX3 9 "FenceHandshakes$Plan" "numbers" "[I"] ++ wsX30)
def wsX4_init : List Cond := .code yX4_init cX4_init 1 none :: ([.methodLink RX4 3 objectInit, .instanceMethod objectInit, .code objectInit ⟨#[0xb1]⟩ 1 none, .arrayClass .char, .fieldLink RX4 9 "FenceHandshakes$WishText" "signs" "[C", .arrayClass .int, .fieldLink RX4 15 "FenceHandshakes$WishText" "rows" "[I"] ++ wsX40)
def wsX4_length : List Cond := .code yX4_length cX4_length 1 (some .int) :: ([.fieldLink RX4 19 "FenceHandshakes$WishText" "length" "I"] ++ wsX40)
def wsX5_init_r1 : List Cond := [Cond.methodLink RX5 3 objectInit, Cond.instanceMethod objectInit, Cond.code objectInit ⟨#[0xb1]⟩ 1 none, Cond.classLink RX5 9 RX0, Cond.instantiable RX0 1, Cond.initialized RX0, Cond.fieldLink RX5 12 "FenceHandshakes" "now" "LFenceHandshakes$Clans;", Cond.fieldLink RX5 16 "FenceHandshakes" "trial" "LFenceHandshakes$Clans;", Cond.fieldLink RX5 19 "FenceHandshakes" "snapshot" "LFenceHandshakes$Clans;", Cond.classLink RX5 22 RX1, Cond.instantiable RX1 3, Cond.initialized RX1, Cond.fieldLink RX5 25 "FenceHandshakes" "history" "LFenceHandshakes$History;", Cond.classLink RX5 29 RX4, Cond.instantiable RX4 6, Cond.initialized RX4, Cond.fieldLink RX5 32 "FenceHandshakes" "text" "LFenceHandshakes$WishText;", Cond.classLink RX5 36 RX2, Cond.instantiable RX2 5, Cond.initialized RX2, Cond.fieldLink RX5 39 "FenceHandshakes" "matching" "LFenceHandshakes$Matching;", Cond.classLink RX5 43 RX3, Cond.instantiable RX3 1, Cond.initialized RX3]
def wsX5_init_r2 : List Cond := [Cond.fieldLink RX5 46 "FenceHandshakes" "plan" "LFenceHandshakes$Plan;", Cond.fieldLink RX5 50 "FenceHandshakes" "hasSnapshot" "Z", Cond.methodLink RX5 11 yX0_init, Cond.instanceMethod yX0_init, Cond.code yX0_init cX0_init 2 none, Cond.methodLink RX0 5 objectInit, Cond.arrayClass .int, Cond.fieldLink RX0 11 "FenceHandshakes$Clans" "cells" "[I", Cond.instanceMethod yX1_init, Cond.code yX1_init cX1_init 1 none, Cond.methodLink RX1 3 objectInit, Cond.fieldLink RX1 11 "FenceHandshakes$History" "rows" "[I", Cond.instanceMethod yX4_init, Cond.code yX4_init cX4_init 1 none, Cond.methodLink RX4 3 objectInit, Cond.arrayClass .char, Cond.fieldLink RX4 9 "FenceHandshakes$WishText" "signs" "[C", Cond.fieldLink RX4 15 "FenceHandshakes$WishText" "rows" "[I", Cond.instanceMethod yX2_init, Cond.code yX2_init cX2_init 1 none, Cond.methodLink RX2 3 objectInit, Cond.fieldLink RX2 9 "FenceHandshakes$Matching" "wished" "[I", Cond.fieldLink RX2 15 "FenceHandshakes$Matching" "ofLeft" "[I", Cond.fieldLink RX2 18 "FenceHandshakes$Matching" "ofRight" "[I"]
def wsX5_init_r3 : List Cond := [Cond.fieldLink RX2 21 "FenceHandshakes$Matching" "seenFrom" "[I", Cond.instanceMethod yX3_init, Cond.code yX3_init cX3_init 1 none, Cond.methodLink RX3 3 objectInit, Cond.fieldLink RX3 9 "FenceHandshakes$Plan" "numbers" "[I"]
def wsX5_init : List Cond := .code yX5_init cX5_init 1 none :: ((wsX5_init_r1 ++ (wsX5_init_r2 ++ wsX5_init_r3)) ++ wsX00 ++ wsX50 ++ wsX10 ++ wsX40 ++ wsX20 ++ wsX30)
def wsX5_arePeople : List Cond := .code yX5_arePeople cX5_arePeople 2 (some .boolean) :: ([.methodLink RX5 99 yX5_isPerson, .static yX5_isPerson, .initialized RX5, .code yX5_isPerson cX5_isPerson 1 (some .boolean)])
def wsX5_wish_r1 : List Cond := [Cond.fieldLink RX5 12 "FenceHandshakes" "now" "LFenceHandshakes$Clans;", Cond.fieldLink RX5 25 "FenceHandshakes" "history" "LFenceHandshakes$History;", Cond.methodLink RX5 54 yX5_arePeople, Cond.static yX5_arePeople, Cond.initialized RX5, Cond.code yX5_arePeople cX5_arePeople 2 (some .boolean), Cond.methodLink RX5 99 yX5_isPerson, Cond.static yX5_isPerson, Cond.code yX5_isPerson cX5_isPerson 1 (some .boolean), Cond.methodLink RX5 58 yX0_hasWish, Cond.instanceMethod yX0_hasWish, Cond.selects RX0 yX0_hasWish yX0_hasWish, Cond.initialized RX0, Cond.code yX0_hasWish cX0_hasWish 3 (some .boolean), Cond.fieldLink RX0 11 "FenceHandshakes$Clans" "cells" "[I", Cond.static yX5_hasBit, Cond.code yX5_hasBit cX5_hasBit 2 (some .boolean), Cond.methodLink RX5 61 yX1_keep, Cond.instanceMethod yX1_keep, Cond.selects RX1 yX1_keep yX1_keep, Cond.initialized RX1, Cond.code yX1_keep cX1_keep 2 none, Cond.fieldLink RX1 17 "FenceHandshakes$History" "size" "I", Cond.fieldLink RX1 21 "FenceHandshakes$History" "oldest" "I"]
def wsX5_wish_r2 : List Cond := [Cond.fieldLink RX1 11 "FenceHandshakes$History" "rows" "[I", Cond.methodLink RX1 31 arraycopyName, Cond.native arraycopyName, Cond.static arraycopyName, Cond.initialized "java/lang/System", Cond.methodLink RX1 27 yX1_startOfRow, Cond.instanceMethod yX1_startOfRow, Cond.selects RX1 yX1_startOfRow yX1_startOfRow, Cond.code yX1_startOfRow cX1_startOfRow 2 (some .int), Cond.methodLink RX5 65 yX0_openWish, Cond.instanceMethod yX0_openWish, Cond.selects RX0 yX0_openWish yX0_openWish, Cond.code yX0_openWish cX0_openWish 3 none, Cond.methodLink RX0 25 yX0_openWishes, Cond.instanceMethod yX0_openWishes, Cond.selects RX0 yX0_openWishes yX0_openWishes, Cond.code yX0_openWishes cX0_openWishes 3 none, Cond.methodLink RX5 69 yX0_numberOfWishes, Cond.instanceMethod yX0_numberOfWishes, Cond.selects RX0 yX0_numberOfWishes yX0_numberOfWishes, Cond.code yX0_numberOfWishes cX0_numberOfWishes 3 (some .int), Cond.methodLink RX0 29 yJ6_bitCount_0f7a4, Cond.static yJ6_bitCount_0f7a4, Cond.initialized RJ6]
def wsX5_wish_r3 : List Cond := [Cond.code yJ6_bitCount_0f7a4 cJ6_bitCount_0f7a4 1 (some .int), Cond.constant RJ6 265 (1431655765), Cond.constant RJ6 266 (858993459), Cond.constant RJ6 267 (252645135)]
def wsX5_wish : List Cond := .code yX5_wish cX5_wish 3 (some .int) :: ((wsX5_wish_r1 ++ (wsX5_wish_r2 ++ wsX5_wish_r3)) ++ wsX50 ++ wsX00 ++ wsX10)
def wsX5_withdraw_r1 : List Cond := [Cond.fieldLink RX5 12 "FenceHandshakes" "now" "LFenceHandshakes$Clans;", Cond.fieldLink RX5 25 "FenceHandshakes" "history" "LFenceHandshakes$History;", Cond.methodLink RX5 54 yX5_arePeople, Cond.static yX5_arePeople, Cond.initialized RX5, Cond.code yX5_arePeople cX5_arePeople 2 (some .boolean), Cond.methodLink RX5 99 yX5_isPerson, Cond.static yX5_isPerson, Cond.code yX5_isPerson cX5_isPerson 1 (some .boolean), Cond.methodLink RX5 58 yX0_hasWish, Cond.instanceMethod yX0_hasWish, Cond.selects RX0 yX0_hasWish yX0_hasWish, Cond.initialized RX0, Cond.code yX0_hasWish cX0_hasWish 3 (some .boolean), Cond.fieldLink RX0 11 "FenceHandshakes$Clans" "cells" "[I", Cond.static yX5_hasBit, Cond.code yX5_hasBit cX5_hasBit 2 (some .boolean), Cond.methodLink RX5 61 yX1_keep, Cond.instanceMethod yX1_keep, Cond.selects RX1 yX1_keep yX1_keep, Cond.initialized RX1, Cond.code yX1_keep cX1_keep 2 none, Cond.fieldLink RX1 17 "FenceHandshakes$History" "size" "I", Cond.fieldLink RX1 21 "FenceHandshakes$History" "oldest" "I"]
def wsX5_withdraw_r2 : List Cond := [Cond.fieldLink RX1 11 "FenceHandshakes$History" "rows" "[I", Cond.methodLink RX1 31 arraycopyName, Cond.native arraycopyName, Cond.static arraycopyName, Cond.initialized "java/lang/System", Cond.methodLink RX1 27 yX1_startOfRow, Cond.instanceMethod yX1_startOfRow, Cond.selects RX1 yX1_startOfRow yX1_startOfRow, Cond.code yX1_startOfRow cX1_startOfRow 2 (some .int), Cond.methodLink RX5 73 yX0_closeWish, Cond.instanceMethod yX0_closeWish, Cond.selects RX0 yX0_closeWish yX0_closeWish, Cond.code yX0_closeWish cX0_closeWish 3 none, Cond.methodLink RX5 69 yX0_numberOfWishes, Cond.instanceMethod yX0_numberOfWishes, Cond.selects RX0 yX0_numberOfWishes yX0_numberOfWishes, Cond.code yX0_numberOfWishes cX0_numberOfWishes 3 (some .int), Cond.methodLink RX0 29 yJ6_bitCount_0f7a4, Cond.static yJ6_bitCount_0f7a4, Cond.initialized RJ6, Cond.code yJ6_bitCount_0f7a4 cJ6_bitCount_0f7a4 1 (some .int), Cond.constant RJ6 265 (1431655765), Cond.constant RJ6 266 (858993459), Cond.constant RJ6 267 (252645135)]
def wsX5_withdraw : List Cond := .code yX5_withdraw cX5_withdraw 3 (some .int) :: ((wsX5_withdraw_r1 ++ wsX5_withdraw_r2) ++ wsX50 ++ wsX00 ++ wsX10)
def wsX5_quarrel_r1 : List Cond := [Cond.fieldLink RX5 25 "FenceHandshakes" "history" "LFenceHandshakes$History;", Cond.fieldLink RX5 12 "FenceHandshakes" "now" "LFenceHandshakes$Clans;", Cond.methodLink RX5 54 yX5_arePeople, Cond.static yX5_arePeople, Cond.initialized RX5, Cond.code yX5_arePeople cX5_arePeople 2 (some .boolean), Cond.methodLink RX5 99 yX5_isPerson, Cond.static yX5_isPerson, Cond.code yX5_isPerson cX5_isPerson 1 (some .boolean), Cond.methodLink RX5 61 yX1_keep, Cond.instanceMethod yX1_keep, Cond.selects RX1 yX1_keep yX1_keep, Cond.initialized RX1, Cond.code yX1_keep cX1_keep 2 none, Cond.fieldLink RX1 17 "FenceHandshakes$History" "size" "I", Cond.fieldLink RX1 21 "FenceHandshakes$History" "oldest" "I", Cond.fieldLink RX1 11 "FenceHandshakes$History" "rows" "[I", Cond.methodLink RX1 31 arraycopyName, Cond.native arraycopyName, Cond.static arraycopyName, Cond.initialized "java/lang/System", Cond.methodLink RX1 27 yX1_startOfRow, Cond.instanceMethod yX1_startOfRow, Cond.selects RX1 yX1_startOfRow yX1_startOfRow]
def wsX5_quarrel_r2 : List Cond := [Cond.code yX1_startOfRow cX1_startOfRow 2 (some .int), Cond.methodLink RX5 76 yX0_feudOf, Cond.instanceMethod yX0_feudOf, Cond.selects RX0 yX0_feudOf yX0_feudOf, Cond.initialized RX0, Cond.code yX0_feudOf cX0_feudOf 3 (some .int), Cond.fieldLink RX0 11 "FenceHandshakes$Clans" "cells" "[I", Cond.methodLink RX5 80 yX0_setFeud, Cond.instanceMethod yX0_setFeud, Cond.selects RX0 yX0_setFeud yX0_setFeud, Cond.code yX0_setFeud cX0_setFeud 4 none]
def wsX5_quarrel : List Cond := .code yX5_quarrel cX5_quarrel 5 (some .int) :: ((wsX5_quarrel_r1 ++ wsX5_quarrel_r2) ++ wsX50 ++ wsX10 ++ wsX00)
def wsX5_reconcile_r1 : List Cond := [Cond.fieldLink RX5 12 "FenceHandshakes" "now" "LFenceHandshakes$Clans;", Cond.fieldLink RX5 25 "FenceHandshakes" "history" "LFenceHandshakes$History;", Cond.methodLink RX5 54 yX5_arePeople, Cond.static yX5_arePeople, Cond.initialized RX5, Cond.code yX5_arePeople cX5_arePeople 2 (some .boolean), Cond.methodLink RX5 99 yX5_isPerson, Cond.static yX5_isPerson, Cond.code yX5_isPerson cX5_isPerson 1 (some .boolean), Cond.methodLink RX5 76 yX0_feudOf, Cond.instanceMethod yX0_feudOf, Cond.selects RX0 yX0_feudOf yX0_feudOf, Cond.initialized RX0, Cond.code yX0_feudOf cX0_feudOf 3 (some .int), Cond.fieldLink RX0 11 "FenceHandshakes$Clans" "cells" "[I", Cond.methodLink RX5 61 yX1_keep, Cond.instanceMethod yX1_keep, Cond.selects RX1 yX1_keep yX1_keep, Cond.initialized RX1, Cond.code yX1_keep cX1_keep 2 none, Cond.fieldLink RX1 17 "FenceHandshakes$History" "size" "I", Cond.fieldLink RX1 21 "FenceHandshakes$History" "oldest" "I", Cond.fieldLink RX1 11 "FenceHandshakes$History" "rows" "[I", Cond.methodLink RX1 31 arraycopyName]
def wsX5_reconcile_r2 : List Cond := [Cond.native arraycopyName, Cond.static arraycopyName, Cond.initialized "java/lang/System", Cond.methodLink RX1 27 yX1_startOfRow, Cond.instanceMethod yX1_startOfRow, Cond.selects RX1 yX1_startOfRow yX1_startOfRow, Cond.code yX1_startOfRow cX1_startOfRow 2 (some .int), Cond.methodLink RX5 80 yX0_setFeud, Cond.instanceMethod yX0_setFeud, Cond.selects RX0 yX0_setFeud yX0_setFeud, Cond.code yX0_setFeud cX0_setFeud 4 none]
def wsX5_reconcile : List Cond := .code yX5_reconcile cX5_reconcile 4 (some .int) :: ((wsX5_reconcile_r1 ++ wsX5_reconcile_r2) ++ wsX50 ++ wsX00 ++ wsX10)
def wsX5_isGate : List Cond := .code yX5_isGate cX5_isGate 1 (some .boolean) :: ([])
def wsX5_link_r1 : List Cond := [Cond.fieldLink RX5 25 "FenceHandshakes" "history" "LFenceHandshakes$History;", Cond.fieldLink RX5 12 "FenceHandshakes" "now" "LFenceHandshakes$Clans;", Cond.methodLink RX5 84 yX5_isGate, Cond.static yX5_isGate, Cond.initialized RX5, Cond.code yX5_isGate cX5_isGate 1 (some .boolean), Cond.methodLink RX5 61 yX1_keep, Cond.instanceMethod yX1_keep, Cond.selects RX1 yX1_keep yX1_keep, Cond.initialized RX1, Cond.code yX1_keep cX1_keep 2 none, Cond.fieldLink RX1 17 "FenceHandshakes$History" "size" "I", Cond.fieldLink RX1 21 "FenceHandshakes$History" "oldest" "I", Cond.fieldLink RX1 11 "FenceHandshakes$History" "rows" "[I", Cond.methodLink RX1 31 arraycopyName, Cond.native arraycopyName, Cond.static arraycopyName, Cond.initialized "java/lang/System", Cond.methodLink RX1 27 yX1_startOfRow, Cond.instanceMethod yX1_startOfRow, Cond.selects RX1 yX1_startOfRow yX1_startOfRow, Cond.code yX1_startOfRow cX1_startOfRow 2 (some .int), Cond.methodLink RX5 88 yX0_areLinked, Cond.instanceMethod yX0_areLinked]
def wsX5_link_r2 : List Cond := [Cond.selects RX0 yX0_areLinked yX0_areLinked, Cond.initialized RX0, Cond.code yX0_areLinked cX0_areLinked 3 (some .boolean), Cond.fieldLink RX0 11 "FenceHandshakes$Clans" "cells" "[I", Cond.static yX5_hasBit, Cond.code yX5_hasBit cX5_hasBit 2 (some .boolean), Cond.methodLink RX5 91 yX5_asNumber, Cond.static yX5_asNumber, Cond.code yX5_asNumber cX5_asNumber 1 (some .int), Cond.methodLink RX5 95 yX0_setLinked, Cond.instanceMethod yX0_setLinked, Cond.selects RX0 yX0_setLinked yX0_setLinked, Cond.code yX0_setLinked cX0_setLinked 5 none]
def wsX5_link : List Cond := .code yX5_link cX5_link 5 (some .int) :: ((wsX5_link_r1 ++ wsX5_link_r2) ++ wsX50 ++ wsX10 ++ wsX00)
def wsX5_move_r1 : List Cond := [Cond.fieldLink RX5 25 "FenceHandshakes" "history" "LFenceHandshakes$History;", Cond.fieldLink RX5 12 "FenceHandshakes" "now" "LFenceHandshakes$Clans;", Cond.methodLink RX5 99 yX5_isPerson, Cond.static yX5_isPerson, Cond.initialized RX5, Cond.code yX5_isPerson cX5_isPerson 1 (some .boolean), Cond.methodLink RX5 84 yX5_isGate, Cond.static yX5_isGate, Cond.code yX5_isGate cX5_isGate 1 (some .boolean), Cond.methodLink RX5 61 yX1_keep, Cond.instanceMethod yX1_keep, Cond.selects RX1 yX1_keep yX1_keep, Cond.initialized RX1, Cond.code yX1_keep cX1_keep 2 none, Cond.fieldLink RX1 17 "FenceHandshakes$History" "size" "I", Cond.fieldLink RX1 21 "FenceHandshakes$History" "oldest" "I", Cond.fieldLink RX1 11 "FenceHandshakes$History" "rows" "[I", Cond.methodLink RX1 31 arraycopyName, Cond.native arraycopyName, Cond.static arraycopyName, Cond.initialized "java/lang/System", Cond.methodLink RX1 27 yX1_startOfRow, Cond.instanceMethod yX1_startOfRow, Cond.selects RX1 yX1_startOfRow yX1_startOfRow]
def wsX5_move_r2 : List Cond := [Cond.code yX1_startOfRow cX1_startOfRow 2 (some .int), Cond.methodLink RX5 102 yX0_gateOf, Cond.instanceMethod yX0_gateOf, Cond.selects RX0 yX0_gateOf yX0_gateOf, Cond.initialized RX0, Cond.code yX0_gateOf cX0_gateOf 3 (some .int), Cond.fieldLink RX0 11 "FenceHandshakes$Clans" "cells" "[I", Cond.methodLink RX5 106 yX0_setGate, Cond.instanceMethod yX0_setGate, Cond.selects RX0 yX0_setGate yX0_setGate, Cond.code yX0_setGate cX0_setGate 4 none]
def wsX5_move : List Cond := .code yX5_move cX5_move 5 (some .int) :: ((wsX5_move_r1 ++ wsX5_move_r2) ++ wsX50 ++ wsX10 ++ wsX00)
def wsX5_makeRound_r1 : List Cond := [Cond.fieldLink RX5 39 "FenceHandshakes" "matching" "LFenceHandshakes$Matching;", Cond.methodLink RX5 160 yX2_takeFirst, Cond.instanceMethod yX2_takeFirst, Cond.selects RX2 yX2_takeFirst yX2_takeFirst, Cond.initialized RX2, Cond.code yX2_takeFirst cX2_takeFirst 6 none, Cond.fieldLink RX2 15 "FenceHandshakes$Matching" "ofLeft" "[I", Cond.fieldLink RX2 9 "FenceHandshakes$Matching" "wished" "[I", Cond.methodLink RX2 43 yX2_takeGreatest, Cond.instanceMethod yX2_takeGreatest, Cond.selects RX2 yX2_takeGreatest yX2_takeGreatest, Cond.code yX2_takeGreatest cX2_takeGreatest 4 none, Cond.fieldLink RX2 18 "FenceHandshakes$Matching" "ofRight" "[I", Cond.methodLink RX2 28 yJ7_fill_53178, Cond.static yJ7_fill_53178, Cond.initialized RJ7, Cond.code yJ7_fill_53178 cJ7_fill_53178 4 none, Cond.methodLink RX2 34 yX0_isPossible, Cond.instanceMethod yX0_isPossible, Cond.selects RX0 yX0_isPossible yX0_isPossible, Cond.initialized RX0, Cond.code yX0_isPossible cX0_isPossible 3 (some .boolean), Cond.methodLink RX0 42 yX0_hasWish, Cond.instanceMethod yX0_hasWish]
def wsX5_makeRound_r2 : List Cond := [Cond.selects RX0 yX0_hasWish yX0_hasWish, Cond.code yX0_hasWish cX0_hasWish 3 (some .boolean), Cond.fieldLink RX0 11 "FenceHandshakes$Clans" "cells" "[I", Cond.static yX5_hasBit, Cond.initialized RX5, Cond.code yX5_hasBit cX5_hasBit 2 (some .boolean), Cond.methodLink RX0 45 yX0_canMeet, Cond.instanceMethod yX0_canMeet, Cond.selects RX0 yX0_canMeet yX0_canMeet, Cond.code yX0_canMeet cX0_canMeet 3 (some .boolean), Cond.methodLink RX0 35 yX0_feudOf, Cond.instanceMethod yX0_feudOf, Cond.selects RX0 yX0_feudOf yX0_feudOf, Cond.code yX0_feudOf cX0_feudOf 3 (some .int), Cond.methodLink RX0 39 yX0_areAtLinkedGates, Cond.instanceMethod yX0_areAtLinkedGates, Cond.selects RX0 yX0_areAtLinkedGates yX0_areAtLinkedGates, Cond.code yX0_areAtLinkedGates cX0_areAtLinkedGates 4 (some .boolean), Cond.methodLink RX2 40 yX2_growsByOne, Cond.instanceMethod yX2_growsByOne, Cond.selects RX2 yX2_growsByOne yX2_growsByOne, Cond.code yX2_growsByOne cX2_growsByOne 7 (some .boolean), Cond.fieldLink RX2 21 "FenceHandshakes$Matching" "seenFrom" "[I", Cond.methodLink RX2 58 yX2_findFreeRight]
def wsX5_makeRound_r3 : List Cond := [Cond.instanceMethod yX2_findFreeRight, Cond.selects RX2 yX2_findFreeRight yX2_findFreeRight, Cond.code yX2_findFreeRight cX2_findFreeRight 8 (some .int), Cond.fieldLink RX2 62 "FenceHandshakes$Matching" "reachedLefts" "I", Cond.methodLink RX2 70 yX2_leftsWithoutPartner, Cond.instanceMethod yX2_leftsWithoutPartner, Cond.selects RX2 yX2_leftsWithoutPartner yX2_leftsWithoutPartner, Cond.code yX2_leftsWithoutPartner cX2_leftsWithoutPartner 4 (some .int), Cond.static yX5_isPerson, Cond.code yX5_isPerson cX5_isPerson 1 (some .boolean), Cond.methodLink RX2 66 yX2_join, Cond.instanceMethod yX2_join, Cond.selects RX2 yX2_join yX2_join, Cond.code yX2_join cX2_join 3 none, Cond.methodLink RX2 50 yX2_canTake, Cond.instanceMethod yX2_canTake, Cond.selects RX2 yX2_canTake yX2_canTake, Cond.code yX2_canTake cX2_canTake 6 (some .boolean), Cond.methodLink RX5 163 yX2_partnerOf, Cond.instanceMethod yX2_partnerOf, Cond.selects RX2 yX2_partnerOf yX2_partnerOf, Cond.code yX2_partnerOf cX2_partnerOf 3 (some .int), Cond.methodLink RX5 99 yX5_isPerson, Cond.methodLink RX5 196 yX0_shakeHands]
def wsX5_makeRound_r4 : List Cond := [Cond.instanceMethod yX0_shakeHands, Cond.selects RX0 yX0_shakeHands yX0_shakeHands, Cond.code yX0_shakeHands cX0_shakeHands 3 none, Cond.methodLink RX0 66 yX0_closeWish, Cond.instanceMethod yX0_closeWish, Cond.selects RX0 yX0_closeWish yX0_closeWish, Cond.code yX0_closeWish cX0_closeWish 3 none, Cond.methodLink RX5 199 yX0_endRound, Cond.instanceMethod yX0_endRound, Cond.selects RX0 yX0_endRound yX0_endRound, Cond.code yX0_endRound cX0_endRound 2 none, Cond.methodLink RX5 202 yX2_size, Cond.instanceMethod yX2_size, Cond.selects RX2 yX2_size yX2_size, Cond.code yX2_size cX2_size 3 (some .int), Cond.static yX5_asNumber, Cond.code yX5_asNumber cX5_asNumber 1 (some .int)]
def wsX5_makeRound : List Cond := .code yX5_makeRound cX5_makeRound 4 (some .int) :: ((wsX5_makeRound_r1 ++ (wsX5_makeRound_r2 ++ (wsX5_makeRound_r3 ++ wsX5_makeRound_r4))) ++ wsX50 ++ wsX20 ++ wsX00)
def wsX5_round_r1 : List Cond := [Cond.fieldLink RX5 25 "FenceHandshakes" "history" "LFenceHandshakes$History;", Cond.fieldLink RX5 12 "FenceHandshakes" "now" "LFenceHandshakes$Clans;", Cond.methodLink RX5 61 yX1_keep, Cond.instanceMethod yX1_keep, Cond.selects RX1 yX1_keep yX1_keep, Cond.initialized RX1, Cond.code yX1_keep cX1_keep 2 none, Cond.fieldLink RX1 17 "FenceHandshakes$History" "size" "I", Cond.fieldLink RX1 21 "FenceHandshakes$History" "oldest" "I", Cond.fieldLink RX1 11 "FenceHandshakes$History" "rows" "[I", Cond.methodLink RX1 31 arraycopyName, Cond.native arraycopyName, Cond.static arraycopyName, Cond.initialized "java/lang/System", Cond.methodLink RX1 27 yX1_startOfRow, Cond.instanceMethod yX1_startOfRow, Cond.selects RX1 yX1_startOfRow yX1_startOfRow, Cond.code yX1_startOfRow cX1_startOfRow 2 (some .int), Cond.methodLink RX5 110 yX5_makeRound, Cond.instanceMethod yX5_makeRound, Cond.selects RX5 yX5_makeRound yX5_makeRound, Cond.initialized RX5, Cond.code yX5_makeRound cX5_makeRound 4 (some .int), Cond.fieldLink RX5 39 "FenceHandshakes" "matching" "LFenceHandshakes$Matching;"]
def wsX5_round_r2 : List Cond := [Cond.methodLink RX5 160 yX2_takeFirst, Cond.instanceMethod yX2_takeFirst, Cond.selects RX2 yX2_takeFirst yX2_takeFirst, Cond.initialized RX2, Cond.code yX2_takeFirst cX2_takeFirst 6 none, Cond.fieldLink RX2 15 "FenceHandshakes$Matching" "ofLeft" "[I", Cond.fieldLink RX2 9 "FenceHandshakes$Matching" "wished" "[I", Cond.methodLink RX2 43 yX2_takeGreatest, Cond.instanceMethod yX2_takeGreatest, Cond.selects RX2 yX2_takeGreatest yX2_takeGreatest, Cond.code yX2_takeGreatest cX2_takeGreatest 4 none, Cond.fieldLink RX2 18 "FenceHandshakes$Matching" "ofRight" "[I", Cond.methodLink RX2 28 yJ7_fill_53178, Cond.static yJ7_fill_53178, Cond.initialized RJ7, Cond.code yJ7_fill_53178 cJ7_fill_53178 4 none, Cond.methodLink RX2 34 yX0_isPossible, Cond.instanceMethod yX0_isPossible, Cond.selects RX0 yX0_isPossible yX0_isPossible, Cond.initialized RX0, Cond.code yX0_isPossible cX0_isPossible 3 (some .boolean), Cond.methodLink RX0 42 yX0_hasWish, Cond.instanceMethod yX0_hasWish, Cond.selects RX0 yX0_hasWish yX0_hasWish]
def wsX5_round_r3 : List Cond := [Cond.code yX0_hasWish cX0_hasWish 3 (some .boolean), Cond.fieldLink RX0 11 "FenceHandshakes$Clans" "cells" "[I", Cond.static yX5_hasBit, Cond.code yX5_hasBit cX5_hasBit 2 (some .boolean), Cond.methodLink RX0 45 yX0_canMeet, Cond.instanceMethod yX0_canMeet, Cond.selects RX0 yX0_canMeet yX0_canMeet, Cond.code yX0_canMeet cX0_canMeet 3 (some .boolean), Cond.methodLink RX0 35 yX0_feudOf, Cond.instanceMethod yX0_feudOf, Cond.selects RX0 yX0_feudOf yX0_feudOf, Cond.code yX0_feudOf cX0_feudOf 3 (some .int), Cond.methodLink RX0 39 yX0_areAtLinkedGates, Cond.instanceMethod yX0_areAtLinkedGates, Cond.selects RX0 yX0_areAtLinkedGates yX0_areAtLinkedGates, Cond.code yX0_areAtLinkedGates cX0_areAtLinkedGates 4 (some .boolean), Cond.methodLink RX2 40 yX2_growsByOne, Cond.instanceMethod yX2_growsByOne, Cond.selects RX2 yX2_growsByOne yX2_growsByOne, Cond.code yX2_growsByOne cX2_growsByOne 7 (some .boolean), Cond.fieldLink RX2 21 "FenceHandshakes$Matching" "seenFrom" "[I", Cond.methodLink RX2 58 yX2_findFreeRight, Cond.instanceMethod yX2_findFreeRight, Cond.selects RX2 yX2_findFreeRight yX2_findFreeRight]
def wsX5_round_r4 : List Cond := [Cond.code yX2_findFreeRight cX2_findFreeRight 8 (some .int), Cond.fieldLink RX2 62 "FenceHandshakes$Matching" "reachedLefts" "I", Cond.methodLink RX2 70 yX2_leftsWithoutPartner, Cond.instanceMethod yX2_leftsWithoutPartner, Cond.selects RX2 yX2_leftsWithoutPartner yX2_leftsWithoutPartner, Cond.code yX2_leftsWithoutPartner cX2_leftsWithoutPartner 4 (some .int), Cond.static yX5_isPerson, Cond.code yX5_isPerson cX5_isPerson 1 (some .boolean), Cond.methodLink RX2 66 yX2_join, Cond.instanceMethod yX2_join, Cond.selects RX2 yX2_join yX2_join, Cond.code yX2_join cX2_join 3 none, Cond.methodLink RX2 50 yX2_canTake, Cond.instanceMethod yX2_canTake, Cond.selects RX2 yX2_canTake yX2_canTake, Cond.code yX2_canTake cX2_canTake 6 (some .boolean), Cond.methodLink RX5 163 yX2_partnerOf, Cond.instanceMethod yX2_partnerOf, Cond.selects RX2 yX2_partnerOf yX2_partnerOf, Cond.code yX2_partnerOf cX2_partnerOf 3 (some .int), Cond.methodLink RX5 99 yX5_isPerson, Cond.methodLink RX5 196 yX0_shakeHands, Cond.instanceMethod yX0_shakeHands, Cond.selects RX0 yX0_shakeHands yX0_shakeHands]
def wsX5_round_r5 : List Cond := [Cond.code yX0_shakeHands cX0_shakeHands 3 none, Cond.methodLink RX0 66 yX0_closeWish, Cond.instanceMethod yX0_closeWish, Cond.selects RX0 yX0_closeWish yX0_closeWish, Cond.code yX0_closeWish cX0_closeWish 3 none, Cond.methodLink RX5 199 yX0_endRound, Cond.instanceMethod yX0_endRound, Cond.selects RX0 yX0_endRound yX0_endRound, Cond.code yX0_endRound cX0_endRound 2 none, Cond.methodLink RX5 202 yX2_size, Cond.instanceMethod yX2_size, Cond.selects RX2 yX2_size yX2_size, Cond.code yX2_size cX2_size 3 (some .int), Cond.static yX5_asNumber, Cond.code yX5_asNumber cX5_asNumber 1 (some .int)]
def wsX5_round : List Cond := .code yX5_round cX5_round 1 (some .int) :: ((wsX5_round_r1 ++ (wsX5_round_r2 ++ (wsX5_round_r3 ++ (wsX5_round_r4 ++ wsX5_round_r5)))) ++ wsX50 ++ wsX10 ++ wsX00 ++ wsX20)
def wsX5_undo : List Cond := .code yX5_undo cX5_undo 1 (some .int) :: ([.fieldLink RX5 25 "FenceHandshakes" "history" "LFenceHandshakes$History;", .fieldLink RX5 12 "FenceHandshakes" "now" "LFenceHandshakes$Clans;", .methodLink RX5 138 yX1_size, .instanceMethod yX1_size, .selects RX1 yX1_size yX1_size, .initialized RX1, .code yX1_size cX1_size 1 (some .int), .fieldLink RX1 17 "FenceHandshakes$History" "size" "I", .methodLink RX5 141 yX1_takeLatest, .instanceMethod yX1_takeLatest, .selects RX1 yX1_takeLatest yX1_takeLatest, .code yX1_takeLatest cX1_takeLatest 2 none, .fieldLink RX1 11 "FenceHandshakes$History" "rows" "[I", .methodLink RX1 31 arraycopyName, .native arraycopyName, .static arraycopyName, .initialized "java/lang/System", .methodLink RX1 27 yX1_startOfRow, .instanceMethod yX1_startOfRow, .selects RX1 yX1_startOfRow yX1_startOfRow, .code yX1_startOfRow cX1_startOfRow 2 (some .int), .fieldLink RX1 21 "FenceHandshakes$History" "oldest" "I"] ++ wsX50 ++ wsX10 ++ wsX00)
def wsX5_save : List Cond := .code yX5_save cX5_save 1 (some .int) :: ([.fieldLink RX5 19 "FenceHandshakes" "snapshot" "LFenceHandshakes$Clans;", .fieldLink RX5 12 "FenceHandshakes" "now" "LFenceHandshakes$Clans;", .fieldLink RX5 50 "FenceHandshakes" "hasSnapshot" "Z", .methodLink RX5 144 yX0_copyFrom, .instanceMethod yX0_copyFrom, .selects RX0 yX0_copyFrom yX0_copyFrom, .initialized RX0, .code yX0_copyFrom cX0_copyFrom 2 none, .fieldLink RX0 11 "FenceHandshakes$Clans" "cells" "[I", .methodLink RX0 15 arraycopyName, .native arraycopyName, .static arraycopyName, .initialized "java/lang/System", .methodLink RX5 69 yX0_numberOfWishes, .instanceMethod yX0_numberOfWishes, .selects RX0 yX0_numberOfWishes yX0_numberOfWishes, .code yX0_numberOfWishes cX0_numberOfWishes 3 (some .int), .methodLink RX0 29 yJ6_bitCount_0f7a4, .static yJ6_bitCount_0f7a4, .initialized RJ6, .code yJ6_bitCount_0f7a4 cJ6_bitCount_0f7a4 1 (some .int), .constant RJ6 265 (1431655765), .constant RJ6 266 (858993459), .constant RJ6 267 (252645135)] ++ wsX50 ++ wsX00)
def wsX5_restore_r1 : List Cond := [Cond.fieldLink RX5 50 "FenceHandshakes" "hasSnapshot" "Z", Cond.fieldLink RX5 25 "FenceHandshakes" "history" "LFenceHandshakes$History;", Cond.fieldLink RX5 12 "FenceHandshakes" "now" "LFenceHandshakes$Clans;", Cond.fieldLink RX5 19 "FenceHandshakes" "snapshot" "LFenceHandshakes$Clans;", Cond.methodLink RX5 61 yX1_keep, Cond.instanceMethod yX1_keep, Cond.selects RX1 yX1_keep yX1_keep, Cond.initialized RX1, Cond.code yX1_keep cX1_keep 2 none, Cond.fieldLink RX1 17 "FenceHandshakes$History" "size" "I", Cond.fieldLink RX1 21 "FenceHandshakes$History" "oldest" "I", Cond.fieldLink RX1 11 "FenceHandshakes$History" "rows" "[I", Cond.methodLink RX1 31 arraycopyName, Cond.native arraycopyName, Cond.static arraycopyName, Cond.initialized "java/lang/System", Cond.methodLink RX1 27 yX1_startOfRow, Cond.instanceMethod yX1_startOfRow, Cond.selects RX1 yX1_startOfRow yX1_startOfRow, Cond.code yX1_startOfRow cX1_startOfRow 2 (some .int), Cond.methodLink RX5 144 yX0_copyFrom, Cond.instanceMethod yX0_copyFrom, Cond.selects RX0 yX0_copyFrom yX0_copyFrom, Cond.initialized RX0]
def wsX5_restore_r2 : List Cond := [Cond.code yX0_copyFrom cX0_copyFrom 2 none, Cond.fieldLink RX0 11 "FenceHandshakes$Clans" "cells" "[I", Cond.methodLink RX0 15 arraycopyName, Cond.methodLink RX5 69 yX0_numberOfWishes, Cond.instanceMethod yX0_numberOfWishes, Cond.selects RX0 yX0_numberOfWishes yX0_numberOfWishes, Cond.code yX0_numberOfWishes cX0_numberOfWishes 3 (some .int), Cond.methodLink RX0 29 yJ6_bitCount_0f7a4, Cond.static yJ6_bitCount_0f7a4, Cond.initialized RJ6, Cond.code yJ6_bitCount_0f7a4 cJ6_bitCount_0f7a4 1 (some .int), Cond.constant RJ6 265 (1431655765), Cond.constant RJ6 266 (858993459), Cond.constant RJ6 267 (252645135)]
def wsX5_restore : List Cond := .code yX5_restore cX5_restore 1 (some .int) :: ((wsX5_restore_r1 ++ wsX5_restore_r2) ++ wsX50 ++ wsX10 ++ wsX00)
def wsX5_person_r1 : List Cond := [Cond.fieldLink RX5 12 "FenceHandshakes" "now" "LFenceHandshakes$Clans;", Cond.methodLink RX5 99 yX5_isPerson, Cond.static yX5_isPerson, Cond.initialized RX5, Cond.code yX5_isPerson cX5_isPerson 1 (some .boolean), Cond.methodLink RX5 102 yX0_gateOf, Cond.instanceMethod yX0_gateOf, Cond.selects RX0 yX0_gateOf yX0_gateOf, Cond.initialized RX0, Cond.code yX0_gateOf cX0_gateOf 3 (some .int), Cond.fieldLink RX0 11 "FenceHandshakes$Clans" "cells" "[I", Cond.methodLink RX5 147 yX0_amountOfPerson, Cond.instanceMethod yX0_amountOfPerson, Cond.selects RX0 yX0_amountOfPerson yX0_amountOfPerson, Cond.code yX0_amountOfPerson cX0_amountOfPerson 6 (some .int), Cond.methodLink RX0 58 yX0_amountOfPair, Cond.instanceMethod yX0_amountOfPair, Cond.selects RX0 yX0_amountOfPair yX0_amountOfPair, Cond.code yX0_amountOfPair cX0_amountOfPair 4 (some .int), Cond.methodLink RX0 42 yX0_hasWish, Cond.instanceMethod yX0_hasWish, Cond.selects RX0 yX0_hasWish yX0_hasWish, Cond.code yX0_hasWish cX0_hasWish 3 (some .boolean), Cond.static yX5_hasBit]
def wsX5_person_r2 : List Cond := [Cond.code yX5_hasBit cX5_hasBit 2 (some .boolean), Cond.static yX5_asNumber, Cond.code yX5_asNumber cX5_asNumber 1 (some .int), Cond.methodLink RX0 52 yX0_isPossible, Cond.instanceMethod yX0_isPossible, Cond.selects RX0 yX0_isPossible yX0_isPossible, Cond.code yX0_isPossible cX0_isPossible 3 (some .boolean), Cond.methodLink RX0 45 yX0_canMeet, Cond.instanceMethod yX0_canMeet, Cond.selects RX0 yX0_canMeet yX0_canMeet, Cond.code yX0_canMeet cX0_canMeet 3 (some .boolean), Cond.methodLink RX0 35 yX0_feudOf, Cond.instanceMethod yX0_feudOf, Cond.selects RX0 yX0_feudOf yX0_feudOf, Cond.code yX0_feudOf cX0_feudOf 3 (some .int), Cond.methodLink RX0 39 yX0_areAtLinkedGates, Cond.instanceMethod yX0_areAtLinkedGates, Cond.selects RX0 yX0_areAtLinkedGates yX0_areAtLinkedGates, Cond.code yX0_areAtLinkedGates cX0_areAtLinkedGates 4 (some .boolean), Cond.methodLink RX0 55 yX0_handshakesOf, Cond.instanceMethod yX0_handshakesOf, Cond.selects RX0 yX0_handshakesOf yX0_handshakesOf, Cond.code yX0_handshakesOf cX0_handshakesOf 3 (some .int), Cond.methodLink RX5 151 yX0_peopleToMeet]
def wsX5_person_r3 : List Cond := [Cond.instanceMethod yX0_peopleToMeet, Cond.selects RX0 yX0_peopleToMeet yX0_peopleToMeet, Cond.code yX0_peopleToMeet cX0_peopleToMeet 5 (some .int)]
def wsX5_person : List Cond := .code yX5_person cX5_person 4 (some .int) :: ((wsX5_person_r1 ++ (wsX5_person_r2 ++ wsX5_person_r3)) ++ wsX50 ++ wsX00)
def wsX5_reasonAgainst_r1 : List Cond := [Cond.fieldLink RX5 12 "FenceHandshakes" "now" "LFenceHandshakes$Clans;", Cond.fieldLink RX5 39 "FenceHandshakes" "matching" "LFenceHandshakes$Matching;", Cond.methodLink RX5 58 yX0_hasWish, Cond.instanceMethod yX0_hasWish, Cond.selects RX0 yX0_hasWish yX0_hasWish, Cond.initialized RX0, Cond.code yX0_hasWish cX0_hasWish 3 (some .boolean), Cond.fieldLink RX0 11 "FenceHandshakes$Clans" "cells" "[I", Cond.static yX5_hasBit, Cond.initialized RX5, Cond.code yX5_hasBit cX5_hasBit 2 (some .boolean), Cond.methodLink RX5 203 yX0_areAtLinkedGates, Cond.instanceMethod yX0_areAtLinkedGates, Cond.selects RX0 yX0_areAtLinkedGates yX0_areAtLinkedGates, Cond.code yX0_areAtLinkedGates cX0_areAtLinkedGates 4 (some .boolean), Cond.methodLink RX5 76 yX0_feudOf, Cond.instanceMethod yX0_feudOf, Cond.selects RX0 yX0_feudOf yX0_feudOf, Cond.code yX0_feudOf cX0_feudOf 3 (some .int), Cond.methodLink RX5 160 yX2_takeFirst, Cond.instanceMethod yX2_takeFirst, Cond.selects RX2 yX2_takeFirst yX2_takeFirst, Cond.initialized RX2, Cond.code yX2_takeFirst cX2_takeFirst 6 none]
def wsX5_reasonAgainst_r2 : List Cond := [Cond.fieldLink RX2 15 "FenceHandshakes$Matching" "ofLeft" "[I", Cond.fieldLink RX2 9 "FenceHandshakes$Matching" "wished" "[I", Cond.methodLink RX2 43 yX2_takeGreatest, Cond.instanceMethod yX2_takeGreatest, Cond.selects RX2 yX2_takeGreatest yX2_takeGreatest, Cond.code yX2_takeGreatest cX2_takeGreatest 4 none, Cond.fieldLink RX2 18 "FenceHandshakes$Matching" "ofRight" "[I", Cond.methodLink RX2 28 yJ7_fill_53178, Cond.static yJ7_fill_53178, Cond.initialized RJ7, Cond.code yJ7_fill_53178 cJ7_fill_53178 4 none, Cond.methodLink RX2 34 yX0_isPossible, Cond.instanceMethod yX0_isPossible, Cond.selects RX0 yX0_isPossible yX0_isPossible, Cond.code yX0_isPossible cX0_isPossible 3 (some .boolean), Cond.methodLink RX0 42 yX0_hasWish, Cond.methodLink RX0 45 yX0_canMeet, Cond.instanceMethod yX0_canMeet, Cond.selects RX0 yX0_canMeet yX0_canMeet, Cond.code yX0_canMeet cX0_canMeet 3 (some .boolean), Cond.methodLink RX0 35 yX0_feudOf, Cond.methodLink RX0 39 yX0_areAtLinkedGates, Cond.methodLink RX2 40 yX2_growsByOne, Cond.instanceMethod yX2_growsByOne]
def wsX5_reasonAgainst_r3 : List Cond := [Cond.selects RX2 yX2_growsByOne yX2_growsByOne, Cond.code yX2_growsByOne cX2_growsByOne 7 (some .boolean), Cond.fieldLink RX2 21 "FenceHandshakes$Matching" "seenFrom" "[I", Cond.methodLink RX2 58 yX2_findFreeRight, Cond.instanceMethod yX2_findFreeRight, Cond.selects RX2 yX2_findFreeRight yX2_findFreeRight, Cond.code yX2_findFreeRight cX2_findFreeRight 8 (some .int), Cond.fieldLink RX2 62 "FenceHandshakes$Matching" "reachedLefts" "I", Cond.methodLink RX2 70 yX2_leftsWithoutPartner, Cond.instanceMethod yX2_leftsWithoutPartner, Cond.selects RX2 yX2_leftsWithoutPartner yX2_leftsWithoutPartner, Cond.code yX2_leftsWithoutPartner cX2_leftsWithoutPartner 4 (some .int), Cond.static yX5_isPerson, Cond.code yX5_isPerson cX5_isPerson 1 (some .boolean), Cond.methodLink RX2 66 yX2_join, Cond.instanceMethod yX2_join, Cond.selects RX2 yX2_join yX2_join, Cond.code yX2_join cX2_join 3 none, Cond.methodLink RX2 50 yX2_canTake, Cond.instanceMethod yX2_canTake, Cond.selects RX2 yX2_canTake yX2_canTake, Cond.code yX2_canTake cX2_canTake 6 (some .boolean), Cond.methodLink RX5 163 yX2_partnerOf, Cond.instanceMethod yX2_partnerOf]
def wsX5_reasonAgainst_r4 : List Cond := [Cond.selects RX2 yX2_partnerOf yX2_partnerOf, Cond.code yX2_partnerOf cX2_partnerOf 3 (some .int)]
