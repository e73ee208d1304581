-- ===== words of one list among another's, by their places ===== 
theorem goodIn_r {big : List Cond} (ws : List Cond) (ps : List Nat) (hp : ws = ps.filterMap (fun i => big[i]?)) (h : ws.all goodWord = true) : GoodIn big ws := by
  intro w hw
  have h1 := List.all_eq_true.mp h w hw
  rw [hp] at hw
  obtain ⟨i, -, hi⟩ := List.mem_filterMap.mp hw
  have hm : w ∈ big := by first | exact List.mem_of_getElem? hi | exact List.getElem?_mem hi
  exact ⟨hm, good_of_word h1⟩
theorem goodIn_app {big a b : List Cond} (ha : GoodIn big a) (hb : GoodIn big b) : GoodIn big (a ++ b) := fun w h => (List.mem_append.mp h).elim (ha w) (hb w)
theorem goodIn_ca {big a b : List Cond} {c : Cond} (ha : GoodIn big (c :: a)) (hb : GoodIn big b) : GoodIn big (c :: (a ++ b)) := fun w h => (List.mem_cons.mp h).elim (fun e => ha w (List.mem_cons.mpr (Or.inl e))) (fun h => (List.mem_append.mp h).elim (fun h => ha w (List.mem_cons.mpr (Or.inr h))) (hb w))
theorem goodIn_sub {big ws : List Cond} (hm : ∀ w ∈ ws, w ∈ big) (h : ws.all goodWord = true) : GoodIn big ws := fun w hw => ⟨hm w hw, good_of_word (List.all_eq_true.mp h w hw)⟩
-- end ===== ===== 
-- ===== printed: names, fields, word lists, decode rows ===== 
def RX0 : String := "ZoneSampler$History"
def TX0 : u_T := fun k => match k with
  | 0 => ("ZoneSampler$History", "first", "LZoneSampler$State;", false)
  | 1 => ("ZoneSampler$History", "second", "LZoneSampler$State;", false)
  | 2 => ("ZoneSampler$History", "third", "LZoneSampler$State;", false)
  | 3 => ("ZoneSampler$History", "fourth", "LZoneSampler$State;", false)
  | _ => ("ZoneSampler$History", "kept", "I", false)
def tyX0 : Nat → FieldType := fun k => match k with
  | 0 => .object "ZoneSampler$State"
  | 1 => .object "ZoneSampler$State"
  | 2 => .object "ZoneSampler$State"
  | 3 => .object "ZoneSampler$State"
  | _ => .int
abbrev wsX00 : List Cond := u_ws RX0 TX0 5
theorem nmX0 : ∀ a, a < 5 → ∀ b, b < 5 → a ≠ b → (TX0 a).2.1 ≠ (TX0 b).2.1 := by decide +kernel
theorem tyX0_ok : ∀ k, k < 5 → parseFieldDescriptor (TX0 k).2.2.1 = some (tyX0 k) := by decide +kernel
abbrev cX0_init : ByteArray := prog_2_method_1_code
def yX0_init : MethodName := ⟨RX0, "<init>", "()V"⟩
abbrev cX0_size : ByteArray := prog_2_method_2_code
def yX0_size : MethodName := ⟨RX0, "size", "()I"⟩
abbrev cX0_record : ByteArray := prog_2_method_3_code
def yX0_record : MethodName := ⟨RX0, "record", "(LZoneSampler$State;)V"⟩
abbrev cX0_goBack : ByteArray := prog_2_method_4_code
def yX0_goBack : MethodName := ⟨RX0, "goBack", "(LZoneSampler$State;)V"⟩
abbrev cX0_stateAt : ByteArray := prog_2_method_5_code
def yX0_stateAt : MethodName := ⟨RX0, "stateAt", "(I)LZoneSampler$State;"⟩
def RX1 : String := "ZoneSampler$Pad"
def TX1 : u_T := fun k => match k with
  | 0 => ("ZoneSampler$Pad", "signs", "[C", true)
  | 1 => ("ZoneSampler$Pad", "length", "I", false)
  | 2 => ("ZoneSampler$Pad", "at", "I", false)
  | 3 => ("ZoneSampler$Pad", "value", "I", false)
  | 4 => ("ZoneSampler$Pad", "low", "I", false)
  | 5 => ("ZoneSampler$Pad", "high", "I", false)
  | 6 => ("ZoneSampler$Pad", "softest", "I", false)
  | 7 => ("ZoneSampler$Pad", "hardest", "I", false)
  | 8 => ("ZoneSampler$Pad", "lasting", "I", false)
  | 9 => ("ZoneSampler$Pad", "group", "I", false)
  | 10 => ("ZoneSampler$Pad", "robin", "I", false)
  | 11 => ("ZoneSampler$Pad", "deed", "I", false)
  | 12 => ("ZoneSampler$Pad", "deedKey", "I", false)
  | _ => ("ZoneSampler$Pad", "amount", "I", false)
def tyX1 : Nat → FieldType := fun k => match k with
  | 0 => .array .char
  | 1 => .int
  | 2 => .int
  | 3 => .int
  | 4 => .int
  | 5 => .int
  | 6 => .int
  | 7 => .int
  | 8 => .int
  | 9 => .int
  | 10 => .int
  | 11 => .int
  | 12 => .int
  | _ => .int
abbrev wsX10 : List Cond := u_ws RX1 TX1 14
theorem nmX1 : ∀ a, a < 14 → ∀ b, b < 14 → a ≠ b → (TX1 a).2.1 ≠ (TX1 b).2.1 := by decide +kernel
theorem tyX1_ok : ∀ k, k < 14 → parseFieldDescriptor (TX1 k).2.2.1 = some (tyX1 k) := by decide +kernel
abbrev cX1_init : ByteArray := prog_3_method_1_code
def yX1_init : MethodName := ⟨RX1, "<init>", "()V"⟩
abbrev cX1_length : ByteArray := prog_3_method_2_code
def yX1_length : MethodName := ⟨RX1, "length", "()I"⟩
abbrev cX1_add : ByteArray := prog_3_method_3_code
def yX1_add : MethodName := ⟨RX1, "add", "(C)V"⟩
abbrev cX1_empty : ByteArray := prog_3_method_4_code
def yX1_empty : MethodName := ⟨RX1, "empty", "()V"⟩
abbrev cX1_rewind : ByteArray := prog_3_method_5_code
def yX1_rewind : MethodName := ⟨RX1, "rewind", "()V"⟩
abbrev cX1_items : ByteArray := prog_3_method_6_code
def yX1_items : MethodName := ⟨RX1, "items", "()I"⟩
abbrev cX1_faultAs : ByteArray := prog_3_method_7_code
def yX1_faultAs : MethodName := ⟨RX1, "faultAs", "(I)I"⟩
abbrev cX1_readSign : ByteArray := prog_3_method_8_code
def yX1_readSign : MethodName := ⟨RX1, "readSign", "(I)Z"⟩
abbrev cX1_readZone : ByteArray := prog_3_method_9_code
def yX1_readZone : MethodName := ⟨RX1, "readZone", "()Z"⟩
abbrev cX1_readMark : ByteArray := prog_3_method_10_code
def yX1_readMark : MethodName := ⟨RX1, "readMark", "(II)Z"⟩
abbrev cX1_readDeed : ByteArray := prog_3_method_11_code
def yX1_readDeed : MethodName := ⟨RX1, "readDeed", "()Z"⟩
abbrev cX1_readDeedKey : ByteArray := prog_3_method_12_code
def yX1_readDeedKey : MethodName := ⟨RX1, "readDeedKey", "()Z"⟩
abbrev cX1_readAmount : ByteArray := prog_3_method_13_code
def yX1_readAmount : MethodName := ⟨RX1, "readAmount", "(I)Z"⟩
abbrev cX1_readNumber : ByteArray := prog_3_method_14_code
def yX1_readNumber : MethodName := ⟨RX1, "readNumber", "(II)Z"⟩
abbrev cX1_canBegin : ByteArray := prog_3_method_15_code
def yX1_canBegin : MethodName := ⟨RX1, "canBegin", "(III)Z"⟩
abbrev cX1_sign : ByteArray := prog_3_method_16_code
def yX1_sign : MethodName := ⟨RX1, "sign", "()I"⟩
def RX2 : String := "ZoneSampler$State"
def TX2 : u_T := fun k => match k with
  | 0 => ("ZoneSampler$State", "zones", "LZoneSampler$Table;", true)
  | 1 => ("ZoneSampler$State", "voices", "LZoneSampler$Table;", true)
  | 2 => ("ZoneSampler$State", "numbers", "[I", true)
  | 3 => ("ZoneSampler$State", "pedalDown", "Z", false)
  | _ => ("ZoneSampler$State", "notes", "I", false)
def tyX2 : Nat → FieldType := fun k => match k with
  | 0 => .object "ZoneSampler$Table"
  | 1 => .object "ZoneSampler$Table"
  | 2 => .array .int
  | 3 => .boolean
  | _ => .int
abbrev wsX20 : List Cond := u_ws RX2 TX2 5
theorem nmX2 : ∀ a, a < 5 → ∀ b, b < 5 → a ≠ b → (TX2 a).2.1 ≠ (TX2 b).2.1 := by decide +kernel
theorem tyX2_ok : ∀ k, k < 5 → parseFieldDescriptor (TX2 k).2.2.1 = some (tyX2 k) := by decide +kernel
abbrev cX2_init : ByteArray := prog_4_method_1_code
def yX2_init : MethodName := ⟨RX2, "<init>", "()V"⟩
abbrev cX2_copyFrom : ByteArray := prog_4_method_2_code
def yX2_copyFrom : MethodName := ⟨RX2, "copyFrom", "(LZoneSampler$State;)V"⟩
abbrev cX2_number : ByteArray := prog_4_method_3_code
def yX2_number : MethodName := ⟨RX2, "number", "(I)I"⟩
abbrev cX2_putNumber : ByteArray := prog_4_method_4_code
def yX2_putNumber : MethodName := ⟨RX2, "putNumber", "(II)V"⟩
abbrev cX2_grow : ByteArray := prog_4_method_5_code
def yX2_grow : MethodName := ⟨RX2, "grow", "(II)V"⟩
abbrev cX2_addZone : ByteArray := prog_4_method_6_code
def yX2_addZone : MethodName := ⟨RX2, "addZone", "(IIII)I"⟩
abbrev cX2_shapeZone : ByteArray := prog_4_method_7_code
def yX2_shapeZone : MethodName := ⟨RX2, "shapeZone", "(IIII)V"⟩
abbrev cX2_dropZone : ByteArray := prog_4_method_8_code
def yX2_dropZone : MethodName := ⟨RX2, "dropZone", "(I)I"⟩
abbrev cX2_matches : ByteArray := prog_4_method_9_code
def yX2_matches : MethodName := ⟨RX2, "matches", "(III)Z"⟩
abbrev cX2_matching : ByteArray := prog_4_method_10_code
def yX2_matching : MethodName := ⟨RX2, "matching", "(II)I"⟩
abbrev cX2_sounds : ByteArray := prog_4_method_11_code
def yX2_sounds : MethodName := ⟨RX2, "sounds", "(III)Z"⟩
abbrev cX2_sounding : ByteArray := prog_4_method_12_code
def yX2_sounding : MethodName := ⟨RX2, "sounding", "(II)I"⟩
abbrev cX2_firstSounding : ByteArray := prog_4_method_13_code
def yX2_firstSounding : MethodName := ⟨RX2, "firstSounding", "(II)I"⟩
abbrev cX2_canSound : ByteArray := prog_4_method_14_code
def yX2_canSound : MethodName := ⟨RX2, "canSound", "(I)Z"⟩
abbrev cX2_strike : ByteArray := prog_4_method_15_code
def yX2_strike : MethodName := ⟨RX2, "strike", "(II)I"⟩
abbrev cX2_passTurns : ByteArray := prog_4_method_16_code
def yX2_passTurns : MethodName := ⟨RX2, "passTurns", "(II)V"⟩
abbrev cX2_begin : ByteArray := prog_4_method_17_code
def yX2_begin : MethodName := ⟨RX2, "begin", "(III)V"⟩
abbrev cX2_choke : ByteArray := prog_4_method_18_code
def yX2_choke : MethodName := ⟨RX2, "choke", "(I)V"⟩
abbrev cX2_stealDownTo : ByteArray := prog_4_method_19_code
def yX2_stealDownTo : MethodName := ⟨RX2, "stealDownTo", "(I)V"⟩
abbrev cX2_stealPlace : ByteArray := prog_4_method_20_code
def yX2_stealPlace : MethodName := ⟨RX2, "stealPlace", "(I)I"⟩
abbrev cX2_stealRank : ByteArray := prog_4_method_21_code
def yX2_stealRank : MethodName := ⟨RX2, "stealRank", "(I)I"⟩
abbrev cX2_release : ByteArray := prog_4_method_22_code
def yX2_release : MethodName := ⟨RX2, "release", "(I)I"⟩
abbrev cX2_moveHeld : ByteArray := prog_4_method_23_code
def yX2_moveHeld : MethodName := ⟨RX2, "moveHeld", "(II)I"⟩
abbrev cX2_tread : ByteArray := prog_4_method_24_code
def yX2_tread : MethodName := ⟨RX2, "tread", "()I"⟩
abbrev cX2_runTicks : ByteArray := prog_4_method_25_code
def yX2_runTicks : MethodName := ⟨RX2, "runTicks", "(I)I"⟩
abbrev cX2_wear : ByteArray := prog_4_method_26_code
def yX2_wear : MethodName := ⟨RX2, "wear", "(I)V"⟩
abbrev cX2_fadeOf : ByteArray := prog_4_method_27_code
def yX2_fadeOf : MethodName := ⟨RX2, "fadeOf", "(I)I"⟩
abbrev cX2_ticksLeft : ByteArray := prog_4_method_28_code
def yX2_ticksLeft : MethodName := ⟨RX2, "ticksLeft", "(I)I"⟩
abbrev cX2_stopAll : ByteArray := prog_4_method_29_code
def yX2_stopAll : MethodName := ⟨RX2, "stopAll", "()I"⟩
def RX3 : String := "ZoneSampler$Survey"
def TX3 : u_T := fun k => match k with
  | 0 => ("ZoneSampler$Survey", "depths", "[I", true)
  | 1 => ("ZoneSampler$Survey", "holes", "I", false)
  | 2 => ("ZoneSampler$Survey", "overlaps", "I", false)
  | 3 => ("ZoneSampler$Survey", "deepest", "I", false)
  | _ => ("ZoneSampler$Survey", "firstHole", "I", false)
def tyX3 : Nat → FieldType := fun k => match k with
  | 0 => .array .int
  | 1 => .int
  | 2 => .int
  | 3 => .int
  | _ => .int
abbrev wsX30 : List Cond := u_ws RX3 TX3 5
theorem nmX3 : ∀ a, a < 5 → ∀ b, b < 5 → a ≠ b → (TX3 a).2.1 ≠ (TX3 b).2.1 := by decide +kernel
theorem tyX3_ok : ∀ k, k < 5 → parseFieldDescriptor (TX3 k).2.2.1 = some (tyX3 k) := by decide +kernel
abbrev cX3_init : ByteArray := prog_5_method_1_code
def yX3_init : MethodName := ⟨RX3, "<init>", "()V"⟩
abbrev cX3_finding : ByteArray := prog_5_method_2_code
def yX3_finding : MethodName := ⟨RX3, "finding", "(I)I"⟩
abbrev cX3_goByPlaces : ByteArray := prog_5_method_3_code
def yX3_goByPlaces : MethodName := ⟨RX3, "goByPlaces", "(LZoneSampler$State;)V"⟩
abbrev cX3_goByEdges : ByteArray := prog_5_method_4_code
def yX3_goByEdges : MethodName := ⟨RX3, "goByEdges", "(LZoneSampler$State;)V"⟩
abbrev cX3_deepen : ByteArray := prog_5_method_5_code
def yX3_deepen : MethodName := ⟨RX3, "deepen", "(LZoneSampler$Table;II)V"⟩
abbrev cX3_start : ByteArray := prog_5_method_6_code
def yX3_start : MethodName := ⟨RX3, "start", "()V"⟩
abbrev cX3_see : ByteArray := prog_5_method_7_code
def yX3_see : MethodName := ⟨RX3, "see", "(II)V"⟩
def RX4 : String := "ZoneSampler$Table"
def TX4 : u_T := fun k => match k with
  | 0 => ("ZoneSampler$Table", "width", "I", true)
  | 1 => ("ZoneSampler$Table", "cells", "[I", true)
  | _ => ("ZoneSampler$Table", "rows", "I", false)
def tyX4 : Nat → FieldType := fun k => match k with
  | 0 => .int
  | 1 => .array .int
  | _ => .int
abbrev wsX40 : List Cond := u_ws RX4 TX4 3
theorem nmX4 : ∀ a, a < 3 → ∀ b, b < 3 → a ≠ b → (TX4 a).2.1 ≠ (TX4 b).2.1 := by decide +kernel
theorem tyX4_ok : ∀ k, k < 3 → parseFieldDescriptor (TX4 k).2.2.1 = some (tyX4 k) := by decide +kernel
abbrev cX4_init : ByteArray := prog_6_method_1_code
def yX4_init : MethodName := ⟨RX4, "<init>", "(II)V"⟩
abbrev cX4_rows : ByteArray := prog_6_method_2_code
def yX4_rows : MethodName := ⟨RX4, "rows", "()I"⟩
abbrev cX4_has : ByteArray := prog_6_method_3_code
def yX4_has : MethodName := ⟨RX4, "has", "(I)Z"⟩
abbrev cX4_get : ByteArray := prog_6_method_4_code
def yX4_get : MethodName := ⟨RX4, "get", "(II)I"⟩
abbrev cX4_put : ByteArray := prog_6_method_5_code
def yX4_put : MethodName := ⟨RX4, "put", "(III)V"⟩
abbrev cX4_addRow : ByteArray := prog_6_method_6_code
def yX4_addRow : MethodName := ⟨RX4, "addRow", "()I"⟩
abbrev cX4_removeRow : ByteArray := prog_6_method_7_code
def yX4_removeRow : MethodName := ⟨RX4, "removeRow", "(I)V"⟩
abbrev cX4_rowsWith : ByteArray := prog_6_method_8_code
def yX4_rowsWith : MethodName := ⟨RX4, "rowsWith", "(II)I"⟩
abbrev cX4_sumOf : ByteArray := prog_6_method_9_code
def yX4_sumOf : MethodName := ⟨RX4, "sumOf", "(I)I"⟩
abbrev cX4_removeAll : ByteArray := prog_6_method_10_code
def yX4_removeAll : MethodName := ⟨RX4, "removeAll", "()V"⟩
abbrev cX4_copyFrom : ByteArray := prog_6_method_11_code
def yX4_copyFrom : MethodName := ⟨RX4, "copyFrom", "(LZoneSampler$Table;)V"⟩
def RX5 : String := "ZoneSampler"
def TX5 : u_T := fun k => match k with
  | 0 => ("ZoneSampler", "now", "LZoneSampler$State;", true)
  | 1 => ("ZoneSampler", "trial", "LZoneSampler$State;", true)
  | 2 => ("ZoneSampler", "snapshot", "LZoneSampler$State;", true)
  | 3 => ("ZoneSampler", "history", "LZoneSampler$History;", true)
  | 4 => ("ZoneSampler", "pad", "LZoneSampler$Pad;", true)
  | 5 => ("ZoneSampler", "survey", "LZoneSampler$Survey;", true)
  | _ => ("ZoneSampler", "hasSnapshot", "Z", false)
def tyX5 : Nat → FieldType := fun k => match k with
  | 0 => .object "ZoneSampler$State"
  | 1 => .object "ZoneSampler$State"
  | 2 => .object "ZoneSampler$State"
  | 3 => .object "ZoneSampler$History"
  | 4 => .object "ZoneSampler$Pad"
  | 5 => .object "ZoneSampler$Survey"
  | _ => .boolean
abbrev wsX50 : List Cond := u_ws RX5 TX5 7
theorem nmX5 : ∀ a, a < 7 → ∀ b, b < 7 → a ≠ b → (TX5 a).2.1 ≠ (TX5 b).2.1 := by decide +kernel
theorem tyX5_ok : ∀ k, k < 7 → parseFieldDescriptor (TX5 k).2.2.1 = some (tyX5 k) := by decide +kernel
abbrev cX5_init : ByteArray := prog_1_method_1_code
def yX5_init : MethodName := ⟨RX5, "<init>", "()V"⟩
abbrev cX5_zone : ByteArray := prog_1_method_2_code
def yX5_zone : MethodName := ⟨RX5, "zone", "(IIII)I"⟩
abbrev cX5_like : ByteArray := prog_1_method_3_code
def yX5_like : MethodName := ⟨RX5, "like", "(IIII)I"⟩
abbrev cX5_takeZone : ByteArray := prog_1_method_4_code
def yX5_takeZone : MethodName := ⟨RX5, "takeZone", "(I)I"⟩
abbrev cX5_hit : ByteArray := prog_1_method_5_code
def yX5_hit : MethodName := ⟨RX5, "hit", "(II)I"⟩
abbrev cX5_letGo : ByteArray := prog_1_method_6_code
def yX5_letGo : MethodName := ⟨RX5, "letGo", "(I)I"⟩
abbrev cX5_pedal : ByteArray := prog_1_method_7_code
def yX5_pedal : MethodName := ⟨RX5, "pedal", "()I"⟩
abbrev cX5_pass : ByteArray := prog_1_method_8_code
def yX5_pass : MethodName := ⟨RX5, "pass", "(I)I"⟩
abbrev cX5_silence : ByteArray := prog_1_method_9_code
def yX5_silence : MethodName := ⟨RX5, "silence", "()I"⟩
abbrev cX5_set : ByteArray := prog_1_method_10_code
def yX5_set : MethodName := ⟨RX5, "set", "(II)I"⟩
abbrev cX5_append : ByteArray := prog_1_method_11_code
def yX5_append : MethodName := ⟨RX5, "append", "(I)I"⟩
abbrev cX5_clear : ByteArray := prog_1_method_12_code
def yX5_clear : MethodName := ⟨RX5, "clear", "()I"⟩
abbrev cX5_fault : ByteArray := prog_1_method_13_code
def yX5_fault : MethodName := ⟨RX5, "fault", "(I)I"⟩
abbrev cX5_load : ByteArray := prog_1_method_14_code
def yX5_load : MethodName := ⟨RX5, "load", "()I"⟩
abbrev cX5_play : ByteArray := prog_1_method_15_code
def yX5_play : MethodName := ⟨RX5, "play", "()I"⟩
abbrev cX5_zoneOf : ByteArray := prog_1_method_16_code
def yX5_zoneOf : MethodName := ⟨RX5, "zoneOf", "(II)I"⟩
abbrev cX5_voice : ByteArray := prog_1_method_17_code
def yX5_voice : MethodName := ⟨RX5, "voice", "(II)I"⟩
abbrev cX5_answers : ByteArray := prog_1_method_18_code
def yX5_answers : MethodName := ⟨RX5, "answers", "(II)I"⟩
abbrev cX5_map : ByteArray := prog_1_method_19_code
def yX5_map : MethodName := ⟨RX5, "map", "(II)I"⟩
abbrev cX5_count : ByteArray := prog_1_method_20_code
def yX5_count : MethodName := ⟨RX5, "count", "(I)I"⟩
abbrev cX5_loudness : ByteArray := prog_1_method_21_code
def yX5_loudness : MethodName := ⟨RX5, "loudness", "()D"⟩
abbrev cX5_ifHit : ByteArray := prog_1_method_22_code
def yX5_ifHit : MethodName := ⟨RX5, "ifHit", "(III)I"⟩
abbrev cX5_silentIn : ByteArray := prog_1_method_23_code
def yX5_silentIn : MethodName := ⟨RX5, "silentIn", "()I"⟩
abbrev cX5_chord : ByteArray := prog_1_method_24_code
def yX5_chord : MethodName := ⟨RX5, "chord", "(III)I"⟩
abbrev cX5_undo : ByteArray := prog_1_method_25_code
def yX5_undo : MethodName := ⟨RX5, "undo", "()I"⟩
abbrev cX5_save : ByteArray := prog_1_method_26_code
def yX5_save : MethodName := ⟨RX5, "save", "()I"⟩
abbrev cX5_restore : ByteArray := prog_1_method_27_code
def yX5_restore : MethodName := ⟨RX5, "restore", "()I"⟩
abbrev cX5_doDeed : ByteArray := prog_1_method_28_code
def yX5_doDeed : MethodName := ⟨RX5, "doDeed", "()V"⟩
abbrev cX5_within : ByteArray := prog_1_method_29_code
def yX5_within : MethodName := ⟨RX5, "within", "(III)Z"⟩
abbrev cX5_isNote : ByteArray := prog_1_method_30_code
def yX5_isNote : MethodName := ⟨RX5, "isNote", "(II)Z"⟩
abbrev cX5_isSetting : ByteArray := prog_1_method_31_code
def yX5_isSetting : MethodName := ⟨RX5, "isSetting", "(II)Z"⟩
def RX6 : String := "ZoneSamplerModel"
def TX6 : u_T := fun k => match k with
  | 0 => ("ZoneSamplerModel", "s", "[I", true)
  | 1 => ("ZoneSamplerModel", "aside", "[I", true)
  | 2 => ("ZoneSamplerModel", "past", "[I", true)
  | 3 => ("ZoneSamplerModel", "known", "I", false)
  | 4 => ("ZoneSamplerModel", "kept", "[I", true)
  | 5 => ("ZoneSamplerModel", "isKept", "Z", false)
  | 6 => ("ZoneSamplerModel", "pad", "[I", true)
  | 7 => ("ZoneSamplerModel", "length", "I", false)
  | 8 => ("ZoneSamplerModel", "sounds", "[Z", true)
  | 9 => ("ZoneSamplerModel", "firstZone", "I", false)
  | 10 => ("ZoneSamplerModel", "spot", "I", false)
  | 11 => ("ZoneSamplerModel", "isForm", "Z", false)
  | 12 => ("ZoneSamplerModel", "read", "[I", true)
  | 13 => ("ZoneSamplerModel", "reads", "I", false)
  | 14 => ("ZoneSamplerModel", "letter", "I", false)
  | 15 => ("ZoneSamplerModel", "first", "I", false)
  | _ => ("ZoneSamplerModel", "second", "I", false)
def tyX6 : Nat → FieldType := fun k => match k with
  | 0 => .array .int
  | 1 => .array .int
  | 2 => .array .int
  | 3 => .int
  | 4 => .array .int
  | 5 => .boolean
  | 6 => .array .int
  | 7 => .int
  | 8 => .array .boolean
  | 9 => .int
  | 10 => .int
  | 11 => .boolean
  | 12 => .array .int
  | 13 => .int
  | 14 => .int
  | 15 => .int
  | _ => .int
abbrev wsX60 : List Cond := u_ws RX6 TX6 17
theorem nmX6 : ∀ a, a < 17 → ∀ b, b < 17 → a ≠ b → (TX6 a).2.1 ≠ (TX6 b).2.1 := by decide +kernel
theorem tyX6_ok : ∀ k, k < 17 → parseFieldDescriptor (TX6 k).2.2.1 = some (tyX6 k) := by decide +kernel
abbrev cX6_init : ByteArray := prog_8_method_1_code
def yX6_init : MethodName := ⟨RX6, "<init>", "()V"⟩
abbrev cX6_in : ByteArray := prog_8_method_3_code
def yX6_in : MethodName := ⟨RX6, "in", "(III)Z"⟩
abbrev cX6_copies : ByteArray := prog_8_method_4_code
def yX6_copies : MethodName := ⟨RX6, "copies", "([II[II)V"⟩
abbrev cX6_records : ByteArray := prog_8_method_5_code
def yX6_records : MethodName := ⟨RX6, "records", "()V"⟩
abbrev cX6_isZone : ByteArray := prog_8_method_6_code
def yX6_isZone : MethodName := ⟨RX6, "isZone", "(I)Z"⟩
abbrev cX6_ofZone : ByteArray := prog_8_method_7_code
def yX6_ofZone : MethodName := ⟨RX6, "ofZone", "(II)I"⟩
abbrev cX6_laysZone : ByteArray := prog_8_method_8_code
def yX6_laysZone : MethodName := ⟨RX6, "laysZone", "(III)V"⟩
abbrev cX6_of : ByteArray := prog_8_method_9_code
def yX6_of : MethodName := ⟨RX6, "of", "(II)I"⟩
abbrev cX6_lays : ByteArray := prog_8_method_10_code
def yX6_lays : MethodName := ⟨RX6, "lays", "(III)V"⟩
abbrev cX6_isAnswer : ByteArray := prog_8_method_11_code
def yX6_isAnswer : MethodName := ⟨RX6, "isAnswer", "(III)Z"⟩
abbrev cX6_answering : ByteArray := prog_8_method_12_code
def yX6_answering : MethodName := ⟨RX6, "answering", "(II)I"⟩
abbrev cX6_ofRobin : ByteArray := prog_8_method_13_code
def yX6_ofRobin : MethodName := ⟨RX6, "ofRobin", "(IIII)I"⟩
abbrev cX6_isSounding : ByteArray := prog_8_method_14_code
def yX6_isSounding : MethodName := ⟨RX6, "isSounding", "(III)Z"⟩
abbrev cX6_dropsVoice : ByteArray := prog_8_method_15_code
def yX6_dropsVoice : MethodName := ⟨RX6, "dropsVoice", "(I)V"⟩
abbrev cX6_soon : ByteArray := prog_8_method_16_code
def yX6_soon : MethodName := ⟨RX6, "soon", "(I)I"⟩
abbrev cX6_steals : ByteArray := prog_8_method_17_code
def yX6_steals : MethodName := ⟨RX6, "steals", "()V"⟩
abbrev cX6_chokes : ByteArray := prog_8_method_18_code
def yX6_chokes : MethodName := ⟨RX6, "chokes", "(I)V"⟩
abbrev cX6_begins : ByteArray := prog_8_method_19_code
def yX6_begins : MethodName := ⟨RX6, "begins", "(III)V"⟩
abbrev cX6_goHit : ByteArray := prog_8_method_20_code
def yX6_goHit : MethodName := ⟨RX6, "goHit", "(II)I"⟩
abbrev cX6_goLet : ByteArray := prog_8_method_21_code
def yX6_goLet : MethodName := ⟨RX6, "goLet", "(I)I"⟩
abbrev cX6_goPedal : ByteArray := prog_8_method_22_code
def yX6_goPedal : MethodName := ⟨RX6, "goPedal", "()I"⟩
abbrev cX6_tick : ByteArray := prog_8_method_23_code
def yX6_tick : MethodName := ⟨RX6, "tick", "()I"⟩
abbrev cX6_goPass : ByteArray := prog_8_method_24_code
def yX6_goPass : MethodName := ⟨RX6, "goPass", "(I)I"⟩
abbrev cX6_addsZone : ByteArray := prog_8_method_25_code
def yX6_addsZone : MethodName := ⟨RX6, "addsZone", "(IIII)V"⟩
abbrev cX6_zone : ByteArray := prog_8_method_26_code
def yX6_zone : MethodName := ⟨RX6, "zone", "(IIII)I"⟩
abbrev cX6_like : ByteArray := prog_8_method_27_code
def yX6_like : MethodName := ⟨RX6, "like", "(IIII)I"⟩
abbrev cX6_takeZone : ByteArray := prog_8_method_28_code
def yX6_takeZone : MethodName := ⟨RX6, "takeZone", "(I)I"⟩
abbrev cX6_isNote : ByteArray := prog_8_method_29_code
def yX6_isNote : MethodName := ⟨RX6, "isNote", "(II)Z"⟩
abbrev cX6_hit : ByteArray := prog_8_method_30_code
def yX6_hit : MethodName := ⟨RX6, "hit", "(II)I"⟩
abbrev cX6_letGo : ByteArray := prog_8_method_31_code
def yX6_letGo : MethodName := ⟨RX6, "letGo", "(I)I"⟩
abbrev cX6_pedal : ByteArray := prog_8_method_32_code
def yX6_pedal : MethodName := ⟨RX6, "pedal", "()I"⟩
abbrev cX6_pass : ByteArray := prog_8_method_33_code
def yX6_pass : MethodName := ⟨RX6, "pass", "(I)I"⟩
abbrev cX6_silence : ByteArray := prog_8_method_34_code
def yX6_silence : MethodName := ⟨RX6, "silence", "()I"⟩
abbrev cX6_leastOf : ByteArray := prog_8_method_35_code
def yX6_leastOf : MethodName := ⟨RX6, "leastOf", "(I)I"⟩
abbrev cX6_mostOf : ByteArray := prog_8_method_36_code
def yX6_mostOf : MethodName := ⟨RX6, "mostOf", "(I)I"⟩
abbrev cX6_set : ByteArray := prog_8_method_37_code
def yX6_set : MethodName := ⟨RX6, "set", "(II)I"⟩
abbrev cX6_append : ByteArray := prog_8_method_38_code
def yX6_append : MethodName := ⟨RX6, "append", "(I)I"⟩
abbrev cX6_clear : ByteArray := prog_8_method_39_code
def yX6_clear : MethodName := ⟨RX6, "clear", "()I"⟩
abbrev cX6_here : ByteArray := prog_8_method_40_code
def yX6_here : MethodName := ⟨RX6, "here", "()I"⟩
abbrev cX6_takes : ByteArray := prog_8_method_41_code
def yX6_takes : MethodName := ⟨RX6, "takes", "(Z)V"⟩
abbrev cX6_canBegin : ByteArray := prog_8_method_42_code
def yX6_canBegin : MethodName := ⟨RX6, "canBegin", "(III)Z"⟩
abbrev cX6_takesNumber : ByteArray := prog_8_method_43_code
def yX6_takesNumber : MethodName := ⟨RX6, "takesNumber", "(II)I"⟩
abbrev cX6_takesRange : ByteArray := prog_8_method_44_code
def yX6_takesRange : MethodName := ⟨RX6, "takesRange", "(III)V"⟩
abbrev cX6_takesMark : ByteArray := prog_8_method_45_code
def yX6_takesMark : MethodName := ⟨RX6, "takesMark", "(II)I"⟩
abbrev cX6_takesZone : ByteArray := prog_8_method_46_code
def yX6_takesZone : MethodName := ⟨RX6, "takesZone", "()V"⟩
abbrev cX6_areZones : ByteArray := prog_8_method_47_code
def yX6_areZones : MethodName := ⟨RX6, "areZones", "()Z"⟩
abbrev cX6_takesDeed : ByteArray := prog_8_method_48_code
def yX6_takesDeed : MethodName := ⟨RX6, "takesDeed", "()V"⟩
abbrev cX6_isScore : ByteArray := prog_8_method_49_code
def yX6_isScore : MethodName := ⟨RX6, "isScore", "()Z"⟩
abbrev cX6_fault : ByteArray := prog_8_method_50_code
def yX6_fault : MethodName := ⟨RX6, "fault", "(I)I"⟩
abbrev cX6_load : ByteArray := prog_8_method_51_code
def yX6_load : MethodName := ⟨RX6, "load", "()I"⟩
abbrev cX6_doesDeed : ByteArray := prog_8_method_52_code
def yX6_doesDeed : MethodName := ⟨RX6, "doesDeed", "()V"⟩
abbrev cX6_play : ByteArray := prog_8_method_53_code
def yX6_play : MethodName := ⟨RX6, "play", "()I"⟩
abbrev cX6_voicesOf : ByteArray := prog_8_method_54_code
def yX6_voicesOf : MethodName := ⟨RX6, "voicesOf", "(I)I"⟩
abbrev cX6_canSound : ByteArray := prog_8_method_55_code
def yX6_canSound : MethodName := ⟨RX6, "canSound", "(I)Z"⟩
abbrev cX6_zoneOf : ByteArray := prog_8_method_56_code
def yX6_zoneOf : MethodName := ⟨RX6, "zoneOf", "(II)I"⟩
abbrev cX6_rankOf : ByteArray := prog_8_method_57_code
def yX6_rankOf : MethodName := ⟨RX6, "rankOf", "(I)I"⟩
abbrev cX6_voice : ByteArray := prog_8_method_58_code
def yX6_voice : MethodName := ⟨RX6, "voice", "(II)I"⟩
abbrev cX6_answers : ByteArray := prog_8_method_59_code
def yX6_answers : MethodName := ⟨RX6, "answers", "(II)I"⟩
abbrev cX6_map : ByteArray := prog_8_method_60_code
def yX6_map : MethodName := ⟨RX6, "map", "(II)I"⟩
abbrev cX6_inState : ByteArray := prog_8_method_61_code
def yX6_inState : MethodName := ⟨RX6, "inState", "(I)I"⟩
abbrev cX6_allLoud : ByteArray := prog_8_method_62_code
def yX6_allLoud : MethodName := ⟨RX6, "allLoud", "()I"⟩
abbrev cX6_count : ByteArray := prog_8_method_63_code
def yX6_count : MethodName := ⟨RX6, "count", "(I)I"⟩
abbrev cX6_loudness : ByteArray := prog_8_method_64_code
def yX6_loudness : MethodName := ⟨RX6, "loudness", "()D"⟩
abbrev cX6_ifHit : ByteArray := prog_8_method_65_code
def yX6_ifHit : MethodName := ⟨RX6, "ifHit", "(III)I"⟩
abbrev cX6_silentIn : ByteArray := prog_8_method_66_code
def yX6_silentIn : MethodName := ⟨RX6, "silentIn", "()I"⟩
abbrev cX6_chord : ByteArray := prog_8_method_67_code
def yX6_chord : MethodName := ⟨RX6, "chord", "(III)I"⟩
abbrev cX6_undo : ByteArray := prog_8_method_68_code
def yX6_undo : MethodName := ⟨RX6, "undo", "()I"⟩
abbrev cX6_save : ByteArray := prog_8_method_69_code
def yX6_save : MethodName := ⟨RX6, "save", "()I"⟩
abbrev cX6_restore : ByteArray := prog_8_method_70_code
def yX6_restore : MethodName := ⟨RX6, "restore", "()I"⟩
def RJ9 : String := "java/lang/Math"
def TJ9 : u_T := fun k => match k with
  | _ => ("", "", "", false)
def tyJ9 : Nat → FieldType := fun k => match k with
  | _ => .int
abbrev wsJ90 : List Cond := u_ws RJ9 TJ9 0
theorem nmJ9 : ∀ a, a < 0 → ∀ b, b < 0 → a ≠ b → (TJ9 a).2.1 ≠ (TJ9 b).2.1 := by decide +kernel
theorem tyJ9_ok : ∀ k, k < 0 → parseFieldDescriptor (TJ9 k).2.2.1 = some (tyJ9 k) := by decide +kernel
abbrev cJ9_max_7cf53 : ByteArray := prog_9_method_65_code
def yJ9_max_7cf53 : MethodName := ⟨RJ9, "max", "(II)I"⟩
abbrev cJ9_min_7cf53 : ByteArray := prog_9_method_69_code
def yJ9_min_7cf53 : MethodName := ⟨RJ9, "min", "(II)I"⟩
def RJ10 : String := "java/lang/System"
def TJ10 : u_T := fun k => match k with
  | _ => ("", "", "", false)
def tyJ10 : Nat → FieldType := fun k => match k with
  | _ => .int
abbrev wsJ100 : List Cond := u_ws RJ10 TJ10 0
theorem nmJ10 : ∀ a, a < 0 → ∀ b, b < 0 → a ≠ b → (TJ10 a).2.1 ≠ (TJ10 b).2.1 := by decide +kernel
theorem tyJ10_ok : ∀ k, k < 0 → parseFieldDescriptor (TJ10 k).2.2.1 = some (tyJ10 k) := by decide +kernel
def RL : String := "ZoneSamplerLaw"
abbrev cL_law : ByteArray := code
def yL_law : MethodName := ⟨RL, "law", "([I)Z"⟩
def wsX4_init : List Cond := .code yX4_init cX4_init 3 none :: ([.methodLink RX4 1 objectInit, .instanceMethod objectInit, .code objectInit ⟨#[0xb1]⟩ 1 none, .fieldLink RX4 7 "ZoneSampler$Table" "width" "I", .arrayClass .int, .fieldLink RX4 13 "ZoneSampler$Table" "cells" "[I"] ++ wsX40)
def wsX2_putNumber : List Cond := .code yX2_putNumber cX2_putNumber 3 none :: ([.fieldLink RX2 23 "ZoneSampler$State" "numbers" "[I"] ++ wsX20)
def wsX2_init : List Cond := .code yX2_init cX2_init 1 none :: ([.methodLink RX2 3 objectInit, .instanceMethod objectInit, .code objectInit ⟨#[0xb1]⟩ 1 none, .classLink RX2 9 RX4, .instantiable RX4 3, .initialized RX4, .fieldLink RX2 14 "ZoneSampler$State" "zones" "LZoneSampler$Table;", .fieldLink RX2 20 "ZoneSampler$State" "voices" "LZoneSampler$Table;", .arrayClass .int, .fieldLink RX2 23 "ZoneSampler$State" "numbers" "[I", .methodLink RX2 11 yX4_init, .instanceMethod yX4_init, .code yX4_init cX4_init 3 none, .methodLink RX4 1 objectInit, .fieldLink RX4 7 "ZoneSampler$Table" "width" "I", .fieldLink RX4 13 "ZoneSampler$Table" "cells" "[I", .methodLink RX2 27 yX2_putNumber, .instanceMethod yX2_putNumber, .selects RX2 yX2_putNumber yX2_putNumber, .initialized RX2, .code yX2_putNumber cX2_putNumber 3 none] ++ wsX40 ++ wsX20)
def wsX0_init_r1 : List Cond := [Cond.methodLink RX0 3 objectInit, Cond.instanceMethod objectInit, Cond.code objectInit ⟨#[0xb1]⟩ 1 none, Cond.classLink RX0 9 RX2, Cond.instantiable RX2 5, Cond.initialized RX2, Cond.fieldLink RX0 12 "ZoneSampler$History" "first" "LZoneSampler$State;", Cond.fieldLink RX0 18 "ZoneSampler$History" "second" "LZoneSampler$State;", Cond.fieldLink RX0 21 "ZoneSampler$History" "third" "LZoneSampler$State;", Cond.fieldLink RX0 24 "ZoneSampler$History" "fourth" "LZoneSampler$State;", Cond.methodLink RX0 11 yX2_init, Cond.instanceMethod yX2_init, Cond.code yX2_init cX2_init 1 none, Cond.methodLink RX2 3 objectInit, Cond.classLink RX2 9 RX4, Cond.instantiable RX4 3, Cond.initialized RX4, Cond.fieldLink RX2 14 "ZoneSampler$State" "zones" "LZoneSampler$Table;", Cond.fieldLink RX2 20 "ZoneSampler$State" "voices" "LZoneSampler$Table;", Cond.arrayClass .int, Cond.fieldLink RX2 23 "ZoneSampler$State" "numbers" "[I", Cond.methodLink RX2 11 yX4_init, Cond.instanceMethod yX4_init, Cond.code yX4_init cX4_init 3 none]
def wsX0_init_r2 : List Cond := [Cond.methodLink RX4 1 objectInit, Cond.fieldLink RX4 7 "ZoneSampler$Table" "width" "I", Cond.fieldLink RX4 13 "ZoneSampler$Table" "cells" "[I", Cond.methodLink RX2 27 yX2_putNumber, Cond.instanceMethod yX2_putNumber, Cond.selects RX2 yX2_putNumber yX2_putNumber, Cond.code yX2_putNumber cX2_putNumber 3 none]
def wsX0_init : List Cond := .code yX0_init cX0_init 1 none :: ((wsX0_init_r1 ++ wsX0_init_r2) ++ wsX20 ++ wsX00 ++ wsX40)
def wsX0_size : List Cond := .code yX0_size cX0_size 1 (some .int) :: ([.fieldLink RX0 27 "ZoneSampler$History" "kept" "I"] ++ wsX00)
def wsX0_stateAt : List Cond := .code yX0_stateAt cX0_stateAt 2 (some (.object "ZoneSampler$State")) :: ([.fieldLink RX0 12 "ZoneSampler$History" "first" "LZoneSampler$State;", .fieldLink RX0 18 "ZoneSampler$History" "second" "LZoneSampler$State;", .fieldLink RX0 21 "ZoneSampler$History" "third" "LZoneSampler$State;", .fieldLink RX0 24 "ZoneSampler$History" "fourth" "LZoneSampler$State;"] ++ wsX00)
def wsX4_copyFrom : List Cond := .code yX4_copyFrom cX4_copyFrom 2 none :: ([.fieldLink RX4 13 "ZoneSampler$Table" "cells" "[I", .methodLink RX4 28 Lib.Math.min.name, .static Lib.Math.min.name, .initialized "java/lang/Math", .code Lib.Math.min.name Lib.Math.min.code 2 (some .int), .methodLink RX4 33 arraycopyName, .native arraycopyName, .static arraycopyName, .initialized "java/lang/System", .fieldLink RX4 17 "ZoneSampler$Table" "rows" "I"] ++ wsX40)
def wsX2_copyFrom : List Cond := .code yX2_copyFrom cX2_copyFrom 2 none :: ([.fieldLink RX2 14 "ZoneSampler$State" "zones" "LZoneSampler$Table;", .fieldLink RX2 20 "ZoneSampler$State" "voices" "LZoneSampler$Table;", .fieldLink RX2 23 "ZoneSampler$State" "numbers" "[I", .methodLink RX2 34 Lib.Math.min.name, .static Lib.Math.min.name, .initialized "java/lang/Math", .code Lib.Math.min.name Lib.Math.min.code 2 (some .int), .methodLink RX2 40 arraycopyName, .native arraycopyName, .static arraycopyName, .initialized "java/lang/System", .fieldLink RX2 46 "ZoneSampler$State" "pedalDown" "Z", .fieldLink RX2 50 "ZoneSampler$State" "notes" "I", .methodLink RX2 30 yX4_copyFrom, .instanceMethod yX4_copyFrom, .selects RX4 yX4_copyFrom yX4_copyFrom, .initialized RX4, .code yX4_copyFrom cX4_copyFrom 2 none, .fieldLink RX4 13 "ZoneSampler$Table" "cells" "[I", .methodLink RX4 28 Lib.Math.min.name, .methodLink RX4 33 arraycopyName, .fieldLink RX4 17 "ZoneSampler$Table" "rows" "I"] ++ wsX20 ++ wsX40)
def wsX0_record_r1 : List Cond := [Cond.fieldLink RX0 27 "ZoneSampler$History" "kept" "I", Cond.fieldLink RX0 12 "ZoneSampler$History" "first" "LZoneSampler$State;", Cond.fieldLink RX0 18 "ZoneSampler$History" "second" "LZoneSampler$State;", Cond.fieldLink RX0 21 "ZoneSampler$History" "third" "LZoneSampler$State;", Cond.fieldLink RX0 24 "ZoneSampler$History" "fourth" "LZoneSampler$State;", Cond.methodLink RX0 31 yX0_stateAt, Cond.instanceMethod yX0_stateAt, Cond.selects RX0 yX0_stateAt yX0_stateAt, Cond.initialized RX0, Cond.code yX0_stateAt cX0_stateAt 2 (some (.object "ZoneSampler$State")), Cond.methodLink RX0 35 yX2_copyFrom, Cond.instanceMethod yX2_copyFrom, Cond.selects RX2 yX2_copyFrom yX2_copyFrom, Cond.initialized RX2, Cond.code yX2_copyFrom cX2_copyFrom 2 none, Cond.fieldLink RX2 14 "ZoneSampler$State" "zones" "LZoneSampler$Table;", Cond.fieldLink RX2 20 "ZoneSampler$State" "voices" "LZoneSampler$Table;", Cond.fieldLink RX2 23 "ZoneSampler$State" "numbers" "[I", Cond.methodLink RX2 34 Lib.Math.min.name, Cond.static Lib.Math.min.name, Cond.initialized "java/lang/Math", Cond.code Lib.Math.min.name Lib.Math.min.code 2 (some .int), Cond.methodLink RX2 40 arraycopyName, Cond.native arraycopyName]
def wsX0_record_r2 : List Cond := [Cond.static arraycopyName, Cond.initialized "java/lang/System", Cond.fieldLink RX2 46 "ZoneSampler$State" "pedalDown" "Z", Cond.fieldLink RX2 50 "ZoneSampler$State" "notes" "I", Cond.methodLink RX2 30 yX4_copyFrom, Cond.instanceMethod yX4_copyFrom, Cond.selects RX4 yX4_copyFrom yX4_copyFrom, Cond.initialized RX4, Cond.code yX4_copyFrom cX4_copyFrom 2 none, Cond.fieldLink RX4 13 "ZoneSampler$Table" "cells" "[I", Cond.methodLink RX4 28 Lib.Math.min.name, Cond.methodLink RX4 33 arraycopyName, Cond.fieldLink RX4 17 "ZoneSampler$Table" "rows" "I"]
def wsX0_record : List Cond := .code yX0_record cX0_record 3 none :: ((wsX0_record_r1 ++ wsX0_record_r2) ++ wsX00 ++ wsX20 ++ wsX40)
def wsX0_goBack_r1 : List Cond := [Cond.fieldLink RX0 27 "ZoneSampler$History" "kept" "I", Cond.methodLink RX0 31 yX0_stateAt, Cond.instanceMethod yX0_stateAt, Cond.selects RX0 yX0_stateAt yX0_stateAt, Cond.initialized RX0, Cond.code yX0_stateAt cX0_stateAt 2 (some (.object "ZoneSampler$State")), Cond.fieldLink RX0 12 "ZoneSampler$History" "first" "LZoneSampler$State;", Cond.fieldLink RX0 18 "ZoneSampler$History" "second" "LZoneSampler$State;", Cond.fieldLink RX0 21 "ZoneSampler$History" "third" "LZoneSampler$State;", Cond.fieldLink RX0 24 "ZoneSampler$History" "fourth" "LZoneSampler$State;", Cond.methodLink RX0 35 yX2_copyFrom, Cond.instanceMethod yX2_copyFrom, Cond.selects RX2 yX2_copyFrom yX2_copyFrom, Cond.initialized RX2, Cond.code yX2_copyFrom cX2_copyFrom 2 none, Cond.fieldLink RX2 14 "ZoneSampler$State" "zones" "LZoneSampler$Table;", Cond.fieldLink RX2 20 "ZoneSampler$State" "voices" "LZoneSampler$Table;", Cond.fieldLink RX2 23 "ZoneSampler$State" "numbers" "[I", Cond.methodLink RX2 34 Lib.Math.min.name, Cond.static Lib.Math.min.name, Cond.initialized "java/lang/Math", Cond.code Lib.Math.min.name Lib.Math.min.code 2 (some .int), Cond.methodLink RX2 40 arraycopyName, Cond.native arraycopyName]
def wsX0_goBack_r2 : List Cond := [Cond.static arraycopyName, Cond.initialized "java/lang/System", Cond.fieldLink RX2 46 "ZoneSampler$State" "pedalDown" "Z", Cond.fieldLink RX2 50 "ZoneSampler$State" "notes" "I", Cond.methodLink RX2 30 yX4_copyFrom, Cond.instanceMethod yX4_copyFrom, Cond.selects RX4 yX4_copyFrom yX4_copyFrom, Cond.initialized RX4, Cond.code yX4_copyFrom cX4_copyFrom 2 none, Cond.fieldLink RX4 13 "ZoneSampler$Table" "cells" "[I", Cond.methodLink RX4 28 Lib.Math.min.name, Cond.methodLink RX4 33 arraycopyName, Cond.fieldLink RX4 17 "ZoneSampler$Table" "rows" "I"]
def wsX0_goBack : List Cond := .code yX0_goBack cX0_goBack 2 none :: ((wsX0_goBack_r1 ++ wsX0_goBack_r2) ++ wsX00 ++ wsX20 ++ wsX40)
def wsX1_init : List Cond := .code yX1_init cX1_init 1 none :: ([.methodLink RX1 3 objectInit, .instanceMethod objectInit, .code objectInit ⟨#[0xb1]⟩ 1 none, .arrayClass .char, .fieldLink RX1 9 "ZoneSampler$Pad" "signs" "[C"] ++ wsX10)
def wsX1_length : List Cond := .code yX1_length cX1_length 1 (some .int) :: ([.fieldLink RX1 15 "ZoneSampler$Pad" "length" "I"] ++ wsX10)
def wsX1_add : List Cond := .code yX1_add cX1_add 2 none :: ([.fieldLink RX1 15 "ZoneSampler$Pad" "length" "I", .fieldLink RX1 9 "ZoneSampler$Pad" "signs" "[C"] ++ wsX10)
def wsX1_empty : List Cond := .code yX1_empty cX1_empty 1 none :: ([.fieldLink RX1 15 "ZoneSampler$Pad" "length" "I"] ++ wsX10)
def wsX1_rewind : List Cond := .code yX1_rewind cX1_rewind 1 none :: ([.fieldLink RX1 19 "ZoneSampler$Pad" "at" "I"] ++ wsX10)
def wsX1_items : List Cond := .code yX1_items cX1_items 3 (some .int) :: ([.fieldLink RX1 15 "ZoneSampler$Pad" "length" "I", .fieldLink RX1 9 "ZoneSampler$Pad" "signs" "[C"] ++ wsX10)
def wsX1_sign : List Cond := .code yX1_sign cX1_sign 1 (some .int) :: ([.fieldLink RX1 19 "ZoneSampler$Pad" "at" "I", .fieldLink RX1 15 "ZoneSampler$Pad" "length" "I", .fieldLink RX1 9 "ZoneSampler$Pad" "signs" "[C"] ++ wsX10)
def wsX1_canBegin : List Cond := .code yX1_canBegin cX1_canBegin 5 (some .boolean) :: ([])
def wsX1_readNumber : List Cond := .code yX1_readNumber cX1_readNumber 8 (some .boolean) :: ([.fieldLink RX1 47 "ZoneSampler$Pad" "value" "I", .fieldLink RX1 19 "ZoneSampler$Pad" "at" "I", .methodLink RX1 40 yX1_sign, .instanceMethod yX1_sign, .selects RX1 yX1_sign yX1_sign, .initialized RX1, .code yX1_sign cX1_sign 1 (some .int), .fieldLink RX1 15 "ZoneSampler$Pad" "length" "I", .fieldLink RX1 9 "ZoneSampler$Pad" "signs" "[C", .methodLink RX1 89 yX1_canBegin, .static yX1_canBegin, .code yX1_canBegin cX1_canBegin 5 (some .boolean)] ++ wsX10)
def wsX1_readSign : List Cond := .code yX1_readSign cX1_readSign 3 (some .boolean) :: ([.fieldLink RX1 19 "ZoneSampler$Pad" "at" "I", .methodLink RX1 40 yX1_sign, .instanceMethod yX1_sign, .selects RX1 yX1_sign yX1_sign, .initialized RX1, .code yX1_sign cX1_sign 1 (some .int), .fieldLink RX1 15 "ZoneSampler$Pad" "length" "I", .fieldLink RX1 9 "ZoneSampler$Pad" "signs" "[C"] ++ wsX10)
def wsX1_readMark : List Cond := .code yX1_readMark cX1_readMark 3 (some .boolean) :: ([.fieldLink RX1 47 "ZoneSampler$Pad" "value" "I", .methodLink RX1 36 yX1_readSign, .instanceMethod yX1_readSign, .selects RX1 yX1_readSign yX1_readSign, .initialized RX1, .code yX1_readSign cX1_readSign 3 (some .boolean), .fieldLink RX1 19 "ZoneSampler$Pad" "at" "I", .methodLink RX1 40 yX1_sign, .instanceMethod yX1_sign, .selects RX1 yX1_sign yX1_sign, .code yX1_sign cX1_sign 1 (some .int), .fieldLink RX1 15 "ZoneSampler$Pad" "length" "I", .fieldLink RX1 9 "ZoneSampler$Pad" "signs" "[C", .methodLink RX1 43 yX1_readNumber, .instanceMethod yX1_readNumber, .selects RX1 yX1_readNumber yX1_readNumber, .code yX1_readNumber cX1_readNumber 8 (some .boolean), .methodLink RX1 89 yX1_canBegin, .static yX1_canBegin, .code yX1_canBegin cX1_canBegin 5 (some .boolean)] ++ wsX10)
def wsX1_readZone_r1 : List Cond := [Cond.fieldLink RX1 47 "ZoneSampler$Pad" "value" "I", Cond.fieldLink RX1 50 "ZoneSampler$Pad" "low" "I", Cond.fieldLink RX1 53 "ZoneSampler$Pad" "high" "I", Cond.fieldLink RX1 56 "ZoneSampler$Pad" "softest" "I", Cond.fieldLink RX1 59 "ZoneSampler$Pad" "hardest" "I", Cond.fieldLink RX1 62 "ZoneSampler$Pad" "lasting" "I", Cond.fieldLink RX1 68 "ZoneSampler$Pad" "group" "I", Cond.fieldLink RX1 71 "ZoneSampler$Pad" "robin" "I", Cond.methodLink RX1 43 yX1_readNumber, Cond.instanceMethod yX1_readNumber, Cond.selects RX1 yX1_readNumber yX1_readNumber, Cond.initialized RX1, Cond.code yX1_readNumber cX1_readNumber 8 (some .boolean), Cond.fieldLink RX1 19 "ZoneSampler$Pad" "at" "I", Cond.methodLink RX1 40 yX1_sign, Cond.instanceMethod yX1_sign, Cond.selects RX1 yX1_sign yX1_sign, Cond.code yX1_sign cX1_sign 1 (some .int), Cond.fieldLink RX1 15 "ZoneSampler$Pad" "length" "I", Cond.fieldLink RX1 9 "ZoneSampler$Pad" "signs" "[C", Cond.methodLink RX1 89 yX1_canBegin, Cond.static yX1_canBegin, Cond.code yX1_canBegin cX1_canBegin 5 (some .boolean), Cond.methodLink RX1 36 yX1_readSign]
def wsX1_readZone_r2 : List Cond := [Cond.instanceMethod yX1_readSign, Cond.selects RX1 yX1_readSign yX1_readSign, Cond.code yX1_readSign cX1_readSign 3 (some .boolean), Cond.methodLink RX1 65 yX1_readMark, Cond.instanceMethod yX1_readMark, Cond.selects RX1 yX1_readMark yX1_readMark, Cond.code yX1_readMark cX1_readMark 3 (some .boolean)]
def wsX1_readZone : List Cond := .code yX1_readZone cX1_readZone 2 (some .boolean) :: ((wsX1_readZone_r1 ++ wsX1_readZone_r2) ++ wsX10)
def wsX1_readDeedKey : List Cond := .code yX1_readDeedKey cX1_readDeedKey 2 (some .boolean) :: ([.fieldLink RX1 47 "ZoneSampler$Pad" "value" "I", .fieldLink RX1 83 "ZoneSampler$Pad" "deedKey" "I", .methodLink RX1 43 yX1_readNumber, .instanceMethod yX1_readNumber, .selects RX1 yX1_readNumber yX1_readNumber, .initialized RX1, .code yX1_readNumber cX1_readNumber 8 (some .boolean), .fieldLink RX1 19 "ZoneSampler$Pad" "at" "I", .methodLink RX1 40 yX1_sign, .instanceMethod yX1_sign, .selects RX1 yX1_sign yX1_sign, .code yX1_sign cX1_sign 1 (some .int), .fieldLink RX1 15 "ZoneSampler$Pad" "length" "I", .fieldLink RX1 9 "ZoneSampler$Pad" "signs" "[C", .methodLink RX1 89 yX1_canBegin, .static yX1_canBegin, .code yX1_canBegin cX1_canBegin 5 (some .boolean)] ++ wsX10)
def wsX1_readAmount : List Cond := .code yX1_readAmount cX1_readAmount 3 (some .boolean) :: ([.fieldLink RX1 47 "ZoneSampler$Pad" "value" "I", .fieldLink RX1 86 "ZoneSampler$Pad" "amount" "I", .methodLink RX1 43 yX1_readNumber, .instanceMethod yX1_readNumber, .selects RX1 yX1_readNumber yX1_readNumber, .initialized RX1, .code yX1_readNumber cX1_readNumber 8 (some .boolean), .fieldLink RX1 19 "ZoneSampler$Pad" "at" "I", .methodLink RX1 40 yX1_sign, .instanceMethod yX1_sign, .selects RX1 yX1_sign yX1_sign, .code yX1_sign cX1_sign 1 (some .int), .fieldLink RX1 15 "ZoneSampler$Pad" "length" "I", .fieldLink RX1 9 "ZoneSampler$Pad" "signs" "[C", .methodLink RX1 89 yX1_canBegin, .static yX1_canBegin, .code yX1_canBegin cX1_canBegin 5 (some .boolean)] ++ wsX10)
def wsX1_readDeed_r1 : List Cond := [Cond.fieldLink RX1 74 "ZoneSampler$Pad" "deed" "I", Cond.fieldLink RX1 19 "ZoneSampler$Pad" "at" "I", Cond.methodLink RX1 40 yX1_sign, Cond.instanceMethod yX1_sign, Cond.selects RX1 yX1_sign yX1_sign, Cond.initialized RX1, Cond.code yX1_sign cX1_sign 1 (some .int), Cond.fieldLink RX1 15 "ZoneSampler$Pad" "length" "I", Cond.fieldLink RX1 9 "ZoneSampler$Pad" "signs" "[C", Cond.methodLink RX1 77 yX1_readDeedKey, Cond.instanceMethod yX1_readDeedKey, Cond.selects RX1 yX1_readDeedKey yX1_readDeedKey, Cond.code yX1_readDeedKey cX1_readDeedKey 2 (some .boolean), Cond.fieldLink RX1 47 "ZoneSampler$Pad" "value" "I", Cond.fieldLink RX1 83 "ZoneSampler$Pad" "deedKey" "I", Cond.methodLink RX1 43 yX1_readNumber, Cond.instanceMethod yX1_readNumber, Cond.selects RX1 yX1_readNumber yX1_readNumber, Cond.code yX1_readNumber cX1_readNumber 8 (some .boolean), Cond.methodLink RX1 89 yX1_canBegin, Cond.static yX1_canBegin, Cond.code yX1_canBegin cX1_canBegin 5 (some .boolean), Cond.methodLink RX1 36 yX1_readSign, Cond.instanceMethod yX1_readSign]
def wsX1_readDeed_r2 : List Cond := [Cond.selects RX1 yX1_readSign yX1_readSign, Cond.code yX1_readSign cX1_readSign 3 (some .boolean), Cond.methodLink RX1 80 yX1_readAmount, Cond.instanceMethod yX1_readAmount, Cond.selects RX1 yX1_readAmount yX1_readAmount, Cond.code yX1_readAmount cX1_readAmount 3 (some .boolean), Cond.fieldLink RX1 86 "ZoneSampler$Pad" "amount" "I"]
def wsX1_readDeed : List Cond := .code yX1_readDeed cX1_readDeed 1 (some .boolean) :: ((wsX1_readDeed_r1 ++ wsX1_readDeed_r2) ++ wsX10)
def wsX1_faultAs_r1 : List Cond := [Cond.fieldLink RX1 19 "ZoneSampler$Pad" "at" "I", Cond.fieldLink RX1 15 "ZoneSampler$Pad" "length" "I", Cond.methodLink RX1 22 yX1_rewind, Cond.instanceMethod yX1_rewind, Cond.selects RX1 yX1_rewind yX1_rewind, Cond.initialized RX1, Cond.code yX1_rewind cX1_rewind 1 none, Cond.methodLink RX1 25 yX1_items, Cond.instanceMethod yX1_items, Cond.selects RX1 yX1_items yX1_items, Cond.code yX1_items cX1_items 3 (some .int), Cond.fieldLink RX1 9 "ZoneSampler$Pad" "signs" "[C", Cond.methodLink RX1 29 yX1_readZone, Cond.instanceMethod yX1_readZone, Cond.selects RX1 yX1_readZone yX1_readZone, Cond.code yX1_readZone cX1_readZone 2 (some .boolean), Cond.fieldLink RX1 47 "ZoneSampler$Pad" "value" "I", Cond.fieldLink RX1 50 "ZoneSampler$Pad" "low" "I", Cond.fieldLink RX1 53 "ZoneSampler$Pad" "high" "I", Cond.fieldLink RX1 56 "ZoneSampler$Pad" "softest" "I", Cond.fieldLink RX1 59 "ZoneSampler$Pad" "hardest" "I", Cond.fieldLink RX1 62 "ZoneSampler$Pad" "lasting" "I", Cond.fieldLink RX1 68 "ZoneSampler$Pad" "group" "I", Cond.fieldLink RX1 71 "ZoneSampler$Pad" "robin" "I"]
def wsX1_faultAs_r2 : List Cond := [Cond.methodLink RX1 43 yX1_readNumber, Cond.instanceMethod yX1_readNumber, Cond.selects RX1 yX1_readNumber yX1_readNumber, Cond.code yX1_readNumber cX1_readNumber 8 (some .boolean), Cond.methodLink RX1 40 yX1_sign, Cond.instanceMethod yX1_sign, Cond.selects RX1 yX1_sign yX1_sign, Cond.code yX1_sign cX1_sign 1 (some .int), Cond.methodLink RX1 89 yX1_canBegin, Cond.static yX1_canBegin, Cond.code yX1_canBegin cX1_canBegin 5 (some .boolean), Cond.methodLink RX1 36 yX1_readSign, Cond.instanceMethod yX1_readSign, Cond.selects RX1 yX1_readSign yX1_readSign, Cond.code yX1_readSign cX1_readSign 3 (some .boolean), Cond.methodLink RX1 65 yX1_readMark, Cond.instanceMethod yX1_readMark, Cond.selects RX1 yX1_readMark yX1_readMark, Cond.code yX1_readMark cX1_readMark 3 (some .boolean), Cond.methodLink RX1 33 yX1_readDeed, Cond.instanceMethod yX1_readDeed, Cond.selects RX1 yX1_readDeed yX1_readDeed, Cond.code yX1_readDeed cX1_readDeed 1 (some .boolean), Cond.fieldLink RX1 74 "ZoneSampler$Pad" "deed" "I"]
def wsX1_faultAs_r3 : List Cond := [Cond.methodLink RX1 77 yX1_readDeedKey, Cond.instanceMethod yX1_readDeedKey, Cond.selects RX1 yX1_readDeedKey yX1_readDeedKey, Cond.code yX1_readDeedKey cX1_readDeedKey 2 (some .boolean), Cond.fieldLink RX1 83 "ZoneSampler$Pad" "deedKey" "I", Cond.methodLink RX1 80 yX1_readAmount, Cond.instanceMethod yX1_readAmount, Cond.selects RX1 yX1_readAmount yX1_readAmount, Cond.code yX1_readAmount cX1_readAmount 3 (some .boolean), Cond.fieldLink RX1 86 "ZoneSampler$Pad" "amount" "I"]
def wsX1_faultAs : List Cond := .code yX1_faultAs cX1_faultAs 5 (some .int) :: ((wsX1_faultAs_r1 ++ (wsX1_faultAs_r2 ++ wsX1_faultAs_r3)) ++ wsX10)
def wsX2_number : List Cond := .code yX2_number cX2_number 2 (some .int) :: ([.fieldLink RX2 23 "ZoneSampler$State" "numbers" "[I"] ++ wsX20)
def wsX2_grow : List Cond := .code yX2_grow cX2_grow 3 none :: ([.methodLink RX2 54 yX2_number, .instanceMethod yX2_number, .selects RX2 yX2_number yX2_number, .initialized RX2, .code yX2_number cX2_number 2 (some .int), .fieldLink RX2 23 "ZoneSampler$State" "numbers" "[I", .methodLink RX2 27 yX2_putNumber, .instanceMethod yX2_putNumber, .selects RX2 yX2_putNumber yX2_putNumber, .code yX2_putNumber cX2_putNumber 3 none] ++ wsX20)
def wsX4_addRow : List Cond := .code yX4_addRow cX4_addRow 1 (some .int) :: ([.fieldLink RX4 17 "ZoneSampler$Table" "rows" "I", .fieldLink RX4 7 "ZoneSampler$Table" "width" "I", .fieldLink RX4 13 "ZoneSampler$Table" "cells" "[I"] ++ wsX40)
def wsX4_put : List Cond := .code yX4_put cX4_put 5 none :: ([.fieldLink RX4 17 "ZoneSampler$Table" "rows" "I", .fieldLink RX4 7 "ZoneSampler$Table" "width" "I", .fieldLink RX4 13 "ZoneSampler$Table" "cells" "[I"] ++ wsX40)
def wsX2_shapeZone : List Cond := .code yX2_shapeZone cX2_shapeZone 5 none :: ([.fieldLink RX2 14 "ZoneSampler$State" "zones" "LZoneSampler$Table;", .methodLink RX2 62 yX4_put, .instanceMethod yX4_put, .selects RX4 yX4_put yX4_put, .initialized RX4, .code yX4_put cX4_put 5 none, .fieldLink RX4 17 "ZoneSampler$Table" "rows" "I", .fieldLink RX4 7 "ZoneSampler$Table" "width" "I", .fieldLink RX4 13 "ZoneSampler$Table" "cells" "[I"] ++ wsX20 ++ wsX40)
def wsX2_addZone : List Cond := .code yX2_addZone cX2_addZone 6 (some .int) :: ([.fieldLink RX2 14 "ZoneSampler$State" "zones" "LZoneSampler$Table;", .methodLink RX2 58 yX4_addRow, .instanceMethod yX4_addRow, .selects RX4 yX4_addRow yX4_addRow, .initialized RX4, .code yX4_addRow cX4_addRow 1 (some .int), .fieldLink RX4 17 "ZoneSampler$Table" "rows" "I", .fieldLink RX4 7 "ZoneSampler$Table" "width" "I", .fieldLink RX4 13 "ZoneSampler$Table" "cells" "[I", .methodLink RX2 62 yX4_put, .instanceMethod yX4_put, .selects RX4 yX4_put yX4_put, .code yX4_put cX4_put 5 none, .methodLink RX2 66 yX2_shapeZone, .instanceMethod yX2_shapeZone, .selects RX2 yX2_shapeZone yX2_shapeZone, .initialized RX2, .code yX2_shapeZone cX2_shapeZone 5 none] ++ wsX20 ++ wsX40)
def wsX4_rows : List Cond := .code yX4_rows cX4_rows 1 (some .int) :: ([.fieldLink RX4 17 "ZoneSampler$Table" "rows" "I"] ++ wsX40)
def wsX4_get : List Cond := .code yX4_get cX4_get 4 (some .int) :: ([.fieldLink RX4 17 "ZoneSampler$Table" "rows" "I", .fieldLink RX4 7 "ZoneSampler$Table" "width" "I", .fieldLink RX4 13 "ZoneSampler$Table" "cells" "[I"] ++ wsX40)
def wsX4_has : List Cond := .code yX4_has cX4_has 2 (some .boolean) :: ([.fieldLink RX4 17 "ZoneSampler$Table" "rows" "I"] ++ wsX40)
def wsX4_removeRow : List Cond := .code yX4_removeRow cX4_removeRow 3 none :: ([.fieldLink RX4 7 "ZoneSampler$Table" "width" "I", .fieldLink RX4 13 "ZoneSampler$Table" "cells" "[I", .fieldLink RX4 17 "ZoneSampler$Table" "rows" "I", .methodLink RX4 20 yX4_has, .instanceMethod yX4_has, .selects RX4 yX4_has yX4_has, .initialized RX4, .code yX4_has cX4_has 2 (some .boolean)] ++ wsX40)
def wsX2_dropZone_r1 : List Cond := [Cond.fieldLink RX2 20 "ZoneSampler$State" "voices" "LZoneSampler$Table;", Cond.fieldLink RX2 14 "ZoneSampler$State" "zones" "LZoneSampler$Table;", Cond.methodLink RX2 70 yX4_rows, Cond.instanceMethod yX4_rows, Cond.selects RX4 yX4_rows yX4_rows, Cond.initialized RX4, Cond.code yX4_rows cX4_rows 1 (some .int), Cond.fieldLink RX4 17 "ZoneSampler$Table" "rows" "I", Cond.methodLink RX2 73 yX4_get, Cond.instanceMethod yX4_get, Cond.selects RX4 yX4_get yX4_get, Cond.code yX4_get cX4_get 4 (some .int), Cond.fieldLink RX4 7 "ZoneSampler$Table" "width" "I", Cond.fieldLink RX4 13 "ZoneSampler$Table" "cells" "[I", Cond.methodLink RX2 76 yX4_removeRow, Cond.instanceMethod yX4_removeRow, Cond.selects RX4 yX4_removeRow yX4_removeRow, Cond.code yX4_removeRow cX4_removeRow 3 none, Cond.methodLink RX4 20 yX4_has, Cond.instanceMethod yX4_has, Cond.selects RX4 yX4_has yX4_has, Cond.code yX4_has cX4_has 2 (some .boolean), Cond.methodLink RX2 62 yX4_put, Cond.instanceMethod yX4_put]
def wsX2_dropZone_r2 : List Cond := [Cond.selects RX4 yX4_put yX4_put, Cond.code yX4_put cX4_put 5 none, Cond.methodLink RX2 80 yX2_grow, Cond.instanceMethod yX2_grow, Cond.selects RX2 yX2_grow yX2_grow, Cond.initialized RX2, Cond.code yX2_grow cX2_grow 3 none, Cond.methodLink RX2 54 yX2_number, Cond.instanceMethod yX2_number, Cond.selects RX2 yX2_number yX2_number, Cond.code yX2_number cX2_number 2 (some .int), Cond.fieldLink RX2 23 "ZoneSampler$State" "numbers" "[I", Cond.methodLink RX2 27 yX2_putNumber, Cond.instanceMethod yX2_putNumber, Cond.selects RX2 yX2_putNumber yX2_putNumber, Cond.code yX2_putNumber cX2_putNumber 3 none]
def wsX2_dropZone : List Cond := .code yX2_dropZone cX2_dropZone 5 (some .int) :: ((wsX2_dropZone_r1 ++ wsX2_dropZone_r2) ++ wsX20 ++ wsX40)
def wsX2_matches : List Cond := .code yX2_matches cX2_matches 4 (some .boolean) :: ([.fieldLink RX2 14 "ZoneSampler$State" "zones" "LZoneSampler$Table;", .methodLink RX2 73 yX4_get, .instanceMethod yX4_get, .selects RX4 yX4_get yX4_get, .initialized RX4, .code yX4_get cX4_get 4 (some .int), .fieldLink RX4 17 "ZoneSampler$Table" "rows" "I", .fieldLink RX4 7 "ZoneSampler$Table" "width" "I", .fieldLink RX4 13 "ZoneSampler$Table" "cells" "[I"] ++ wsX20 ++ wsX40)
def wsX2_matching : List Cond := .code yX2_matching cX2_matching 5 (some .int) :: ([.fieldLink RX2 14 "ZoneSampler$State" "zones" "LZoneSampler$Table;", .methodLink RX2 70 yX4_rows, .instanceMethod yX4_rows, .selects RX4 yX4_rows yX4_rows, .initialized RX4, .code yX4_rows cX4_rows 1 (some .int), .fieldLink RX4 17 "ZoneSampler$Table" "rows" "I", .methodLink RX2 83 yX2_matches, .instanceMethod yX2_matches, .selects RX2 yX2_matches yX2_matches, .initialized RX2, .code yX2_matches cX2_matches 4 (some .boolean), .methodLink RX2 73 yX4_get, .instanceMethod yX4_get, .selects RX4 yX4_get yX4_get, .code yX4_get cX4_get 4 (some .int), .fieldLink RX4 7 "ZoneSampler$Table" "width" "I", .fieldLink RX4 13 "ZoneSampler$Table" "cells" "[I"] ++ wsX20 ++ wsX40)
def wsX2_sounds : List Cond := .code yX2_sounds cX2_sounds 8 (some .boolean) :: ([.fieldLink RX2 14 "ZoneSampler$State" "zones" "LZoneSampler$Table;", .methodLink RX2 83 yX2_matches, .instanceMethod yX2_matches, .selects RX2 yX2_matches yX2_matches, .initialized RX2, .code yX2_matches cX2_matches 4 (some .boolean), .methodLink RX2 73 yX4_get, .instanceMethod yX4_get, .selects RX4 yX4_get yX4_get, .initialized RX4, .code yX4_get cX4_get 4 (some .int), .fieldLink RX4 17 "ZoneSampler$Table" "rows" "I", .fieldLink RX4 7 "ZoneSampler$Table" "width" "I", .fieldLink RX4 13 "ZoneSampler$Table" "cells" "[I", .methodLink RX2 70 yX4_rows, .instanceMethod yX4_rows, .selects RX4 yX4_rows yX4_rows, .code yX4_rows cX4_rows 1 (some .int), .methodLink RX2 54 yX2_number, .instanceMethod yX2_number, .selects RX2 yX2_number yX2_number, .code yX2_number cX2_number 2 (some .int), .fieldLink RX2 23 "ZoneSampler$State" "numbers" "[I"] ++ wsX20 ++ wsX40)
def wsX2_sounding_r1 : List Cond := [Cond.fieldLink RX2 14 "ZoneSampler$State" "zones" "LZoneSampler$Table;", Cond.methodLink RX2 70 yX4_rows, Cond.instanceMethod yX4_rows, Cond.selects RX4 yX4_rows yX4_rows, Cond.initialized RX4, Cond.code yX4_rows cX4_rows 1 (some .int), Cond.fieldLink RX4 17 "ZoneSampler$Table" "rows" "I", Cond.methodLink RX2 87 yX2_sounds, Cond.instanceMethod yX2_sounds, Cond.selects RX2 yX2_sounds yX2_sounds, Cond.initialized RX2, Cond.code yX2_sounds cX2_sounds 8 (some .boolean), Cond.methodLink RX2 83 yX2_matches, Cond.instanceMethod yX2_matches, Cond.selects RX2 yX2_matches yX2_matches, Cond.code yX2_matches cX2_matches 4 (some .boolean), Cond.methodLink RX2 73 yX4_get, Cond.instanceMethod yX4_get, Cond.selects RX4 yX4_get yX4_get, Cond.code yX4_get cX4_get 4 (some .int), Cond.fieldLink RX4 7 "ZoneSampler$Table" "width" "I", Cond.fieldLink RX4 13 "ZoneSampler$Table" "cells" "[I", Cond.methodLink RX2 54 yX2_number, Cond.instanceMethod yX2_number]
def wsX2_sounding_r2 : List Cond := [Cond.selects RX2 yX2_number yX2_number, Cond.code yX2_number cX2_number 2 (some .int), Cond.fieldLink RX2 23 "ZoneSampler$State" "numbers" "[I"]
def wsX2_sounding : List Cond := .code yX2_sounding cX2_sounding 5 (some .int) :: ((wsX2_sounding_r1 ++ wsX2_sounding_r2) ++ wsX20 ++ wsX40)
def wsX2_firstSounding_r1 : List Cond := [Cond.fieldLink RX2 14 "ZoneSampler$State" "zones" "LZoneSampler$Table;", Cond.methodLink RX2 70 yX4_rows, Cond.instanceMethod yX4_rows, Cond.selects RX4 yX4_rows yX4_rows, Cond.initialized RX4, Cond.code yX4_rows cX4_rows 1 (some .int), Cond.fieldLink RX4 17 "ZoneSampler$Table" "rows" "I", Cond.methodLink RX2 87 yX2_sounds, Cond.instanceMethod yX2_sounds, Cond.selects RX2 yX2_sounds yX2_sounds, Cond.initialized RX2, Cond.code yX2_sounds cX2_sounds 8 (some .boolean), Cond.methodLink RX2 83 yX2_matches, Cond.instanceMethod yX2_matches, Cond.selects RX2 yX2_matches yX2_matches, Cond.code yX2_matches cX2_matches 4 (some .boolean), Cond.methodLink RX2 73 yX4_get, Cond.instanceMethod yX4_get, Cond.selects RX4 yX4_get yX4_get, Cond.code yX4_get cX4_get 4 (some .int), Cond.fieldLink RX4 7 "ZoneSampler$Table" "width" "I", Cond.fieldLink RX4 13 "ZoneSampler$Table" "cells" "[I", Cond.methodLink RX2 54 yX2_number, Cond.instanceMethod yX2_number]
def wsX2_firstSounding_r2 : List Cond := [Cond.selects RX2 yX2_number yX2_number, Cond.code yX2_number cX2_number 2 (some .int), Cond.fieldLink RX2 23 "ZoneSampler$State" "numbers" "[I"]
def wsX2_firstSounding : List Cond := .code yX2_firstSounding cX2_firstSounding 4 (some .int) :: ((wsX2_firstSounding_r1 ++ wsX2_firstSounding_r2) ++ wsX20 ++ wsX40)
def wsX2_canSound_r1 : List Cond := [Cond.fieldLink RX2 14 "ZoneSampler$State" "zones" "LZoneSampler$Table;", Cond.methodLink RX2 73 yX4_get, Cond.instanceMethod yX4_get, Cond.selects RX4 yX4_get yX4_get, Cond.initialized RX4, Cond.code yX4_get cX4_get 4 (some .int), Cond.fieldLink RX4 17 "ZoneSampler$Table" "rows" "I", Cond.fieldLink RX4 7 "ZoneSampler$Table" "width" "I", Cond.fieldLink RX4 13 "ZoneSampler$Table" "cells" "[I", Cond.methodLink RX2 87 yX2_sounds, Cond.instanceMethod yX2_sounds, Cond.selects RX2 yX2_sounds yX2_sounds, Cond.initialized RX2, Cond.code yX2_sounds cX2_sounds 8 (some .boolean), Cond.methodLink RX2 83 yX2_matches, Cond.instanceMethod yX2_matches, Cond.selects RX2 yX2_matches yX2_matches, Cond.code yX2_matches cX2_matches 4 (some .boolean), Cond.methodLink RX2 70 yX4_rows, Cond.instanceMethod yX4_rows, Cond.selects RX4 yX4_rows yX4_rows, Cond.code yX4_rows cX4_rows 1 (some .int), Cond.methodLink RX2 54 yX2_number, Cond.instanceMethod yX2_number]
def wsX2_canSound_r2 : List Cond := [Cond.selects RX2 yX2_number yX2_number, Cond.code yX2_number cX2_number 2 (some .int), Cond.fieldLink RX2 23 "ZoneSampler$State" "numbers" "[I"]
def wsX2_canSound : List Cond := .code yX2_canSound cX2_canSound 4 (some .boolean) :: ((wsX2_canSound_r1 ++ wsX2_canSound_r2) ++ wsX20 ++ wsX40)
def wsX2_moveHeld : List Cond := .code yX2_moveHeld cX2_moveHeld 5 (some .int) :: ([.fieldLink RX2 20 "ZoneSampler$State" "voices" "LZoneSampler$Table;", .methodLink RX2 70 yX4_rows, .instanceMethod yX4_rows, .selects RX4 yX4_rows yX4_rows, .initialized RX4, .code yX4_rows cX4_rows 1 (some .int), .fieldLink RX4 17 "ZoneSampler$Table" "rows" "I", .methodLink RX2 73 yX4_get, .instanceMethod yX4_get, .selects RX4 yX4_get yX4_get, .code yX4_get cX4_get 4 (some .int), .fieldLink RX4 7 "ZoneSampler$Table" "width" "I", .fieldLink RX4 13 "ZoneSampler$Table" "cells" "[I", .methodLink RX2 62 yX4_put, .instanceMethod yX4_put, .selects RX4 yX4_put yX4_put, .code yX4_put cX4_put 5 none] ++ wsX20 ++ wsX40)
def wsX2_choke_r1 : List Cond := [Cond.fieldLink RX2 20 "ZoneSampler$State" "voices" "LZoneSampler$Table;", Cond.fieldLink RX2 50 "ZoneSampler$State" "notes" "I", Cond.fieldLink RX2 14 "ZoneSampler$State" "zones" "LZoneSampler$Table;", Cond.methodLink RX2 70 yX4_rows, Cond.instanceMethod yX4_rows, Cond.selects RX4 yX4_rows yX4_rows, Cond.initialized RX4, Cond.code yX4_rows cX4_rows 1 (some .int), Cond.fieldLink RX4 17 "ZoneSampler$Table" "rows" "I", Cond.methodLink RX2 73 yX4_get, Cond.instanceMethod yX4_get, Cond.selects RX4 yX4_get yX4_get, Cond.code yX4_get cX4_get 4 (some .int), Cond.fieldLink RX4 7 "ZoneSampler$Table" "width" "I", Cond.fieldLink RX4 13 "ZoneSampler$Table" "cells" "[I", Cond.methodLink RX2 76 yX4_removeRow, Cond.instanceMethod yX4_removeRow, Cond.selects RX4 yX4_removeRow yX4_removeRow, Cond.code yX4_removeRow cX4_removeRow 3 none, Cond.methodLink RX4 20 yX4_has, Cond.instanceMethod yX4_has, Cond.selects RX4 yX4_has yX4_has, Cond.code yX4_has cX4_has 2 (some .boolean), Cond.methodLink RX2 80 yX2_grow]
def wsX2_choke_r2 : List Cond := [Cond.instanceMethod yX2_grow, Cond.selects RX2 yX2_grow yX2_grow, Cond.initialized RX2, Cond.code yX2_grow cX2_grow 3 none, Cond.methodLink RX2 54 yX2_number, Cond.instanceMethod yX2_number, Cond.selects RX2 yX2_number yX2_number, Cond.code yX2_number cX2_number 2 (some .int), Cond.fieldLink RX2 23 "ZoneSampler$State" "numbers" "[I", Cond.methodLink RX2 27 yX2_putNumber, Cond.instanceMethod yX2_putNumber, Cond.selects RX2 yX2_putNumber yX2_putNumber, Cond.code yX2_putNumber cX2_putNumber 3 none]
def wsX2_choke : List Cond := .code yX2_choke cX2_choke 4 none :: ((wsX2_choke_r1 ++ wsX2_choke_r2) ++ wsX20 ++ wsX40)
def wsX2_stealRank : List Cond := .code yX2_stealRank cX2_stealRank 2 (some .int) :: ([.fieldLink RX2 20 "ZoneSampler$State" "voices" "LZoneSampler$Table;", .methodLink RX2 54 yX2_number, .instanceMethod yX2_number, .selects RX2 yX2_number yX2_number, .initialized RX2, .code yX2_number cX2_number 2 (some .int), .fieldLink RX2 23 "ZoneSampler$State" "numbers" "[I", .methodLink RX2 73 yX4_get, .instanceMethod yX4_get, .selects RX4 yX4_get yX4_get, .initialized RX4, .code yX4_get cX4_get 4 (some .int), .fieldLink RX4 17 "ZoneSampler$Table" "rows" "I", .fieldLink RX4 7 "ZoneSampler$Table" "width" "I", .fieldLink RX4 13 "ZoneSampler$Table" "cells" "[I"] ++ wsX20 ++ wsX40)
def wsX2_stealDownTo_r1 : List Cond := [Cond.fieldLink RX2 20 "ZoneSampler$State" "voices" "LZoneSampler$Table;", Cond.methodLink RX2 70 yX4_rows, Cond.instanceMethod yX4_rows, Cond.selects RX4 yX4_rows yX4_rows, Cond.initialized RX4, Cond.code yX4_rows cX4_rows 1 (some .int), Cond.fieldLink RX4 17 "ZoneSampler$Table" "rows" "I", Cond.methodLink RX2 105 yX2_stealRank, Cond.instanceMethod yX2_stealRank, Cond.selects RX2 yX2_stealRank yX2_stealRank, Cond.initialized RX2, Cond.code yX2_stealRank cX2_stealRank 2 (some .int), Cond.methodLink RX2 54 yX2_number, Cond.instanceMethod yX2_number, Cond.selects RX2 yX2_number yX2_number, Cond.code yX2_number cX2_number 2 (some .int), Cond.fieldLink RX2 23 "ZoneSampler$State" "numbers" "[I", Cond.methodLink RX2 73 yX4_get, Cond.instanceMethod yX4_get, Cond.selects RX4 yX4_get yX4_get, Cond.code yX4_get cX4_get 4 (some .int), Cond.fieldLink RX4 7 "ZoneSampler$Table" "width" "I", Cond.fieldLink RX4 13 "ZoneSampler$Table" "cells" "[I", Cond.methodLink RX2 76 yX4_removeRow]
def wsX2_stealDownTo_r2 : List Cond := [Cond.instanceMethod yX4_removeRow, Cond.selects RX4 yX4_removeRow yX4_removeRow, Cond.code yX4_removeRow cX4_removeRow 3 none, Cond.methodLink RX4 20 yX4_has, Cond.instanceMethod yX4_has, Cond.selects RX4 yX4_has yX4_has, Cond.code yX4_has cX4_has 2 (some .boolean), Cond.methodLink RX2 80 yX2_grow, Cond.instanceMethod yX2_grow, Cond.selects RX2 yX2_grow yX2_grow, Cond.code yX2_grow cX2_grow 3 none, Cond.methodLink RX2 27 yX2_putNumber, Cond.instanceMethod yX2_putNumber, Cond.selects RX2 yX2_putNumber yX2_putNumber, Cond.code yX2_putNumber cX2_putNumber 3 none]
def wsX2_stealDownTo : List Cond := .code yX2_stealDownTo cX2_stealDownTo 5 none :: ((wsX2_stealDownTo_r1 ++ wsX2_stealDownTo_r2) ++ wsX20 ++ wsX40)
def wsX2_begin_r1 : List Cond := [Cond.fieldLink RX2 14 "ZoneSampler$State" "zones" "LZoneSampler$Table;", Cond.fieldLink RX2 20 "ZoneSampler$State" "voices" "LZoneSampler$Table;", Cond.fieldLink RX2 50 "ZoneSampler$State" "notes" "I", Cond.methodLink RX2 73 yX4_get, Cond.instanceMethod yX4_get, Cond.selects RX4 yX4_get yX4_get, Cond.initialized RX4, Cond.code yX4_get cX4_get 4 (some .int), Cond.fieldLink RX4 17 "ZoneSampler$Table" "rows" "I", Cond.fieldLink RX4 7 "ZoneSampler$Table" "width" "I", Cond.fieldLink RX4 13 "ZoneSampler$Table" "cells" "[I", Cond.methodLink RX2 99 yX2_choke, Cond.instanceMethod yX2_choke, Cond.selects RX2 yX2_choke yX2_choke, Cond.initialized RX2, Cond.code yX2_choke cX2_choke 4 none, Cond.methodLink RX2 70 yX4_rows, Cond.instanceMethod yX4_rows, Cond.selects RX4 yX4_rows yX4_rows, Cond.code yX4_rows cX4_rows 1 (some .int), Cond.methodLink RX2 76 yX4_removeRow, Cond.instanceMethod yX4_removeRow, Cond.selects RX4 yX4_removeRow yX4_removeRow, Cond.code yX4_removeRow cX4_removeRow 3 none]
def wsX2_begin_r2 : List Cond := [Cond.methodLink RX4 20 yX4_has, Cond.instanceMethod yX4_has, Cond.selects RX4 yX4_has yX4_has, Cond.code yX4_has cX4_has 2 (some .boolean), Cond.methodLink RX2 80 yX2_grow, Cond.instanceMethod yX2_grow, Cond.selects RX2 yX2_grow yX2_grow, Cond.code yX2_grow cX2_grow 3 none, Cond.methodLink RX2 54 yX2_number, Cond.instanceMethod yX2_number, Cond.selects RX2 yX2_number yX2_number, Cond.code yX2_number cX2_number 2 (some .int), Cond.fieldLink RX2 23 "ZoneSampler$State" "numbers" "[I", Cond.methodLink RX2 27 yX2_putNumber, Cond.instanceMethod yX2_putNumber, Cond.selects RX2 yX2_putNumber yX2_putNumber, Cond.code yX2_putNumber cX2_putNumber 3 none, Cond.methodLink RX2 102 yX2_stealDownTo, Cond.instanceMethod yX2_stealDownTo, Cond.selects RX2 yX2_stealDownTo yX2_stealDownTo, Cond.code yX2_stealDownTo cX2_stealDownTo 5 none, Cond.methodLink RX2 105 yX2_stealRank, Cond.instanceMethod yX2_stealRank, Cond.selects RX2 yX2_stealRank yX2_stealRank]
def wsX2_begin_r3 : List Cond := [Cond.code yX2_stealRank cX2_stealRank 2 (some .int), Cond.methodLink RX2 58 yX4_addRow, Cond.instanceMethod yX4_addRow, Cond.selects RX4 yX4_addRow yX4_addRow, Cond.code yX4_addRow cX4_addRow 1 (some .int), Cond.methodLink RX2 62 yX4_put, Cond.instanceMethod yX4_put, Cond.selects RX4 yX4_put yX4_put, Cond.code yX4_put cX4_put 5 none]
def wsX2_begin : List Cond := .code yX2_begin cX2_begin 5 none :: ((wsX2_begin_r1 ++ (wsX2_begin_r2 ++ wsX2_begin_r3)) ++ wsX20 ++ wsX40)
def wsX2_passTurns_r1 : List Cond := [Cond.fieldLink RX2 14 "ZoneSampler$State" "zones" "LZoneSampler$Table;", Cond.methodLink RX2 70 yX4_rows, Cond.instanceMethod yX4_rows, Cond.selects RX4 yX4_rows yX4_rows, Cond.initialized RX4, Cond.code yX4_rows cX4_rows 1 (some .int), Cond.fieldLink RX4 17 "ZoneSampler$Table" "rows" "I", Cond.methodLink RX2 73 yX4_get, Cond.instanceMethod yX4_get, Cond.selects RX4 yX4_get yX4_get, Cond.code yX4_get cX4_get 4 (some .int), Cond.fieldLink RX4 7 "ZoneSampler$Table" "width" "I", Cond.fieldLink RX4 13 "ZoneSampler$Table" "cells" "[I", Cond.methodLink RX2 83 yX2_matches, Cond.instanceMethod yX2_matches, Cond.selects RX2 yX2_matches yX2_matches, Cond.initialized RX2, Cond.code yX2_matches cX2_matches 4 (some .boolean), Cond.methodLink RX2 80 yX2_grow, Cond.instanceMethod yX2_grow, Cond.selects RX2 yX2_grow yX2_grow, Cond.code yX2_grow cX2_grow 3 none, Cond.methodLink RX2 54 yX2_number, Cond.instanceMethod yX2_number]
def wsX2_passTurns_r2 : List Cond := [Cond.selects RX2 yX2_number yX2_number, Cond.code yX2_number cX2_number 2 (some .int), Cond.fieldLink RX2 23 "ZoneSampler$State" "numbers" "[I", Cond.methodLink RX2 27 yX2_putNumber, Cond.instanceMethod yX2_putNumber, Cond.selects RX2 yX2_putNumber yX2_putNumber, Cond.code yX2_putNumber cX2_putNumber 3 none]
def wsX2_passTurns : List Cond := .code yX2_passTurns cX2_passTurns 6 none :: ((wsX2_passTurns_r1 ++ wsX2_passTurns_r2) ++ wsX20 ++ wsX40)
def wsX2_strike_r1 : List Cond := [Cond.fieldLink RX2 50 "ZoneSampler$State" "notes" "I", Cond.fieldLink RX2 14 "ZoneSampler$State" "zones" "LZoneSampler$Table;", Cond.methodLink RX2 90 yX2_moveHeld, Cond.instanceMethod yX2_moveHeld, Cond.selects RX2 yX2_moveHeld yX2_moveHeld, Cond.initialized RX2, Cond.code yX2_moveHeld cX2_moveHeld 5 (some .int), Cond.fieldLink RX2 20 "ZoneSampler$State" "voices" "LZoneSampler$Table;", Cond.methodLink RX2 70 yX4_rows, Cond.instanceMethod yX4_rows, Cond.selects RX4 yX4_rows yX4_rows, Cond.initialized RX4, Cond.code yX4_rows cX4_rows 1 (some .int), Cond.fieldLink RX4 17 "ZoneSampler$Table" "rows" "I", Cond.methodLink RX2 73 yX4_get, Cond.instanceMethod yX4_get, Cond.selects RX4 yX4_get yX4_get, Cond.code yX4_get cX4_get 4 (some .int), Cond.fieldLink RX4 7 "ZoneSampler$Table" "width" "I", Cond.fieldLink RX4 13 "ZoneSampler$Table" "cells" "[I", Cond.methodLink RX2 62 yX4_put, Cond.instanceMethod yX4_put, Cond.selects RX4 yX4_put yX4_put, Cond.code yX4_put cX4_put 5 none]
def wsX2_strike_r2 : List Cond := [Cond.methodLink RX2 87 yX2_sounds, Cond.instanceMethod yX2_sounds, Cond.selects RX2 yX2_sounds yX2_sounds, Cond.code yX2_sounds cX2_sounds 8 (some .boolean), Cond.methodLink RX2 83 yX2_matches, Cond.instanceMethod yX2_matches, Cond.selects RX2 yX2_matches yX2_matches, Cond.code yX2_matches cX2_matches 4 (some .boolean), Cond.methodLink RX2 54 yX2_number, Cond.instanceMethod yX2_number, Cond.selects RX2 yX2_number yX2_number, Cond.code yX2_number cX2_number 2 (some .int), Cond.fieldLink RX2 23 "ZoneSampler$State" "numbers" "[I", Cond.methodLink RX2 93 yX2_begin, Cond.instanceMethod yX2_begin, Cond.selects RX2 yX2_begin yX2_begin, Cond.code yX2_begin cX2_begin 5 none, Cond.methodLink RX2 99 yX2_choke, Cond.instanceMethod yX2_choke, Cond.selects RX2 yX2_choke yX2_choke, Cond.code yX2_choke cX2_choke 4 none, Cond.methodLink RX2 76 yX4_removeRow, Cond.instanceMethod yX4_removeRow, Cond.selects RX4 yX4_removeRow yX4_removeRow]
def wsX2_strike_r3 : List Cond := [Cond.code yX4_removeRow cX4_removeRow 3 none, Cond.methodLink RX4 20 yX4_has, Cond.instanceMethod yX4_has, Cond.selects RX4 yX4_has yX4_has, Cond.code yX4_has cX4_has 2 (some .boolean), Cond.methodLink RX2 80 yX2_grow, Cond.instanceMethod yX2_grow, Cond.selects RX2 yX2_grow yX2_grow, Cond.code yX2_grow cX2_grow 3 none, Cond.methodLink RX2 27 yX2_putNumber, Cond.instanceMethod yX2_putNumber, Cond.selects RX2 yX2_putNumber yX2_putNumber, Cond.code yX2_putNumber cX2_putNumber 3 none, Cond.methodLink RX2 102 yX2_stealDownTo, Cond.instanceMethod yX2_stealDownTo, Cond.selects RX2 yX2_stealDownTo yX2_stealDownTo, Cond.code yX2_stealDownTo cX2_stealDownTo 5 none, Cond.methodLink RX2 105 yX2_stealRank, Cond.instanceMethod yX2_stealRank, Cond.selects RX2 yX2_stealRank yX2_stealRank, Cond.code yX2_stealRank cX2_stealRank 2 (some .int), Cond.methodLink RX2 58 yX4_addRow, Cond.instanceMethod yX4_addRow, Cond.selects RX4 yX4_addRow yX4_addRow]
def wsX2_strike_r4 : List Cond := [Cond.code yX4_addRow cX4_addRow 1 (some .int), Cond.methodLink RX2 96 yX2_passTurns, Cond.instanceMethod yX2_passTurns, Cond.selects RX2 yX2_passTurns yX2_passTurns, Cond.code yX2_passTurns cX2_passTurns 6 none]
def wsX2_strike : List Cond := .code yX2_strike cX2_strike 5 (some .int) :: ((wsX2_strike_r1 ++ (wsX2_strike_r2 ++ (wsX2_strike_r3 ++ wsX2_strike_r4))) ++ wsX20 ++ wsX40)
def wsX2_stealPlace : List Cond := .code yX2_stealPlace cX2_stealPlace 6 (some .int) :: ([.fieldLink RX2 20 "ZoneSampler$State" "voices" "LZoneSampler$Table;", .methodLink RX2 105 yX2_stealRank, .instanceMethod yX2_stealRank, .selects RX2 yX2_stealRank yX2_stealRank, .initialized RX2, .code yX2_stealRank cX2_stealRank 2 (some .int), .methodLink RX2 54 yX2_number, .instanceMethod yX2_number, .selects RX2 yX2_number yX2_number, .code yX2_number cX2_number 2 (some .int), .fieldLink RX2 23 "ZoneSampler$State" "numbers" "[I", .methodLink RX2 73 yX4_get, .instanceMethod yX4_get, .selects RX4 yX4_get yX4_get, .initialized RX4, .code yX4_get cX4_get 4 (some .int), .fieldLink RX4 17 "ZoneSampler$Table" "rows" "I", .fieldLink RX4 7 "ZoneSampler$Table" "width" "I", .fieldLink RX4 13 "ZoneSampler$Table" "cells" "[I", .methodLink RX2 70 yX4_rows, .instanceMethod yX4_rows, .selects RX4 yX4_rows yX4_rows, .code yX4_rows cX4_rows 1 (some .int)] ++ wsX20 ++ wsX40)
def wsX2_release : List Cond := .code yX2_release cX2_release 2 (some .int) :: ([.fieldLink RX2 46 "ZoneSampler$State" "pedalDown" "Z", .methodLink RX2 90 yX2_moveHeld, .instanceMethod yX2_moveHeld, .selects RX2 yX2_moveHeld yX2_moveHeld, .initialized RX2, .code yX2_moveHeld cX2_moveHeld 5 (some .int), .fieldLink RX2 20 "ZoneSampler$State" "voices" "LZoneSampler$Table;", .methodLink RX2 70 yX4_rows, .instanceMethod yX4_rows, .selects RX4 yX4_rows yX4_rows, .initialized RX4, .code yX4_rows cX4_rows 1 (some .int), .fieldLink RX4 17 "ZoneSampler$Table" "rows" "I", .methodLink RX2 73 yX4_get, .instanceMethod yX4_get, .selects RX4 yX4_get yX4_get, .code yX4_get cX4_get 4 (some .int), .fieldLink RX4 7 "ZoneSampler$Table" "width" "I", .fieldLink RX4 13 "ZoneSampler$Table" "cells" "[I", .methodLink RX2 62 yX4_put, .instanceMethod yX4_put, .selects RX4 yX4_put yX4_put, .code yX4_put cX4_put 5 none] ++ wsX20 ++ wsX40)
def wsX2_tread : List Cond := .code yX2_tread cX2_tread 3 (some .int) :: ([.fieldLink RX2 46 "ZoneSampler$State" "pedalDown" "Z", .fieldLink RX2 20 "ZoneSampler$State" "voices" "LZoneSampler$Table;", .methodLink RX2 70 yX4_rows, .instanceMethod yX4_rows, .selects RX4 yX4_rows yX4_rows, .initialized RX4, .code yX4_rows cX4_rows 1 (some .int), .fieldLink RX4 17 "ZoneSampler$Table" "rows" "I", .methodLink RX2 73 yX4_get, .instanceMethod yX4_get, .selects RX4 yX4_get yX4_get, .code yX4_get cX4_get 4 (some .int), .fieldLink RX4 7 "ZoneSampler$Table" "width" "I", .fieldLink RX4 13 "ZoneSampler$Table" "cells" "[I", .methodLink RX2 62 yX4_put, .instanceMethod yX4_put, .selects RX4 yX4_put yX4_put, .code yX4_put cX4_put 5 none] ++ wsX20 ++ wsX40)
def wsX2_fadeOf : List Cond := .code yX2_fadeOf cX2_fadeOf 2 (some .int) :: ([.fieldLink RX2 20 "ZoneSampler$State" "voices" "LZoneSampler$Table;", .methodLink RX2 73 yX4_get, .instanceMethod yX4_get, .selects RX4 yX4_get yX4_get, .initialized RX4, .code yX4_get cX4_get 4 (some .int), .fieldLink RX4 17 "ZoneSampler$Table" "rows" "I", .fieldLink RX4 7 "ZoneSampler$Table" "width" "I", .fieldLink RX4 13 "ZoneSampler$Table" "cells" "[I", .methodLink RX2 54 yX2_number, .instanceMethod yX2_number, .selects RX2 yX2_number yX2_number, .initialized RX2, .code yX2_number cX2_number 2 (some .int), .fieldLink RX2 23 "ZoneSampler$State" "numbers" "[I"] ++ wsX20 ++ wsX40)
def wsX2_wear_r1 : List Cond := [Cond.fieldLink RX2 20 "ZoneSampler$State" "voices" "LZoneSampler$Table;", Cond.fieldLink RX2 14 "ZoneSampler$State" "zones" "LZoneSampler$Table;", Cond.methodLink RX2 73 yX4_get, Cond.instanceMethod yX4_get, Cond.selects RX4 yX4_get yX4_get, Cond.initialized RX4, Cond.code yX4_get cX4_get 4 (some .int), Cond.fieldLink RX4 17 "ZoneSampler$Table" "rows" "I", Cond.fieldLink RX4 7 "ZoneSampler$Table" "width" "I", Cond.fieldLink RX4 13 "ZoneSampler$Table" "cells" "[I", Cond.methodLink RX2 111 yX2_fadeOf, Cond.instanceMethod yX2_fadeOf, Cond.selects RX2 yX2_fadeOf yX2_fadeOf, Cond.initialized RX2, Cond.code yX2_fadeOf cX2_fadeOf 2 (some .int), Cond.methodLink RX2 54 yX2_number, Cond.instanceMethod yX2_number, Cond.selects RX2 yX2_number yX2_number, Cond.code yX2_number cX2_number 2 (some .int), Cond.fieldLink RX2 23 "ZoneSampler$State" "numbers" "[I", Cond.methodLink RX2 62 yX4_put, Cond.instanceMethod yX4_put, Cond.selects RX4 yX4_put yX4_put, Cond.code yX4_put cX4_put 5 none]
def wsX2_wear_r2 : List Cond := [Cond.methodLink RX2 76 yX4_removeRow, Cond.instanceMethod yX4_removeRow, Cond.selects RX4 yX4_removeRow yX4_removeRow, Cond.code yX4_removeRow cX4_removeRow 3 none, Cond.methodLink RX4 20 yX4_has, Cond.instanceMethod yX4_has, Cond.selects RX4 yX4_has yX4_has, Cond.code yX4_has cX4_has 2 (some .boolean), Cond.methodLink RX2 80 yX2_grow, Cond.instanceMethod yX2_grow, Cond.selects RX2 yX2_grow yX2_grow, Cond.code yX2_grow cX2_grow 3 none, Cond.methodLink RX2 27 yX2_putNumber, Cond.instanceMethod yX2_putNumber, Cond.selects RX2 yX2_putNumber yX2_putNumber, Cond.code yX2_putNumber cX2_putNumber 3 none]
def wsX2_wear : List Cond := .code yX2_wear cX2_wear 4 none :: ((wsX2_wear_r1 ++ wsX2_wear_r2) ++ wsX20 ++ wsX40)
def wsX2_runTicks_r1 : List Cond := [Cond.fieldLink RX2 20 "ZoneSampler$State" "voices" "LZoneSampler$Table;", Cond.methodLink RX2 54 yX2_number, Cond.instanceMethod yX2_number, Cond.selects RX2 yX2_number yX2_number, Cond.initialized RX2, Cond.code yX2_number cX2_number 2 (some .int), Cond.fieldLink RX2 23 "ZoneSampler$State" "numbers" "[I", Cond.methodLink RX2 70 yX4_rows, Cond.instanceMethod yX4_rows, Cond.selects RX4 yX4_rows yX4_rows, Cond.initialized RX4, Cond.code yX4_rows cX4_rows 1 (some .int), Cond.fieldLink RX4 17 "ZoneSampler$Table" "rows" "I", Cond.methodLink RX2 108 yX2_wear, Cond.instanceMethod yX2_wear, Cond.selects RX2 yX2_wear yX2_wear, Cond.code yX2_wear cX2_wear 4 none, Cond.fieldLink RX2 14 "ZoneSampler$State" "zones" "LZoneSampler$Table;", Cond.methodLink RX2 73 yX4_get, Cond.instanceMethod yX4_get, Cond.selects RX4 yX4_get yX4_get, Cond.code yX4_get cX4_get 4 (some .int), Cond.fieldLink RX4 7 "ZoneSampler$Table" "width" "I", Cond.fieldLink RX4 13 "ZoneSampler$Table" "cells" "[I"]
def wsX2_runTicks_r2 : List Cond := [Cond.methodLink RX2 111 yX2_fadeOf, Cond.instanceMethod yX2_fadeOf, Cond.selects RX2 yX2_fadeOf yX2_fadeOf, Cond.code yX2_fadeOf cX2_fadeOf 2 (some .int), Cond.methodLink RX2 62 yX4_put, Cond.instanceMethod yX4_put, Cond.selects RX4 yX4_put yX4_put, Cond.code yX4_put cX4_put 5 none, Cond.methodLink RX2 76 yX4_removeRow, Cond.instanceMethod yX4_removeRow, Cond.selects RX4 yX4_removeRow yX4_removeRow, Cond.code yX4_removeRow cX4_removeRow 3 none, Cond.methodLink RX4 20 yX4_has, Cond.instanceMethod yX4_has, Cond.selects RX4 yX4_has yX4_has, Cond.code yX4_has cX4_has 2 (some .boolean), Cond.methodLink RX2 80 yX2_grow, Cond.instanceMethod yX2_grow, Cond.selects RX2 yX2_grow yX2_grow, Cond.code yX2_grow cX2_grow 3 none, Cond.methodLink RX2 27 yX2_putNumber, Cond.instanceMethod yX2_putNumber, Cond.selects RX2 yX2_putNumber yX2_putNumber, Cond.code yX2_putNumber cX2_putNumber 3 none]
def wsX2_runTicks : List Cond := .code yX2_runTicks cX2_runTicks 5 (some .int) :: ((wsX2_runTicks_r1 ++ wsX2_runTicks_r2) ++ wsX20 ++ wsX40)
def wsX2_ticksLeft_r1 : List Cond := [Cond.methodLink RX2 114 Lib.Math.max.name, Cond.static Lib.Math.max.name, Cond.initialized "java/lang/Math", Cond.code Lib.Math.max.name Lib.Math.max.code 2 (some .int), Cond.fieldLink RX2 20 "ZoneSampler$State" "voices" "LZoneSampler$Table;", Cond.fieldLink RX2 14 "ZoneSampler$State" "zones" "LZoneSampler$Table;", Cond.methodLink RX2 34 Lib.Math.min.name, Cond.static Lib.Math.min.name, Cond.code Lib.Math.min.name Lib.Math.min.code 2 (some .int), Cond.methodLink RX2 111 yX2_fadeOf, Cond.instanceMethod yX2_fadeOf, Cond.selects RX2 yX2_fadeOf yX2_fadeOf, Cond.initialized RX2, Cond.code yX2_fadeOf cX2_fadeOf 2 (some .int), Cond.methodLink RX2 73 yX4_get, Cond.instanceMethod yX4_get, Cond.selects RX4 yX4_get yX4_get, Cond.initialized RX4, Cond.code yX4_get cX4_get 4 (some .int), Cond.fieldLink RX4 17 "ZoneSampler$Table" "rows" "I", Cond.fieldLink RX4 7 "ZoneSampler$Table" "width" "I", Cond.fieldLink RX4 13 "ZoneSampler$Table" "cells" "[I", Cond.methodLink RX2 54 yX2_number, Cond.instanceMethod yX2_number]
def wsX2_ticksLeft_r2 : List Cond := [Cond.selects RX2 yX2_number yX2_number, Cond.code yX2_number cX2_number 2 (some .int), Cond.fieldLink RX2 23 "ZoneSampler$State" "numbers" "[I"]
def wsX2_ticksLeft : List Cond := .code yX2_ticksLeft cX2_ticksLeft 5 (some .int) :: ((wsX2_ticksLeft_r1 ++ wsX2_ticksLeft_r2) ++ wsX20 ++ wsX40)
def wsX4_removeAll : List Cond := .code yX4_removeAll cX4_removeAll 1 none :: ([.fieldLink RX4 17 "ZoneSampler$Table" "rows" "I"] ++ wsX40)
def wsX2_stopAll_r1 : List Cond := [Cond.fieldLink RX2 20 "ZoneSampler$State" "voices" "LZoneSampler$Table;", Cond.methodLink RX2 70 yX4_rows, Cond.instanceMethod yX4_rows, Cond.selects RX4 yX4_rows yX4_rows, Cond.initialized RX4, Cond.code yX4_rows cX4_rows 1 (some .int), Cond.fieldLink RX4 17 "ZoneSampler$Table" "rows" "I", Cond.methodLink RX2 117 yX4_removeAll, Cond.instanceMethod yX4_removeAll, Cond.selects RX4 yX4_removeAll yX4_removeAll, Cond.code yX4_removeAll cX4_removeAll 1 none, Cond.methodLink RX2 80 yX2_grow, Cond.instanceMethod yX2_grow, Cond.selects RX2 yX2_grow yX2_grow, Cond.initialized RX2, Cond.code yX2_grow cX2_grow 3 none, Cond.methodLink RX2 54 yX2_number, Cond.instanceMethod yX2_number, Cond.selects RX2 yX2_number yX2_number, Cond.code yX2_number cX2_number 2 (some .int), Cond.fieldLink RX2 23 "ZoneSampler$State" "numbers" "[I", Cond.methodLink RX2 27 yX2_putNumber, Cond.instanceMethod yX2_putNumber, Cond.selects RX2 yX2_putNumber yX2_putNumber]
def wsX2_stopAll_r2 : List Cond := [Cond.code yX2_putNumber cX2_putNumber 3 none]
def wsX2_stopAll : List Cond := .code yX2_stopAll cX2_stopAll 2 (some .int) :: ((wsX2_stopAll_r1 ++ wsX2_stopAll_r2) ++ wsX20 ++ wsX40)
def wsX3_init : List Cond := .code yX3_init cX3_init 1 none :: ([.methodLink RX3 3 objectInit, .instanceMethod objectInit, .code objectInit ⟨#[0xb1]⟩ 1 none, .arrayClass .int, .fieldLink RX3 9 "ZoneSampler$Survey" "depths" "[I"] ++ wsX30)
def wsX3_finding : List Cond := .code yX3_finding cX3_finding 2 (some .int) :: ([.fieldLink RX3 15 "ZoneSampler$Survey" "holes" "I", .fieldLink RX3 19 "ZoneSampler$Survey" "overlaps" "I", .fieldLink RX3 22 "ZoneSampler$Survey" "deepest" "I", .fieldLink RX3 25 "ZoneSampler$Survey" "firstHole" "I"] ++ wsX30)
def wsX3_start : List Cond := .code yX3_start cX3_start 2 none :: ([.fieldLink RX3 9 "ZoneSampler$Survey" "depths" "[I", .fieldLink RX3 15 "ZoneSampler$Survey" "holes" "I", .fieldLink RX3 19 "ZoneSampler$Survey" "overlaps" "I", .fieldLink RX3 22 "ZoneSampler$Survey" "deepest" "I", .fieldLink RX3 25 "ZoneSampler$Survey" "firstHole" "I"] ++ wsX30)
def wsX3_see : List Cond := .code yX3_see cX3_see 3 none :: ([.fieldLink RX3 15 "ZoneSampler$Survey" "holes" "I", .fieldLink RX3 25 "ZoneSampler$Survey" "firstHole" "I", .fieldLink RX3 19 "ZoneSampler$Survey" "overlaps" "I", .fieldLink RX3 22 "ZoneSampler$Survey" "deepest" "I", .methodLink RX3 58 Lib.Math.max.name, .static Lib.Math.max.name, .initialized "java/lang/Math", .code Lib.Math.max.name Lib.Math.max.code 2 (some .int)] ++ wsX30)
def wsX3_goByPlaces_r1 : List Cond := [Cond.methodLink RX3 28 yX3_start, Cond.instanceMethod yX3_start, Cond.selects RX3 yX3_start yX3_start, Cond.initialized RX3, Cond.code yX3_start cX3_start 2 none, Cond.fieldLink RX3 9 "ZoneSampler$Survey" "depths" "[I", Cond.fieldLink RX3 15 "ZoneSampler$Survey" "holes" "I", Cond.fieldLink RX3 19 "ZoneSampler$Survey" "overlaps" "I", Cond.fieldLink RX3 22 "ZoneSampler$Survey" "deepest" "I", Cond.fieldLink RX3 25 "ZoneSampler$Survey" "firstHole" "I", Cond.methodLink RX3 31 yX2_matching, Cond.instanceMethod yX2_matching, Cond.selects RX2 yX2_matching yX2_matching, Cond.initialized RX2, Cond.code yX2_matching cX2_matching 5 (some .int), Cond.fieldLink RX2 14 "ZoneSampler$State" "zones" "LZoneSampler$Table;", Cond.methodLink RX2 70 yX4_rows, Cond.instanceMethod yX4_rows, Cond.selects RX4 yX4_rows yX4_rows, Cond.initialized RX4, Cond.code yX4_rows cX4_rows 1 (some .int), Cond.fieldLink RX4 17 "ZoneSampler$Table" "rows" "I", Cond.methodLink RX2 83 yX2_matches, Cond.instanceMethod yX2_matches]
def wsX3_goByPlaces_r2 : List Cond := [Cond.selects RX2 yX2_matches yX2_matches, Cond.code yX2_matches cX2_matches 4 (some .boolean), Cond.methodLink RX2 73 yX4_get, Cond.instanceMethod yX4_get, Cond.selects RX4 yX4_get yX4_get, Cond.code yX4_get cX4_get 4 (some .int), Cond.fieldLink RX4 7 "ZoneSampler$Table" "width" "I", Cond.fieldLink RX4 13 "ZoneSampler$Table" "cells" "[I", Cond.methodLink RX3 37 yX3_see, Cond.instanceMethod yX3_see, Cond.selects RX3 yX3_see yX3_see, Cond.code yX3_see cX3_see 3 none, Cond.methodLink RX3 58 Lib.Math.max.name, Cond.static Lib.Math.max.name, Cond.initialized "java/lang/Math", Cond.code Lib.Math.max.name Lib.Math.max.code 2 (some .int)]
def wsX3_goByPlaces : List Cond := .code yX3_goByPlaces cX3_goByPlaces 4 none :: ((wsX3_goByPlaces_r1 ++ wsX3_goByPlaces_r2) ++ wsX30 ++ wsX20 ++ wsX40)
def wsX3_deepen : List Cond := .code yX3_deepen cX3_deepen 5 none :: ([.fieldLink RX3 9 "ZoneSampler$Survey" "depths" "[I", .methodLink RX3 51 yX4_get, .instanceMethod yX4_get, .selects RX4 yX4_get yX4_get, .initialized RX4, .code yX4_get cX4_get 4 (some .int), .fieldLink RX4 17 "ZoneSampler$Table" "rows" "I", .fieldLink RX4 7 "ZoneSampler$Table" "width" "I", .fieldLink RX4 13 "ZoneSampler$Table" "cells" "[I"] ++ wsX30 ++ wsX40)
def wsX3_goByEdges_r1 : List Cond := [Cond.fieldLink RX3 9 "ZoneSampler$Survey" "depths" "[I", Cond.methodLink RX3 28 yX3_start, Cond.instanceMethod yX3_start, Cond.selects RX3 yX3_start yX3_start, Cond.initialized RX3, Cond.code yX3_start cX3_start 2 none, Cond.fieldLink RX3 15 "ZoneSampler$Survey" "holes" "I", Cond.fieldLink RX3 19 "ZoneSampler$Survey" "overlaps" "I", Cond.fieldLink RX3 22 "ZoneSampler$Survey" "deepest" "I", Cond.fieldLink RX3 25 "ZoneSampler$Survey" "firstHole" "I", Cond.methodLink RX3 45 yX4_rows, Cond.instanceMethod yX4_rows, Cond.selects RX4 yX4_rows yX4_rows, Cond.initialized RX4, Cond.code yX4_rows cX4_rows 1 (some .int), Cond.fieldLink RX4 17 "ZoneSampler$Table" "rows" "I", Cond.methodLink RX3 51 yX4_get, Cond.instanceMethod yX4_get, Cond.selects RX4 yX4_get yX4_get, Cond.code yX4_get cX4_get 4 (some .int), Cond.fieldLink RX4 7 "ZoneSampler$Table" "width" "I", Cond.fieldLink RX4 13 "ZoneSampler$Table" "cells" "[I", Cond.methodLink RX3 54 yX3_deepen, Cond.instanceMethod yX3_deepen]
def wsX3_goByEdges_r2 : List Cond := [Cond.selects RX3 yX3_deepen yX3_deepen, Cond.code yX3_deepen cX3_deepen 5 none, Cond.methodLink RX3 37 yX3_see, Cond.instanceMethod yX3_see, Cond.selects RX3 yX3_see yX3_see, Cond.code yX3_see cX3_see 3 none, Cond.methodLink RX3 58 Lib.Math.max.name, Cond.static Lib.Math.max.name, Cond.initialized "java/lang/Math", Cond.code Lib.Math.max.name Lib.Math.max.code 2 (some .int)]
def wsX3_goByEdges : List Cond := .code yX3_goByEdges cX3_goByEdges 4 none :: ((wsX3_goByEdges_r1 ++ wsX3_goByEdges_r2) ++ wsX20 ++ wsX30 ++ wsX40)
def wsX4_rowsWith : List Cond := .code yX4_rowsWith cX4_rowsWith 5 (some .int) :: ([.fieldLink RX4 17 "ZoneSampler$Table" "rows" "I", .methodLink RX4 24 yX4_get, .instanceMethod yX4_get, .selects RX4 yX4_get yX4_get, .initialized RX4, .code yX4_get cX4_get 4 (some .int), .fieldLink RX4 7 "ZoneSampler$Table" "width" "I", .fieldLink RX4 13 "ZoneSampler$Table" "cells" "[I"] ++ wsX40)
def wsX4_sumOf : List Cond := .code yX4_sumOf cX4_sumOf 4 (some .int) :: ([.fieldLink RX4 17 "ZoneSampler$Table" "rows" "I", .methodLink RX4 24 yX4_get, .instanceMethod yX4_get, .selects RX4 yX4_get yX4_get, .initialized RX4, .code yX4_get cX4_get 4 (some .int), .fieldLink RX4 7 "ZoneSampler$Table" "width" "I", .fieldLink RX4 13 "ZoneSampler$Table" "cells" "[I"] ++ wsX40)
def wsX5_init_r1 : List Cond := [Cond.methodLink RX5 1 objectInit, Cond.instanceMethod objectInit, Cond.code objectInit ⟨#[0xb1]⟩ 1 none, Cond.classLink RX5 7 RX2, Cond.instantiable RX2 5, Cond.initialized RX2, Cond.fieldLink RX5 10 "ZoneSampler" "now" "LZoneSampler$State;", Cond.fieldLink RX5 16 "ZoneSampler" "trial" "LZoneSampler$State;", Cond.fieldLink RX5 19 "ZoneSampler" "snapshot" "LZoneSampler$State;", Cond.classLink RX5 22 RX0, Cond.instantiable RX0 5, Cond.initialized RX0, Cond.fieldLink RX5 25 "ZoneSampler" "history" "LZoneSampler$History;", Cond.classLink RX5 29 RX1, Cond.instantiable RX1 14, Cond.initialized RX1, Cond.fieldLink RX5 32 "ZoneSampler" "pad" "LZoneSampler$Pad;", Cond.classLink RX5 36 RX3, Cond.instantiable RX3 5, Cond.initialized RX3, Cond.fieldLink RX5 39 "ZoneSampler" "survey" "LZoneSampler$Survey;", Cond.methodLink RX5 9 yX2_init, Cond.instanceMethod yX2_init, Cond.code yX2_init cX2_init 1 none]
def wsX5_init_r2 : List Cond := [Cond.methodLink RX2 3 objectInit, Cond.classLink RX2 9 RX4, Cond.instantiable RX4 3, Cond.initialized RX4, Cond.fieldLink RX2 14 "ZoneSampler$State" "zones" "LZoneSampler$Table;", Cond.fieldLink RX2 20 "ZoneSampler$State" "voices" "LZoneSampler$Table;", Cond.arrayClass .int, Cond.fieldLink RX2 23 "ZoneSampler$State" "numbers" "[I", Cond.methodLink RX2 11 yX4_init, Cond.instanceMethod yX4_init, Cond.code yX4_init cX4_init 3 none, Cond.methodLink RX4 1 objectInit, Cond.fieldLink RX4 7 "ZoneSampler$Table" "width" "I", Cond.fieldLink RX4 13 "ZoneSampler$Table" "cells" "[I", Cond.methodLink RX2 27 yX2_putNumber, Cond.instanceMethod yX2_putNumber, Cond.selects RX2 yX2_putNumber yX2_putNumber, Cond.code yX2_putNumber cX2_putNumber 3 none, Cond.instanceMethod yX0_init, Cond.code yX0_init cX0_init 1 none, Cond.methodLink RX0 3 objectInit, Cond.classLink RX0 9 RX2, Cond.fieldLink RX0 12 "ZoneSampler$History" "first" "LZoneSampler$State;", Cond.fieldLink RX0 18 "ZoneSampler$History" "second" "LZoneSampler$State;"]
def wsX5_init_r3 : List Cond := [Cond.fieldLink RX0 21 "ZoneSampler$History" "third" "LZoneSampler$State;", Cond.fieldLink RX0 24 "ZoneSampler$History" "fourth" "LZoneSampler$State;", Cond.methodLink RX0 11 yX2_init, Cond.instanceMethod yX1_init, Cond.code yX1_init cX1_init 1 none, Cond.methodLink RX1 3 objectInit, Cond.arrayClass .char, Cond.fieldLink RX1 9 "ZoneSampler$Pad" "signs" "[C", Cond.instanceMethod yX3_init, Cond.code yX3_init cX3_init 1 none, Cond.methodLink RX3 3 objectInit, Cond.fieldLink RX3 9 "ZoneSampler$Survey" "depths" "[I"]
def wsX5_init : List Cond := .code yX5_init cX5_init 1 none :: ((wsX5_init_r1 ++ (wsX5_init_r2 ++ wsX5_init_r3)) ++ wsX20 ++ wsX50 ++ wsX00 ++ wsX10 ++ wsX30 ++ wsX40)
def wsX5_within : List Cond := .code yX5_within cX5_within 3 (some .boolean) :: ([])
def wsX5_zone_r1 : List Cond := [Cond.fieldLink RX5 10 "ZoneSampler" "now" "LZoneSampler$State;", Cond.fieldLink RX5 25 "ZoneSampler" "history" "LZoneSampler$History;", Cond.methodLink RX5 43 yX5_within, Cond.static yX5_within, Cond.initialized RX5, Cond.code yX5_within cX5_within 3 (some .boolean), Cond.methodLink RX5 51 yX4_rows, Cond.instanceMethod yX4_rows, Cond.selects RX4 yX4_rows yX4_rows, Cond.initialized RX4, Cond.code yX4_rows cX4_rows 1 (some .int), Cond.fieldLink RX4 17 "ZoneSampler$Table" "rows" "I", Cond.methodLink RX5 57 yX0_record, Cond.instanceMethod yX0_record, Cond.selects RX0 yX0_record yX0_record, Cond.initialized RX0, Cond.code yX0_record cX0_record 3 none, Cond.fieldLink RX0 27 "ZoneSampler$History" "kept" "I", Cond.fieldLink RX0 12 "ZoneSampler$History" "first" "LZoneSampler$State;", Cond.fieldLink RX0 18 "ZoneSampler$History" "second" "LZoneSampler$State;", Cond.fieldLink RX0 21 "ZoneSampler$History" "third" "LZoneSampler$State;", Cond.fieldLink RX0 24 "ZoneSampler$History" "fourth" "LZoneSampler$State;", Cond.methodLink RX0 31 yX0_stateAt, Cond.instanceMethod yX0_stateAt]
def wsX5_zone_r2 : List Cond := [Cond.selects RX0 yX0_stateAt yX0_stateAt, Cond.code yX0_stateAt cX0_stateAt 2 (some (.object "ZoneSampler$State")), Cond.methodLink RX0 35 yX2_copyFrom, Cond.instanceMethod yX2_copyFrom, Cond.selects RX2 yX2_copyFrom yX2_copyFrom, Cond.initialized RX2, Cond.code yX2_copyFrom cX2_copyFrom 2 none, Cond.fieldLink RX2 14 "ZoneSampler$State" "zones" "LZoneSampler$Table;", Cond.fieldLink RX2 20 "ZoneSampler$State" "voices" "LZoneSampler$Table;", Cond.fieldLink RX2 23 "ZoneSampler$State" "numbers" "[I", Cond.methodLink RX2 34 Lib.Math.min.name, Cond.static Lib.Math.min.name, Cond.initialized "java/lang/Math", Cond.code Lib.Math.min.name Lib.Math.min.code 2 (some .int), Cond.methodLink RX2 40 arraycopyName, Cond.native arraycopyName, Cond.static arraycopyName, Cond.initialized "java/lang/System", Cond.fieldLink RX2 46 "ZoneSampler$State" "pedalDown" "Z", Cond.fieldLink RX2 50 "ZoneSampler$State" "notes" "I", Cond.methodLink RX2 30 yX4_copyFrom, Cond.instanceMethod yX4_copyFrom, Cond.selects RX4 yX4_copyFrom yX4_copyFrom, Cond.code yX4_copyFrom cX4_copyFrom 2 none]
def wsX5_zone_r3 : List Cond := [Cond.fieldLink RX4 13 "ZoneSampler$Table" "cells" "[I", Cond.methodLink RX4 28 Lib.Math.min.name, Cond.methodLink RX4 33 arraycopyName, Cond.methodLink RX5 61 yX2_addZone, Cond.instanceMethod yX2_addZone, Cond.selects RX2 yX2_addZone yX2_addZone, Cond.code yX2_addZone cX2_addZone 6 (some .int), Cond.methodLink RX2 58 yX4_addRow, Cond.instanceMethod yX4_addRow, Cond.selects RX4 yX4_addRow yX4_addRow, Cond.code yX4_addRow cX4_addRow 1 (some .int), Cond.fieldLink RX4 7 "ZoneSampler$Table" "width" "I", Cond.methodLink RX2 62 yX4_put, Cond.instanceMethod yX4_put, Cond.selects RX4 yX4_put yX4_put, Cond.code yX4_put cX4_put 5 none, Cond.methodLink RX2 66 yX2_shapeZone, Cond.instanceMethod yX2_shapeZone, Cond.selects RX2 yX2_shapeZone yX2_shapeZone, Cond.code yX2_shapeZone cX2_shapeZone 5 none]
def wsX5_zone : List Cond := .code yX5_zone cX5_zone 5 (some .int) :: ((wsX5_zone_r1 ++ (wsX5_zone_r2 ++ wsX5_zone_r3)) ++ wsX50 ++ wsX20 ++ wsX40 ++ wsX00)
def wsX5_like_r1 : List Cond := [Cond.fieldLink RX5 10 "ZoneSampler" "now" "LZoneSampler$State;", Cond.fieldLink RX5 25 "ZoneSampler" "history" "LZoneSampler$History;", Cond.methodLink RX5 65 yX4_has, Cond.instanceMethod yX4_has, Cond.selects RX4 yX4_has yX4_has, Cond.initialized RX4, Cond.code yX4_has cX4_has 2 (some .boolean), Cond.fieldLink RX4 17 "ZoneSampler$Table" "rows" "I", Cond.methodLink RX5 43 yX5_within, Cond.static yX5_within, Cond.initialized RX5, Cond.code yX5_within cX5_within 3 (some .boolean), Cond.methodLink RX5 57 yX0_record, Cond.instanceMethod yX0_record, Cond.selects RX0 yX0_record yX0_record, Cond.initialized RX0, Cond.code yX0_record cX0_record 3 none, Cond.fieldLink RX0 27 "ZoneSampler$History" "kept" "I", Cond.fieldLink RX0 12 "ZoneSampler$History" "first" "LZoneSampler$State;", Cond.fieldLink RX0 18 "ZoneSampler$History" "second" "LZoneSampler$State;", Cond.fieldLink RX0 21 "ZoneSampler$History" "third" "LZoneSampler$State;", Cond.fieldLink RX0 24 "ZoneSampler$History" "fourth" "LZoneSampler$State;", Cond.methodLink RX0 31 yX0_stateAt, Cond.instanceMethod yX0_stateAt]
def wsX5_like_r2 : List Cond := [Cond.selects RX0 yX0_stateAt yX0_stateAt, Cond.code yX0_stateAt cX0_stateAt 2 (some (.object "ZoneSampler$State")), Cond.methodLink RX0 35 yX2_copyFrom, Cond.instanceMethod yX2_copyFrom, Cond.selects RX2 yX2_copyFrom yX2_copyFrom, Cond.initialized RX2, Cond.code yX2_copyFrom cX2_copyFrom 2 none, Cond.fieldLink RX2 14 "ZoneSampler$State" "zones" "LZoneSampler$Table;", Cond.fieldLink RX2 20 "ZoneSampler$State" "voices" "LZoneSampler$Table;", Cond.fieldLink RX2 23 "ZoneSampler$State" "numbers" "[I", Cond.methodLink RX2 34 Lib.Math.min.name, Cond.static Lib.Math.min.name, Cond.initialized "java/lang/Math", Cond.code Lib.Math.min.name Lib.Math.min.code 2 (some .int), Cond.methodLink RX2 40 arraycopyName, Cond.native arraycopyName, Cond.static arraycopyName, Cond.initialized "java/lang/System", Cond.fieldLink RX2 46 "ZoneSampler$State" "pedalDown" "Z", Cond.fieldLink RX2 50 "ZoneSampler$State" "notes" "I", Cond.methodLink RX2 30 yX4_copyFrom, Cond.instanceMethod yX4_copyFrom, Cond.selects RX4 yX4_copyFrom yX4_copyFrom, Cond.code yX4_copyFrom cX4_copyFrom 2 none]
def wsX5_like_r3 : List Cond := [Cond.fieldLink RX4 13 "ZoneSampler$Table" "cells" "[I", Cond.methodLink RX4 28 Lib.Math.min.name, Cond.methodLink RX4 33 arraycopyName, Cond.methodLink RX5 69 yX2_shapeZone, Cond.instanceMethod yX2_shapeZone, Cond.selects RX2 yX2_shapeZone yX2_shapeZone, Cond.code yX2_shapeZone cX2_shapeZone 5 none, Cond.methodLink RX2 62 yX4_put, Cond.instanceMethod yX4_put, Cond.selects RX4 yX4_put yX4_put, Cond.code yX4_put cX4_put 5 none, Cond.fieldLink RX4 7 "ZoneSampler$Table" "width" "I", Cond.methodLink RX5 73 yX4_rowsWith, Cond.instanceMethod yX4_rowsWith, Cond.selects RX4 yX4_rowsWith yX4_rowsWith, Cond.code yX4_rowsWith cX4_rowsWith 5 (some .int), Cond.methodLink RX4 24 yX4_get, Cond.instanceMethod yX4_get, Cond.selects RX4 yX4_get yX4_get, Cond.code yX4_get cX4_get 4 (some .int)]
def wsX5_like : List Cond := .code yX5_like cX5_like 5 (some .int) :: ((wsX5_like_r1 ++ (wsX5_like_r2 ++ wsX5_like_r3)) ++ wsX50 ++ wsX20 ++ wsX40 ++ wsX00)
def wsX5_takeZone_r1 : List Cond := [Cond.fieldLink RX5 10 "ZoneSampler" "now" "LZoneSampler$State;", Cond.fieldLink RX5 25 "ZoneSampler" "history" "LZoneSampler$History;", Cond.methodLink RX5 65 yX4_has, Cond.instanceMethod yX4_has, Cond.selects RX4 yX4_has yX4_has, Cond.initialized RX4, Cond.code yX4_has cX4_has 2 (some .boolean), Cond.fieldLink RX4 17 "ZoneSampler$Table" "rows" "I", Cond.methodLink RX5 57 yX0_record, Cond.instanceMethod yX0_record, Cond.selects RX0 yX0_record yX0_record, Cond.initialized RX0, Cond.code yX0_record cX0_record 3 none, Cond.fieldLink RX0 27 "ZoneSampler$History" "kept" "I", Cond.fieldLink RX0 12 "ZoneSampler$History" "first" "LZoneSampler$State;", Cond.fieldLink RX0 18 "ZoneSampler$History" "second" "LZoneSampler$State;", Cond.fieldLink RX0 21 "ZoneSampler$History" "third" "LZoneSampler$State;", Cond.fieldLink RX0 24 "ZoneSampler$History" "fourth" "LZoneSampler$State;", Cond.methodLink RX0 31 yX0_stateAt, Cond.instanceMethod yX0_stateAt, Cond.selects RX0 yX0_stateAt yX0_stateAt, Cond.code yX0_stateAt cX0_stateAt 2 (some (.object "ZoneSampler$State")), Cond.methodLink RX0 35 yX2_copyFrom, Cond.instanceMethod yX2_copyFrom]
def wsX5_takeZone_r2 : List Cond := [Cond.selects RX2 yX2_copyFrom yX2_copyFrom, Cond.initialized RX2, Cond.code yX2_copyFrom cX2_copyFrom 2 none, Cond.fieldLink RX2 14 "ZoneSampler$State" "zones" "LZoneSampler$Table;", Cond.fieldLink RX2 20 "ZoneSampler$State" "voices" "LZoneSampler$Table;", Cond.fieldLink RX2 23 "ZoneSampler$State" "numbers" "[I", Cond.methodLink RX2 34 Lib.Math.min.name, Cond.static Lib.Math.min.name, Cond.initialized "java/lang/Math", Cond.code Lib.Math.min.name Lib.Math.min.code 2 (some .int), Cond.methodLink RX2 40 arraycopyName, Cond.native arraycopyName, Cond.static arraycopyName, Cond.initialized "java/lang/System", Cond.fieldLink RX2 46 "ZoneSampler$State" "pedalDown" "Z", Cond.fieldLink RX2 50 "ZoneSampler$State" "notes" "I", Cond.methodLink RX2 30 yX4_copyFrom, Cond.instanceMethod yX4_copyFrom, Cond.selects RX4 yX4_copyFrom yX4_copyFrom, Cond.code yX4_copyFrom cX4_copyFrom 2 none, Cond.fieldLink RX4 13 "ZoneSampler$Table" "cells" "[I", Cond.methodLink RX4 28 Lib.Math.min.name, Cond.methodLink RX4 33 arraycopyName, Cond.methodLink RX5 77 yX2_dropZone]
def wsX5_takeZone_r3 : List Cond := [Cond.instanceMethod yX2_dropZone, Cond.selects RX2 yX2_dropZone yX2_dropZone, Cond.code yX2_dropZone cX2_dropZone 5 (some .int), Cond.methodLink RX2 70 yX4_rows, Cond.instanceMethod yX4_rows, Cond.selects RX4 yX4_rows yX4_rows, Cond.code yX4_rows cX4_rows 1 (some .int), Cond.methodLink RX2 73 yX4_get, Cond.instanceMethod yX4_get, Cond.selects RX4 yX4_get yX4_get, Cond.code yX4_get cX4_get 4 (some .int), Cond.fieldLink RX4 7 "ZoneSampler$Table" "width" "I", Cond.methodLink RX2 76 yX4_removeRow, Cond.instanceMethod yX4_removeRow, Cond.selects RX4 yX4_removeRow yX4_removeRow, Cond.code yX4_removeRow cX4_removeRow 3 none, Cond.methodLink RX4 20 yX4_has, Cond.methodLink RX2 62 yX4_put, Cond.instanceMethod yX4_put, Cond.selects RX4 yX4_put yX4_put, Cond.code yX4_put cX4_put 5 none, Cond.methodLink RX2 80 yX2_grow, Cond.instanceMethod yX2_grow, Cond.selects RX2 yX2_grow yX2_grow]
def wsX5_takeZone_r4 : List Cond := [Cond.code yX2_grow cX2_grow 3 none, Cond.methodLink RX2 54 yX2_number, Cond.instanceMethod yX2_number, Cond.selects RX2 yX2_number yX2_number, Cond.code yX2_number cX2_number 2 (some .int), Cond.methodLink RX2 27 yX2_putNumber, Cond.instanceMethod yX2_putNumber, Cond.selects RX2 yX2_putNumber yX2_putNumber, Cond.code yX2_putNumber cX2_putNumber 3 none]
def wsX5_takeZone : List Cond := .code yX5_takeZone cX5_takeZone 2 (some .int) :: ((wsX5_takeZone_r1 ++ (wsX5_takeZone_r2 ++ (wsX5_takeZone_r3 ++ wsX5_takeZone_r4))) ++ wsX50 ++ wsX20 ++ wsX40 ++ wsX00)
def wsX5_isNote : List Cond := .code yX5_isNote cX5_isNote 2 (some .boolean) :: ([.methodLink RX5 43 yX5_within, .static yX5_within, .initialized RX5, .code yX5_within cX5_within 3 (some .boolean)])
def wsX5_hit_r1 : List Cond := [Cond.fieldLink RX5 25 "ZoneSampler" "history" "LZoneSampler$History;", Cond.fieldLink RX5 10 "ZoneSampler" "now" "LZoneSampler$State;", Cond.methodLink RX5 81 yX5_isNote, Cond.static yX5_isNote, Cond.initialized RX5, Cond.code yX5_isNote cX5_isNote 2 (some .boolean), Cond.methodLink RX5 43 yX5_within, Cond.static yX5_within, Cond.code yX5_within cX5_within 3 (some .boolean), Cond.methodLink RX5 57 yX0_record, Cond.instanceMethod yX0_record, Cond.selects RX0 yX0_record yX0_record, Cond.initialized RX0, Cond.code yX0_record cX0_record 3 none, Cond.fieldLink RX0 27 "ZoneSampler$History" "kept" "I", Cond.fieldLink RX0 12 "ZoneSampler$History" "first" "LZoneSampler$State;", Cond.fieldLink RX0 18 "ZoneSampler$History" "second" "LZoneSampler$State;", Cond.fieldLink RX0 21 "ZoneSampler$History" "third" "LZoneSampler$State;", Cond.fieldLink RX0 24 "ZoneSampler$History" "fourth" "LZoneSampler$State;", Cond.methodLink RX0 31 yX0_stateAt, Cond.instanceMethod yX0_stateAt, Cond.selects RX0 yX0_stateAt yX0_stateAt, Cond.code yX0_stateAt cX0_stateAt 2 (some (.object "ZoneSampler$State")), Cond.methodLink RX0 35 yX2_copyFrom]
def wsX5_hit_r2 : List Cond := [Cond.instanceMethod yX2_copyFrom, Cond.selects RX2 yX2_copyFrom yX2_copyFrom, Cond.initialized RX2, Cond.code yX2_copyFrom cX2_copyFrom 2 none, Cond.fieldLink RX2 14 "ZoneSampler$State" "zones" "LZoneSampler$Table;", Cond.fieldLink RX2 20 "ZoneSampler$State" "voices" "LZoneSampler$Table;", Cond.fieldLink RX2 23 "ZoneSampler$State" "numbers" "[I", Cond.methodLink RX2 34 Lib.Math.min.name, Cond.static Lib.Math.min.name, Cond.initialized "java/lang/Math", Cond.code Lib.Math.min.name Lib.Math.min.code 2 (some .int), Cond.methodLink RX2 40 arraycopyName, Cond.native arraycopyName, Cond.static arraycopyName, Cond.initialized "java/lang/System", Cond.fieldLink RX2 46 "ZoneSampler$State" "pedalDown" "Z", Cond.fieldLink RX2 50 "ZoneSampler$State" "notes" "I", Cond.methodLink RX2 30 yX4_copyFrom, Cond.instanceMethod yX4_copyFrom, Cond.selects RX4 yX4_copyFrom yX4_copyFrom, Cond.initialized RX4, Cond.code yX4_copyFrom cX4_copyFrom 2 none, Cond.fieldLink RX4 13 "ZoneSampler$Table" "cells" "[I", Cond.methodLink RX4 28 Lib.Math.min.name]
def wsX5_hit_r3 : List Cond := [Cond.methodLink RX4 33 arraycopyName, Cond.fieldLink RX4 17 "ZoneSampler$Table" "rows" "I", Cond.methodLink RX5 85 yX2_strike, Cond.instanceMethod yX2_strike, Cond.selects RX2 yX2_strike yX2_strike, Cond.code yX2_strike cX2_strike 5 (some .int), Cond.methodLink RX2 90 yX2_moveHeld, Cond.instanceMethod yX2_moveHeld, Cond.selects RX2 yX2_moveHeld yX2_moveHeld, Cond.code yX2_moveHeld cX2_moveHeld 5 (some .int), Cond.methodLink RX2 70 yX4_rows, Cond.instanceMethod yX4_rows, Cond.selects RX4 yX4_rows yX4_rows, Cond.code yX4_rows cX4_rows 1 (some .int), Cond.methodLink RX2 73 yX4_get, Cond.instanceMethod yX4_get, Cond.selects RX4 yX4_get yX4_get, Cond.code yX4_get cX4_get 4 (some .int), Cond.fieldLink RX4 7 "ZoneSampler$Table" "width" "I", Cond.methodLink RX2 62 yX4_put, Cond.instanceMethod yX4_put, Cond.selects RX4 yX4_put yX4_put, Cond.code yX4_put cX4_put 5 none, Cond.methodLink RX2 87 yX2_sounds]
def wsX5_hit_r4 : List Cond := [Cond.instanceMethod yX2_sounds, Cond.selects RX2 yX2_sounds yX2_sounds, Cond.code yX2_sounds cX2_sounds 8 (some .boolean), Cond.methodLink RX2 83 yX2_matches, Cond.instanceMethod yX2_matches, Cond.selects RX2 yX2_matches yX2_matches, Cond.code yX2_matches cX2_matches 4 (some .boolean), Cond.methodLink RX2 54 yX2_number, Cond.instanceMethod yX2_number, Cond.selects RX2 yX2_number yX2_number, Cond.code yX2_number cX2_number 2 (some .int), Cond.methodLink RX2 93 yX2_begin, Cond.instanceMethod yX2_begin, Cond.selects RX2 yX2_begin yX2_begin, Cond.code yX2_begin cX2_begin 5 none, Cond.methodLink RX2 99 yX2_choke, Cond.instanceMethod yX2_choke, Cond.selects RX2 yX2_choke yX2_choke, Cond.code yX2_choke cX2_choke 4 none, Cond.methodLink RX2 76 yX4_removeRow, Cond.instanceMethod yX4_removeRow, Cond.selects RX4 yX4_removeRow yX4_removeRow, Cond.code yX4_removeRow cX4_removeRow 3 none, Cond.methodLink RX4 20 yX4_has]
def wsX5_hit_r5 : List Cond := [Cond.instanceMethod yX4_has, Cond.selects RX4 yX4_has yX4_has, Cond.code yX4_has cX4_has 2 (some .boolean), Cond.methodLink RX2 80 yX2_grow, Cond.instanceMethod yX2_grow, Cond.selects RX2 yX2_grow yX2_grow, Cond.code yX2_grow cX2_grow 3 none, Cond.methodLink RX2 27 yX2_putNumber, Cond.instanceMethod yX2_putNumber, Cond.selects RX2 yX2_putNumber yX2_putNumber, Cond.code yX2_putNumber cX2_putNumber 3 none, Cond.methodLink RX2 102 yX2_stealDownTo, Cond.instanceMethod yX2_stealDownTo, Cond.selects RX2 yX2_stealDownTo yX2_stealDownTo, Cond.code yX2_stealDownTo cX2_stealDownTo 5 none, Cond.methodLink RX2 105 yX2_stealRank, Cond.instanceMethod yX2_stealRank, Cond.selects RX2 yX2_stealRank yX2_stealRank, Cond.code yX2_stealRank cX2_stealRank 2 (some .int), Cond.methodLink RX2 58 yX4_addRow, Cond.instanceMethod yX4_addRow, Cond.selects RX4 yX4_addRow yX4_addRow, Cond.code yX4_addRow cX4_addRow 1 (some .int), Cond.methodLink RX2 96 yX2_passTurns]
def wsX5_hit_r6 : List Cond := [Cond.instanceMethod yX2_passTurns, Cond.selects RX2 yX2_passTurns yX2_passTurns, Cond.code yX2_passTurns cX2_passTurns 6 none]
def wsX5_hit : List Cond := .code yX5_hit cX5_hit 3 (some .int) :: ((wsX5_hit_r1 ++ (wsX5_hit_r2 ++ (wsX5_hit_r3 ++ (wsX5_hit_r4 ++ (wsX5_hit_r5 ++ wsX5_hit_r6))))) ++ wsX50 ++ wsX00 ++ wsX20 ++ wsX40)
def wsX5_letGo_r1 : List Cond := [Cond.fieldLink RX5 25 "ZoneSampler" "history" "LZoneSampler$History;", Cond.fieldLink RX5 10 "ZoneSampler" "now" "LZoneSampler$State;", Cond.methodLink RX5 43 yX5_within, Cond.static yX5_within, Cond.initialized RX5, Cond.code yX5_within cX5_within 3 (some .boolean), Cond.methodLink RX5 57 yX0_record, Cond.instanceMethod yX0_record, Cond.selects RX0 yX0_record yX0_record, Cond.initialized RX0, Cond.code yX0_record cX0_record 3 none, Cond.fieldLink RX0 27 "ZoneSampler$History" "kept" "I", Cond.fieldLink RX0 12 "ZoneSampler$History" "first" "LZoneSampler$State;", Cond.fieldLink RX0 18 "ZoneSampler$History" "second" "LZoneSampler$State;", Cond.fieldLink RX0 21 "ZoneSampler$History" "third" "LZoneSampler$State;", Cond.fieldLink RX0 24 "ZoneSampler$History" "fourth" "LZoneSampler$State;", Cond.methodLink RX0 31 yX0_stateAt, Cond.instanceMethod yX0_stateAt, Cond.selects RX0 yX0_stateAt yX0_stateAt, Cond.code yX0_stateAt cX0_stateAt 2 (some (.object "ZoneSampler$State")), Cond.methodLink RX0 35 yX2_copyFrom, Cond.instanceMethod yX2_copyFrom, Cond.selects RX2 yX2_copyFrom yX2_copyFrom, Cond.initialized RX2]
def wsX5_letGo_r2 : List Cond := [Cond.code yX2_copyFrom cX2_copyFrom 2 none, Cond.fieldLink RX2 14 "ZoneSampler$State" "zones" "LZoneSampler$Table;", Cond.fieldLink RX2 20 "ZoneSampler$State" "voices" "LZoneSampler$Table;", Cond.fieldLink RX2 23 "ZoneSampler$State" "numbers" "[I", Cond.methodLink RX2 34 Lib.Math.min.name, Cond.static Lib.Math.min.name, Cond.initialized "java/lang/Math", Cond.code Lib.Math.min.name Lib.Math.min.code 2 (some .int), Cond.methodLink RX2 40 arraycopyName, Cond.native arraycopyName, Cond.static arraycopyName, Cond.initialized "java/lang/System", Cond.fieldLink RX2 46 "ZoneSampler$State" "pedalDown" "Z", Cond.fieldLink RX2 50 "ZoneSampler$State" "notes" "I", Cond.methodLink RX2 30 yX4_copyFrom, Cond.instanceMethod yX4_copyFrom, Cond.selects RX4 yX4_copyFrom yX4_copyFrom, Cond.initialized RX4, Cond.code yX4_copyFrom cX4_copyFrom 2 none, Cond.fieldLink RX4 13 "ZoneSampler$Table" "cells" "[I", Cond.methodLink RX4 28 Lib.Math.min.name, Cond.methodLink RX4 33 arraycopyName, Cond.fieldLink RX4 17 "ZoneSampler$Table" "rows" "I", Cond.methodLink RX5 88 yX2_release]
def wsX5_letGo_r3 : List Cond := [Cond.instanceMethod yX2_release, Cond.selects RX2 yX2_release yX2_release, Cond.code yX2_release cX2_release 2 (some .int), Cond.methodLink RX2 90 yX2_moveHeld, Cond.instanceMethod yX2_moveHeld, Cond.selects RX2 yX2_moveHeld yX2_moveHeld, Cond.code yX2_moveHeld cX2_moveHeld 5 (some .int), Cond.methodLink RX2 70 yX4_rows, Cond.instanceMethod yX4_rows, Cond.selects RX4 yX4_rows yX4_rows, Cond.code yX4_rows cX4_rows 1 (some .int), Cond.methodLink RX2 73 yX4_get, Cond.instanceMethod yX4_get, Cond.selects RX4 yX4_get yX4_get, Cond.code yX4_get cX4_get 4 (some .int), Cond.fieldLink RX4 7 "ZoneSampler$Table" "width" "I", Cond.methodLink RX2 62 yX4_put, Cond.instanceMethod yX4_put, Cond.selects RX4 yX4_put yX4_put, Cond.code yX4_put cX4_put 5 none]
def wsX5_letGo : List Cond := .code yX5_letGo cX5_letGo 2 (some .int) :: ((wsX5_letGo_r1 ++ (wsX5_letGo_r2 ++ wsX5_letGo_r3)) ++ wsX50 ++ wsX00 ++ wsX20 ++ wsX40)
def wsX5_pedal_r1 : List Cond := [Cond.fieldLink RX5 25 "ZoneSampler" "history" "LZoneSampler$History;", Cond.fieldLink RX5 10 "ZoneSampler" "now" "LZoneSampler$State;", Cond.methodLink RX5 57 yX0_record, Cond.instanceMethod yX0_record, Cond.selects RX0 yX0_record yX0_record, Cond.initialized RX0, Cond.code yX0_record cX0_record 3 none, Cond.fieldLink RX0 27 "ZoneSampler$History" "kept" "I", Cond.fieldLink RX0 12 "ZoneSampler$History" "first" "LZoneSampler$State;", Cond.fieldLink RX0 18 "ZoneSampler$History" "second" "LZoneSampler$State;", Cond.fieldLink RX0 21 "ZoneSampler$History" "third" "LZoneSampler$State;", Cond.fieldLink RX0 24 "ZoneSampler$History" "fourth" "LZoneSampler$State;", Cond.methodLink RX0 31 yX0_stateAt, Cond.instanceMethod yX0_stateAt, Cond.selects RX0 yX0_stateAt yX0_stateAt, Cond.code yX0_stateAt cX0_stateAt 2 (some (.object "ZoneSampler$State")), Cond.methodLink RX0 35 yX2_copyFrom, Cond.instanceMethod yX2_copyFrom, Cond.selects RX2 yX2_copyFrom yX2_copyFrom, Cond.initialized RX2, Cond.code yX2_copyFrom cX2_copyFrom 2 none, Cond.fieldLink RX2 14 "ZoneSampler$State" "zones" "LZoneSampler$Table;", Cond.fieldLink RX2 20 "ZoneSampler$State" "voices" "LZoneSampler$Table;", Cond.fieldLink RX2 23 "ZoneSampler$State" "numbers" "[I"]
def wsX5_pedal_r2 : List Cond := [Cond.methodLink RX2 34 Lib.Math.min.name, Cond.static Lib.Math.min.name, Cond.initialized "java/lang/Math", Cond.code Lib.Math.min.name Lib.Math.min.code 2 (some .int), Cond.methodLink RX2 40 arraycopyName, Cond.native arraycopyName, Cond.static arraycopyName, Cond.initialized "java/lang/System", Cond.fieldLink RX2 46 "ZoneSampler$State" "pedalDown" "Z", Cond.fieldLink RX2 50 "ZoneSampler$State" "notes" "I", Cond.methodLink RX2 30 yX4_copyFrom, Cond.instanceMethod yX4_copyFrom, Cond.selects RX4 yX4_copyFrom yX4_copyFrom, Cond.initialized RX4, Cond.code yX4_copyFrom cX4_copyFrom 2 none, Cond.fieldLink RX4 13 "ZoneSampler$Table" "cells" "[I", Cond.methodLink RX4 28 Lib.Math.min.name, Cond.methodLink RX4 33 arraycopyName, Cond.fieldLink RX4 17 "ZoneSampler$Table" "rows" "I", Cond.methodLink RX5 91 yX2_tread, Cond.instanceMethod yX2_tread, Cond.selects RX2 yX2_tread yX2_tread, Cond.code yX2_tread cX2_tread 3 (some .int), Cond.methodLink RX2 70 yX4_rows]
def wsX5_pedal_r3 : List Cond := [Cond.instanceMethod yX4_rows, Cond.selects RX4 yX4_rows yX4_rows, Cond.code yX4_rows cX4_rows 1 (some .int), Cond.methodLink RX2 73 yX4_get, Cond.instanceMethod yX4_get, Cond.selects RX4 yX4_get yX4_get, Cond.code yX4_get cX4_get 4 (some .int), Cond.fieldLink RX4 7 "ZoneSampler$Table" "width" "I", Cond.methodLink RX2 62 yX4_put, Cond.instanceMethod yX4_put, Cond.selects RX4 yX4_put yX4_put, Cond.code yX4_put cX4_put 5 none]
def wsX5_pedal : List Cond := .code yX5_pedal cX5_pedal 1 (some .int) :: ((wsX5_pedal_r1 ++ (wsX5_pedal_r2 ++ wsX5_pedal_r3)) ++ wsX50 ++ wsX00 ++ wsX20 ++ wsX40)
def wsX5_pass_r1 : List Cond := [Cond.fieldLink RX5 25 "ZoneSampler" "history" "LZoneSampler$History;", Cond.fieldLink RX5 10 "ZoneSampler" "now" "LZoneSampler$State;", Cond.methodLink RX5 43 yX5_within, Cond.static yX5_within, Cond.initialized RX5, Cond.code yX5_within cX5_within 3 (some .boolean), Cond.methodLink RX5 57 yX0_record, Cond.instanceMethod yX0_record, Cond.selects RX0 yX0_record yX0_record, Cond.initialized RX0, Cond.code yX0_record cX0_record 3 none, Cond.fieldLink RX0 27 "ZoneSampler$History" "kept" "I", Cond.fieldLink RX0 12 "ZoneSampler$History" "first" "LZoneSampler$State;", Cond.fieldLink RX0 18 "ZoneSampler$History" "second" "LZoneSampler$State;", Cond.fieldLink RX0 21 "ZoneSampler$History" "third" "LZoneSampler$State;", Cond.fieldLink RX0 24 "ZoneSampler$History" "fourth" "LZoneSampler$State;", Cond.methodLink RX0 31 yX0_stateAt, Cond.instanceMethod yX0_stateAt, Cond.selects RX0 yX0_stateAt yX0_stateAt, Cond.code yX0_stateAt cX0_stateAt 2 (some (.object "ZoneSampler$State")), Cond.methodLink RX0 35 yX2_copyFrom, Cond.instanceMethod yX2_copyFrom, Cond.selects RX2 yX2_copyFrom yX2_copyFrom, Cond.initialized RX2]
def wsX5_pass_r2 : List Cond := [Cond.code yX2_copyFrom cX2_copyFrom 2 none, Cond.fieldLink RX2 14 "ZoneSampler$State" "zones" "LZoneSampler$Table;", Cond.fieldLink RX2 20 "ZoneSampler$State" "voices" "LZoneSampler$Table;", Cond.fieldLink RX2 23 "ZoneSampler$State" "numbers" "[I", Cond.methodLink RX2 34 Lib.Math.min.name, Cond.static Lib.Math.min.name, Cond.initialized "java/lang/Math", Cond.code Lib.Math.min.name Lib.Math.min.code 2 (some .int), Cond.methodLink RX2 40 arraycopyName, Cond.native arraycopyName, Cond.static arraycopyName, Cond.initialized "java/lang/System", Cond.fieldLink RX2 46 "ZoneSampler$State" "pedalDown" "Z", Cond.fieldLink RX2 50 "ZoneSampler$State" "notes" "I", Cond.methodLink RX2 30 yX4_copyFrom, Cond.instanceMethod yX4_copyFrom, Cond.selects RX4 yX4_copyFrom yX4_copyFrom, Cond.initialized RX4, Cond.code yX4_copyFrom cX4_copyFrom 2 none, Cond.fieldLink RX4 13 "ZoneSampler$Table" "cells" "[I", Cond.methodLink RX4 28 Lib.Math.min.name, Cond.methodLink RX4 33 arraycopyName, Cond.fieldLink RX4 17 "ZoneSampler$Table" "rows" "I", Cond.methodLink RX5 94 yX2_runTicks]
def wsX5_pass_r3 : List Cond := [Cond.instanceMethod yX2_runTicks, Cond.selects RX2 yX2_runTicks yX2_runTicks, Cond.code yX2_runTicks cX2_runTicks 5 (some .int), Cond.methodLink RX2 54 yX2_number, Cond.instanceMethod yX2_number, Cond.selects RX2 yX2_number yX2_number, Cond.code yX2_number cX2_number 2 (some .int), Cond.methodLink RX2 70 yX4_rows, Cond.instanceMethod yX4_rows, Cond.selects RX4 yX4_rows yX4_rows, Cond.code yX4_rows cX4_rows 1 (some .int), Cond.methodLink RX2 108 yX2_wear, Cond.instanceMethod yX2_wear, Cond.selects RX2 yX2_wear yX2_wear, Cond.code yX2_wear cX2_wear 4 none, Cond.methodLink RX2 73 yX4_get, Cond.instanceMethod yX4_get, Cond.selects RX4 yX4_get yX4_get, Cond.code yX4_get cX4_get 4 (some .int), Cond.fieldLink RX4 7 "ZoneSampler$Table" "width" "I", Cond.methodLink RX2 111 yX2_fadeOf, Cond.instanceMethod yX2_fadeOf, Cond.selects RX2 yX2_fadeOf yX2_fadeOf, Cond.code yX2_fadeOf cX2_fadeOf 2 (some .int)]
def wsX5_pass_r4 : List Cond := [Cond.methodLink RX2 62 yX4_put, Cond.instanceMethod yX4_put, Cond.selects RX4 yX4_put yX4_put, Cond.code yX4_put cX4_put 5 none, Cond.methodLink RX2 76 yX4_removeRow, Cond.instanceMethod yX4_removeRow, Cond.selects RX4 yX4_removeRow yX4_removeRow, Cond.code yX4_removeRow cX4_removeRow 3 none, Cond.methodLink RX4 20 yX4_has, Cond.instanceMethod yX4_has, Cond.selects RX4 yX4_has yX4_has, Cond.code yX4_has cX4_has 2 (some .boolean), Cond.methodLink RX2 80 yX2_grow, Cond.instanceMethod yX2_grow, Cond.selects RX2 yX2_grow yX2_grow, Cond.code yX2_grow cX2_grow 3 none, Cond.methodLink RX2 27 yX2_putNumber, Cond.instanceMethod yX2_putNumber, Cond.selects RX2 yX2_putNumber yX2_putNumber, Cond.code yX2_putNumber cX2_putNumber 3 none]
def wsX5_pass : List Cond := .code yX5_pass cX5_pass 2 (some .int) :: ((wsX5_pass_r1 ++ (wsX5_pass_r2 ++ (wsX5_pass_r3 ++ wsX5_pass_r4))) ++ wsX50 ++ wsX00 ++ wsX20 ++ wsX40)
def wsX5_silence_r1 : List Cond := [Cond.fieldLink RX5 25 "ZoneSampler" "history" "LZoneSampler$History;", Cond.fieldLink RX5 10 "ZoneSampler" "now" "LZoneSampler$State;", Cond.methodLink RX5 57 yX0_record, Cond.instanceMethod yX0_record, Cond.selects RX0 yX0_record yX0_record, Cond.initialized RX0, Cond.code yX0_record cX0_record 3 none, Cond.fieldLink RX0 27 "ZoneSampler$History" "kept" "I", Cond.fieldLink RX0 12 "ZoneSampler$History" "first" "LZoneSampler$State;", Cond.fieldLink RX0 18 "ZoneSampler$History" "second" "LZoneSampler$State;", Cond.fieldLink RX0 21 "ZoneSampler$History" "third" "LZoneSampler$State;", Cond.fieldLink RX0 24 "ZoneSampler$History" "fourth" "LZoneSampler$State;", Cond.methodLink RX0 31 yX0_stateAt, Cond.instanceMethod yX0_stateAt, Cond.selects RX0 yX0_stateAt yX0_stateAt, Cond.code yX0_stateAt cX0_stateAt 2 (some (.object "ZoneSampler$State")), Cond.methodLink RX0 35 yX2_copyFrom, Cond.instanceMethod yX2_copyFrom, Cond.selects RX2 yX2_copyFrom yX2_copyFrom, Cond.initialized RX2, Cond.code yX2_copyFrom cX2_copyFrom 2 none, Cond.fieldLink RX2 14 "ZoneSampler$State" "zones" "LZoneSampler$Table;", Cond.fieldLink RX2 20 "ZoneSampler$State" "voices" "LZoneSampler$Table;", Cond.fieldLink RX2 23 "ZoneSampler$State" "numbers" "[I"]
def wsX5_silence_r2 : List Cond := [Cond.methodLink RX2 34 Lib.Math.min.name, Cond.static Lib.Math.min.name, Cond.initialized "java/lang/Math", Cond.code Lib.Math.min.name Lib.Math.min.code 2 (some .int), Cond.methodLink RX2 40 arraycopyName, Cond.native arraycopyName, Cond.static arraycopyName, Cond.initialized "java/lang/System", Cond.fieldLink RX2 46 "ZoneSampler$State" "pedalDown" "Z", Cond.fieldLink RX2 50 "ZoneSampler$State" "notes" "I", Cond.methodLink RX2 30 yX4_copyFrom, Cond.instanceMethod yX4_copyFrom, Cond.selects RX4 yX4_copyFrom yX4_copyFrom, Cond.initialized RX4, Cond.code yX4_copyFrom cX4_copyFrom 2 none, Cond.fieldLink RX4 13 "ZoneSampler$Table" "cells" "[I", Cond.methodLink RX4 28 Lib.Math.min.name, Cond.methodLink RX4 33 arraycopyName, Cond.fieldLink RX4 17 "ZoneSampler$Table" "rows" "I", Cond.methodLink RX5 97 yX2_stopAll, Cond.instanceMethod yX2_stopAll, Cond.selects RX2 yX2_stopAll yX2_stopAll, Cond.code yX2_stopAll cX2_stopAll 2 (some .int), Cond.methodLink RX2 70 yX4_rows]
def wsX5_silence_r3 : List Cond := [Cond.instanceMethod yX4_rows, Cond.selects RX4 yX4_rows yX4_rows, Cond.code yX4_rows cX4_rows 1 (some .int), Cond.methodLink RX2 117 yX4_removeAll, Cond.instanceMethod yX4_removeAll, Cond.selects RX4 yX4_removeAll yX4_removeAll, Cond.code yX4_removeAll cX4_removeAll 1 none, Cond.methodLink RX2 80 yX2_grow, Cond.instanceMethod yX2_grow, Cond.selects RX2 yX2_grow yX2_grow, Cond.code yX2_grow cX2_grow 3 none, Cond.methodLink RX2 54 yX2_number, Cond.instanceMethod yX2_number, Cond.selects RX2 yX2_number yX2_number, Cond.code yX2_number cX2_number 2 (some .int), Cond.methodLink RX2 27 yX2_putNumber, Cond.instanceMethod yX2_putNumber, Cond.selects RX2 yX2_putNumber yX2_putNumber, Cond.code yX2_putNumber cX2_putNumber 3 none]
def wsX5_silence : List Cond := .code yX5_silence cX5_silence 1 (some .int) :: ((wsX5_silence_r1 ++ (wsX5_silence_r2 ++ wsX5_silence_r3)) ++ wsX50 ++ wsX00 ++ wsX20 ++ wsX40)
def wsX5_isSetting : List Cond := .code yX5_isSetting cX5_isSetting 2 (some .boolean) :: ([.methodLink RX5 43 yX5_within, .static yX5_within, .initialized RX5, .code yX5_within cX5_within 3 (some .boolean)])
def wsX5_set_r1 : List Cond := [Cond.fieldLink RX5 25 "ZoneSampler" "history" "LZoneSampler$History;", Cond.fieldLink RX5 10 "ZoneSampler" "now" "LZoneSampler$State;", Cond.methodLink RX5 100 yX5_isSetting, Cond.static yX5_isSetting, Cond.initialized RX5, Cond.code yX5_isSetting cX5_isSetting 2 (some .boolean), Cond.methodLink RX5 43 yX5_within, Cond.static yX5_within, Cond.code yX5_within cX5_within 3 (some .boolean), Cond.methodLink RX5 57 yX0_record, Cond.instanceMethod yX0_record, Cond.selects RX0 yX0_record yX0_record, Cond.initialized RX0, Cond.code yX0_record cX0_record 3 none, Cond.fieldLink RX0 27 "ZoneSampler$History" "kept" "I", Cond.fieldLink RX0 12 "ZoneSampler$History" "first" "LZoneSampler$State;", Cond.fieldLink RX0 18 "ZoneSampler$History" "second" "LZoneSampler$State;", Cond.fieldLink RX0 21 "ZoneSampler$History" "third" "LZoneSampler$State;", Cond.fieldLink RX0 24 "ZoneSampler$History" "fourth" "LZoneSampler$State;", Cond.methodLink RX0 31 yX0_stateAt, Cond.instanceMethod yX0_stateAt, Cond.selects RX0 yX0_stateAt yX0_stateAt, Cond.code yX0_stateAt cX0_stateAt 2 (some (.object "ZoneSampler$State")), Cond.methodLink RX0 35 yX2_copyFrom]
def wsX5_set_r2 : List Cond := [Cond.instanceMethod yX2_copyFrom, Cond.selects RX2 yX2_copyFrom yX2_copyFrom, Cond.initialized RX2, Cond.code yX2_copyFrom cX2_copyFrom 2 none, Cond.fieldLink RX2 14 "ZoneSampler$State" "zones" "LZoneSampler$Table;", Cond.fieldLink RX2 20 "ZoneSampler$State" "voices" "LZoneSampler$Table;", Cond.fieldLink RX2 23 "ZoneSampler$State" "numbers" "[I", Cond.methodLink RX2 34 Lib.Math.min.name, Cond.static Lib.Math.min.name, Cond.initialized "java/lang/Math", Cond.code Lib.Math.min.name Lib.Math.min.code 2 (some .int), Cond.methodLink RX2 40 arraycopyName, Cond.native arraycopyName, Cond.static arraycopyName, Cond.initialized "java/lang/System", Cond.fieldLink RX2 46 "ZoneSampler$State" "pedalDown" "Z", Cond.fieldLink RX2 50 "ZoneSampler$State" "notes" "I", Cond.methodLink RX2 30 yX4_copyFrom, Cond.instanceMethod yX4_copyFrom, Cond.selects RX4 yX4_copyFrom yX4_copyFrom, Cond.initialized RX4, Cond.code yX4_copyFrom cX4_copyFrom 2 none, Cond.fieldLink RX4 13 "ZoneSampler$Table" "cells" "[I", Cond.methodLink RX4 28 Lib.Math.min.name]
def wsX5_set_r3 : List Cond := [Cond.methodLink RX4 33 arraycopyName, Cond.fieldLink RX4 17 "ZoneSampler$Table" "rows" "I", Cond.methodLink RX5 103 yX2_number, Cond.instanceMethod yX2_number, Cond.selects RX2 yX2_number yX2_number, Cond.code yX2_number cX2_number 2 (some .int), Cond.methodLink RX5 106 yX2_putNumber, Cond.instanceMethod yX2_putNumber, Cond.selects RX2 yX2_putNumber yX2_putNumber, Cond.code yX2_putNumber cX2_putNumber 3 none, Cond.methodLink RX5 110 yX2_stealDownTo, Cond.instanceMethod yX2_stealDownTo, Cond.selects RX2 yX2_stealDownTo yX2_stealDownTo, Cond.code yX2_stealDownTo cX2_stealDownTo 5 none, Cond.methodLink RX2 70 yX4_rows, Cond.instanceMethod yX4_rows, Cond.selects RX4 yX4_rows yX4_rows, Cond.code yX4_rows cX4_rows 1 (some .int), Cond.methodLink RX2 105 yX2_stealRank, Cond.instanceMethod yX2_stealRank, Cond.selects RX2 yX2_stealRank yX2_stealRank, Cond.code yX2_stealRank cX2_stealRank 2 (some .int), Cond.methodLink RX2 54 yX2_number, Cond.methodLink RX2 73 yX4_get]
def wsX5_set_r4 : List Cond := [Cond.instanceMethod yX4_get, Cond.selects RX4 yX4_get yX4_get, Cond.code yX4_get cX4_get 4 (some .int), Cond.fieldLink RX4 7 "ZoneSampler$Table" "width" "I", Cond.methodLink RX2 76 yX4_removeRow, Cond.instanceMethod yX4_removeRow, Cond.selects RX4 yX4_removeRow yX4_removeRow, Cond.code yX4_removeRow cX4_removeRow 3 none, Cond.methodLink RX4 20 yX4_has, Cond.instanceMethod yX4_has, Cond.selects RX4 yX4_has yX4_has, Cond.code yX4_has cX4_has 2 (some .boolean), Cond.methodLink RX2 80 yX2_grow, Cond.instanceMethod yX2_grow, Cond.selects RX2 yX2_grow yX2_grow, Cond.code yX2_grow cX2_grow 3 none, Cond.methodLink RX2 27 yX2_putNumber]
def wsX5_set : List Cond := .code yX5_set cX5_set 4 (some .int) :: ((wsX5_set_r1 ++ (wsX5_set_r2 ++ (wsX5_set_r3 ++ wsX5_set_r4))) ++ wsX50 ++ wsX00 ++ wsX20 ++ wsX40)
def wsX5_append : List Cond := .code yX5_append cX5_append 2 (some .int) :: ([.fieldLink RX5 32 "ZoneSampler" "pad" "LZoneSampler$Pad;", .methodLink RX5 43 yX5_within, .static yX5_within, .initialized RX5, .code yX5_within cX5_within 3 (some .boolean), .methodLink RX5 114 yX1_length, .instanceMethod yX1_length, .selects RX1 yX1_length yX1_length, .initialized RX1, .code yX1_length cX1_length 1 (some .int), .fieldLink RX1 15 "ZoneSampler$Pad" "length" "I", .methodLink RX5 117 yX1_add, .instanceMethod yX1_add, .selects RX1 yX1_add yX1_add, .code yX1_add cX1_add 2 none, .fieldLink RX1 9 "ZoneSampler$Pad" "signs" "[C"] ++ wsX50 ++ wsX10)
def wsX5_clear : List Cond := .code yX5_clear cX5_clear 2 (some .int) :: ([.fieldLink RX5 32 "ZoneSampler" "pad" "LZoneSampler$Pad;", .methodLink RX5 114 yX1_length, .instanceMethod yX1_length, .selects RX1 yX1_length yX1_length, .initialized RX1, .code yX1_length cX1_length 1 (some .int), .fieldLink RX1 15 "ZoneSampler$Pad" "length" "I", .methodLink RX5 121 yX1_empty, .instanceMethod yX1_empty, .selects RX1 yX1_empty yX1_empty, .code yX1_empty cX1_empty 1 none] ++ wsX50 ++ wsX10)
def wsX5_fault_r1 : List Cond := [Cond.fieldLink RX5 32 "ZoneSampler" "pad" "LZoneSampler$Pad;", Cond.methodLink RX5 43 yX5_within, Cond.static yX5_within, Cond.initialized RX5, Cond.code yX5_within cX5_within 3 (some .boolean), Cond.methodLink RX5 124 yX1_faultAs, Cond.instanceMethod yX1_faultAs, Cond.selects RX1 yX1_faultAs yX1_faultAs, Cond.initialized RX1, Cond.code yX1_faultAs cX1_faultAs 5 (some .int), Cond.fieldLink RX1 19 "ZoneSampler$Pad" "at" "I", Cond.fieldLink RX1 15 "ZoneSampler$Pad" "length" "I", Cond.methodLink RX1 22 yX1_rewind, Cond.instanceMethod yX1_rewind, Cond.selects RX1 yX1_rewind yX1_rewind, Cond.code yX1_rewind cX1_rewind 1 none, Cond.methodLink RX1 25 yX1_items, Cond.instanceMethod yX1_items, Cond.selects RX1 yX1_items yX1_items, Cond.code yX1_items cX1_items 3 (some .int), Cond.fieldLink RX1 9 "ZoneSampler$Pad" "signs" "[C", Cond.methodLink RX1 29 yX1_readZone, Cond.instanceMethod yX1_readZone, Cond.selects RX1 yX1_readZone yX1_readZone]
def wsX5_fault_r2 : List Cond := [Cond.code yX1_readZone cX1_readZone 2 (some .boolean), Cond.fieldLink RX1 47 "ZoneSampler$Pad" "value" "I", Cond.fieldLink RX1 50 "ZoneSampler$Pad" "low" "I", Cond.fieldLink RX1 53 "ZoneSampler$Pad" "high" "I", Cond.fieldLink RX1 56 "ZoneSampler$Pad" "softest" "I", Cond.fieldLink RX1 59 "ZoneSampler$Pad" "hardest" "I", Cond.fieldLink RX1 62 "ZoneSampler$Pad" "lasting" "I", Cond.fieldLink RX1 68 "ZoneSampler$Pad" "group" "I", Cond.fieldLink RX1 71 "ZoneSampler$Pad" "robin" "I", Cond.methodLink RX1 43 yX1_readNumber, Cond.instanceMethod yX1_readNumber, Cond.selects RX1 yX1_readNumber yX1_readNumber, Cond.code yX1_readNumber cX1_readNumber 8 (some .boolean), Cond.methodLink RX1 40 yX1_sign, Cond.instanceMethod yX1_sign, Cond.selects RX1 yX1_sign yX1_sign, Cond.code yX1_sign cX1_sign 1 (some .int), Cond.methodLink RX1 89 yX1_canBegin, Cond.static yX1_canBegin, Cond.code yX1_canBegin cX1_canBegin 5 (some .boolean), Cond.methodLink RX1 36 yX1_readSign, Cond.instanceMethod yX1_readSign, Cond.selects RX1 yX1_readSign yX1_readSign, Cond.code yX1_readSign cX1_readSign 3 (some .boolean)]
def wsX5_fault_r3 : List Cond := [Cond.methodLink RX1 65 yX1_readMark, Cond.instanceMethod yX1_readMark, Cond.selects RX1 yX1_readMark yX1_readMark, Cond.code yX1_readMark cX1_readMark 3 (some .boolean), Cond.methodLink RX1 33 yX1_readDeed, Cond.instanceMethod yX1_readDeed, Cond.selects RX1 yX1_readDeed yX1_readDeed, Cond.code yX1_readDeed cX1_readDeed 1 (some .boolean), Cond.fieldLink RX1 74 "ZoneSampler$Pad" "deed" "I", Cond.methodLink RX1 77 yX1_readDeedKey, Cond.instanceMethod yX1_readDeedKey, Cond.selects RX1 yX1_readDeedKey yX1_readDeedKey, Cond.code yX1_readDeedKey cX1_readDeedKey 2 (some .boolean), Cond.fieldLink RX1 83 "ZoneSampler$Pad" "deedKey" "I", Cond.methodLink RX1 80 yX1_readAmount, Cond.instanceMethod yX1_readAmount, Cond.selects RX1 yX1_readAmount yX1_readAmount, Cond.code yX1_readAmount cX1_readAmount 3 (some .boolean), Cond.fieldLink RX1 86 "ZoneSampler$Pad" "amount" "I"]
def wsX5_fault : List Cond := .code yX5_fault cX5_fault 2 (some .int) :: ((wsX5_fault_r1 ++ (wsX5_fault_r2 ++ wsX5_fault_r3)) ++ wsX50 ++ wsX10)
def wsX5_load_r1 : List Cond := [Cond.fieldLink RX5 32 "ZoneSampler" "pad" "LZoneSampler$Pad;", Cond.fieldLink RX5 10 "ZoneSampler" "now" "LZoneSampler$State;", Cond.fieldLink RX5 25 "ZoneSampler" "history" "LZoneSampler$History;", Cond.methodLink RX5 124 yX1_faultAs, Cond.instanceMethod yX1_faultAs, Cond.selects RX1 yX1_faultAs yX1_faultAs, Cond.initialized RX1, Cond.code yX1_faultAs cX1_faultAs 5 (some .int), Cond.fieldLink RX1 19 "ZoneSampler$Pad" "at" "I", Cond.fieldLink RX1 15 "ZoneSampler$Pad" "length" "I", Cond.methodLink RX1 22 yX1_rewind, Cond.instanceMethod yX1_rewind, Cond.selects RX1 yX1_rewind yX1_rewind, Cond.code yX1_rewind cX1_rewind 1 none, Cond.methodLink RX1 25 yX1_items, Cond.instanceMethod yX1_items, Cond.selects RX1 yX1_items yX1_items, Cond.code yX1_items cX1_items 3 (some .int), Cond.fieldLink RX1 9 "ZoneSampler$Pad" "signs" "[C", Cond.methodLink RX1 29 yX1_readZone, Cond.instanceMethod yX1_readZone, Cond.selects RX1 yX1_readZone yX1_readZone, Cond.code yX1_readZone cX1_readZone 2 (some .boolean), Cond.fieldLink RX1 47 "ZoneSampler$Pad" "value" "I"]
def wsX5_load_r2 : List Cond := [Cond.fieldLink RX1 50 "ZoneSampler$Pad" "low" "I", Cond.fieldLink RX1 53 "ZoneSampler$Pad" "high" "I", Cond.fieldLink RX1 56 "ZoneSampler$Pad" "softest" "I", Cond.fieldLink RX1 59 "ZoneSampler$Pad" "hardest" "I", Cond.fieldLink RX1 62 "ZoneSampler$Pad" "lasting" "I", Cond.fieldLink RX1 68 "ZoneSampler$Pad" "group" "I", Cond.fieldLink RX1 71 "ZoneSampler$Pad" "robin" "I", Cond.methodLink RX1 43 yX1_readNumber, Cond.instanceMethod yX1_readNumber, Cond.selects RX1 yX1_readNumber yX1_readNumber, Cond.code yX1_readNumber cX1_readNumber 8 (some .boolean), Cond.methodLink RX1 40 yX1_sign, Cond.instanceMethod yX1_sign, Cond.selects RX1 yX1_sign yX1_sign, Cond.code yX1_sign cX1_sign 1 (some .int), Cond.methodLink RX1 89 yX1_canBegin, Cond.static yX1_canBegin, Cond.code yX1_canBegin cX1_canBegin 5 (some .boolean), Cond.methodLink RX1 36 yX1_readSign, Cond.instanceMethod yX1_readSign, Cond.selects RX1 yX1_readSign yX1_readSign, Cond.code yX1_readSign cX1_readSign 3 (some .boolean), Cond.methodLink RX1 65 yX1_readMark, Cond.instanceMethod yX1_readMark]
def wsX5_load_r3 : List Cond := [Cond.selects RX1 yX1_readMark yX1_readMark, Cond.code yX1_readMark cX1_readMark 3 (some .boolean), Cond.methodLink RX1 33 yX1_readDeed, Cond.instanceMethod yX1_readDeed, Cond.selects RX1 yX1_readDeed yX1_readDeed, Cond.code yX1_readDeed cX1_readDeed 1 (some .boolean), Cond.fieldLink RX1 74 "ZoneSampler$Pad" "deed" "I", Cond.methodLink RX1 77 yX1_readDeedKey, Cond.instanceMethod yX1_readDeedKey, Cond.selects RX1 yX1_readDeedKey yX1_readDeedKey, Cond.code yX1_readDeedKey cX1_readDeedKey 2 (some .boolean), Cond.fieldLink RX1 83 "ZoneSampler$Pad" "deedKey" "I", Cond.methodLink RX1 80 yX1_readAmount, Cond.instanceMethod yX1_readAmount, Cond.selects RX1 yX1_readAmount yX1_readAmount, Cond.code yX1_readAmount cX1_readAmount 3 (some .boolean), Cond.fieldLink RX1 86 "ZoneSampler$Pad" "amount" "I", Cond.methodLink RX5 127 yX1_items, Cond.methodLink RX5 51 yX4_rows, Cond.instanceMethod yX4_rows, Cond.selects RX4 yX4_rows yX4_rows, Cond.initialized RX4, Cond.code yX4_rows cX4_rows 1 (some .int), Cond.fieldLink RX4 17 "ZoneSampler$Table" "rows" "I"]
def wsX5_load_r4 : List Cond := [Cond.methodLink RX5 57 yX0_record, Cond.instanceMethod yX0_record, Cond.selects RX0 yX0_record yX0_record, Cond.initialized RX0, Cond.code yX0_record cX0_record 3 none, Cond.fieldLink RX0 27 "ZoneSampler$History" "kept" "I", Cond.fieldLink RX0 12 "ZoneSampler$History" "first" "LZoneSampler$State;", Cond.fieldLink RX0 18 "ZoneSampler$History" "second" "LZoneSampler$State;", Cond.fieldLink RX0 21 "ZoneSampler$History" "third" "LZoneSampler$State;", Cond.fieldLink RX0 24 "ZoneSampler$History" "fourth" "LZoneSampler$State;", Cond.methodLink RX0 31 yX0_stateAt, Cond.instanceMethod yX0_stateAt, Cond.selects RX0 yX0_stateAt yX0_stateAt, Cond.code yX0_stateAt cX0_stateAt 2 (some (.object "ZoneSampler$State")), Cond.methodLink RX0 35 yX2_copyFrom, Cond.instanceMethod yX2_copyFrom, Cond.selects RX2 yX2_copyFrom yX2_copyFrom, Cond.initialized RX2, Cond.code yX2_copyFrom cX2_copyFrom 2 none, Cond.fieldLink RX2 14 "ZoneSampler$State" "zones" "LZoneSampler$Table;", Cond.fieldLink RX2 20 "ZoneSampler$State" "voices" "LZoneSampler$Table;", Cond.fieldLink RX2 23 "ZoneSampler$State" "numbers" "[I", Cond.methodLink RX2 34 Lib.Math.min.name, Cond.static Lib.Math.min.name]
def wsX5_load_r5 : List Cond := [Cond.initialized "java/lang/Math", Cond.code Lib.Math.min.name Lib.Math.min.code 2 (some .int), Cond.methodLink RX2 40 arraycopyName, Cond.native arraycopyName, Cond.static arraycopyName, Cond.initialized "java/lang/System", Cond.fieldLink RX2 46 "ZoneSampler$State" "pedalDown" "Z", Cond.fieldLink RX2 50 "ZoneSampler$State" "notes" "I", Cond.methodLink RX2 30 yX4_copyFrom, Cond.instanceMethod yX4_copyFrom, Cond.selects RX4 yX4_copyFrom yX4_copyFrom, Cond.code yX4_copyFrom cX4_copyFrom 2 none, Cond.fieldLink RX4 13 "ZoneSampler$Table" "cells" "[I", Cond.methodLink RX4 28 Lib.Math.min.name, Cond.methodLink RX4 33 arraycopyName, Cond.methodLink RX5 130 yX1_rewind, Cond.methodLink RX5 133 yX1_readZone, Cond.methodLink RX5 61 yX2_addZone, Cond.instanceMethod yX2_addZone, Cond.selects RX2 yX2_addZone yX2_addZone, Cond.code yX2_addZone cX2_addZone 6 (some .int), Cond.methodLink RX2 58 yX4_addRow, Cond.instanceMethod yX4_addRow, Cond.selects RX4 yX4_addRow yX4_addRow]
def wsX5_load_r6 : List Cond := [Cond.code yX4_addRow cX4_addRow 1 (some .int), Cond.fieldLink RX4 7 "ZoneSampler$Table" "width" "I", Cond.methodLink RX2 62 yX4_put, Cond.instanceMethod yX4_put, Cond.selects RX4 yX4_put yX4_put, Cond.code yX4_put cX4_put 5 none, Cond.methodLink RX2 66 yX2_shapeZone, Cond.instanceMethod yX2_shapeZone, Cond.selects RX2 yX2_shapeZone yX2_shapeZone, Cond.code yX2_shapeZone cX2_shapeZone 5 none, Cond.methodLink RX5 69 yX2_shapeZone, Cond.methodLink RX5 159 yX1_readSign, Cond.methodLink RX5 121 yX1_empty, Cond.instanceMethod yX1_empty, Cond.selects RX1 yX1_empty yX1_empty, Cond.code yX1_empty cX1_empty 1 none]
def wsX5_load : List Cond := .code yX5_load cX5_load 4 (some .int) :: ((wsX5_load_r1 ++ (wsX5_load_r2 ++ (wsX5_load_r3 ++ (wsX5_load_r4 ++ (wsX5_load_r5 ++ wsX5_load_r6))))) ++ wsX50 ++ wsX20 ++ wsX10 ++ wsX40 ++ wsX00)
def wsX5_doDeed_r1 : List Cond := [Cond.fieldLink RX5 32 "ZoneSampler" "pad" "LZoneSampler$Pad;", Cond.fieldLink RX5 10 "ZoneSampler" "now" "LZoneSampler$State;", Cond.methodLink RX5 85 yX2_strike, Cond.instanceMethod yX2_strike, Cond.selects RX2 yX2_strike yX2_strike, Cond.initialized RX2, Cond.code yX2_strike cX2_strike 5 (some .int), Cond.fieldLink RX2 50 "ZoneSampler$State" "notes" "I", Cond.fieldLink RX2 14 "ZoneSampler$State" "zones" "LZoneSampler$Table;", Cond.methodLink RX2 90 yX2_moveHeld, Cond.instanceMethod yX2_moveHeld, Cond.selects RX2 yX2_moveHeld yX2_moveHeld, Cond.code yX2_moveHeld cX2_moveHeld 5 (some .int), Cond.fieldLink RX2 20 "ZoneSampler$State" "voices" "LZoneSampler$Table;", Cond.methodLink RX2 70 yX4_rows, Cond.instanceMethod yX4_rows, Cond.selects RX4 yX4_rows yX4_rows, Cond.initialized RX4, Cond.code yX4_rows cX4_rows 1 (some .int), Cond.fieldLink RX4 17 "ZoneSampler$Table" "rows" "I", Cond.methodLink RX2 73 yX4_get, Cond.instanceMethod yX4_get, Cond.selects RX4 yX4_get yX4_get, Cond.code yX4_get cX4_get 4 (some .int)]
def wsX5_doDeed_r2 : List Cond := [Cond.fieldLink RX4 7 "ZoneSampler$Table" "width" "I", Cond.fieldLink RX4 13 "ZoneSampler$Table" "cells" "[I", Cond.methodLink RX2 62 yX4_put, Cond.instanceMethod yX4_put, Cond.selects RX4 yX4_put yX4_put, Cond.code yX4_put cX4_put 5 none, Cond.methodLink RX2 87 yX2_sounds, Cond.instanceMethod yX2_sounds, Cond.selects RX2 yX2_sounds yX2_sounds, Cond.code yX2_sounds cX2_sounds 8 (some .boolean), Cond.methodLink RX2 83 yX2_matches, Cond.instanceMethod yX2_matches, Cond.selects RX2 yX2_matches yX2_matches, Cond.code yX2_matches cX2_matches 4 (some .boolean), Cond.methodLink RX2 54 yX2_number, Cond.instanceMethod yX2_number, Cond.selects RX2 yX2_number yX2_number, Cond.code yX2_number cX2_number 2 (some .int), Cond.fieldLink RX2 23 "ZoneSampler$State" "numbers" "[I", Cond.methodLink RX2 93 yX2_begin, Cond.instanceMethod yX2_begin, Cond.selects RX2 yX2_begin yX2_begin, Cond.code yX2_begin cX2_begin 5 none, Cond.methodLink RX2 99 yX2_choke]
def wsX5_doDeed_r3 : List Cond := [Cond.instanceMethod yX2_choke, Cond.selects RX2 yX2_choke yX2_choke, Cond.code yX2_choke cX2_choke 4 none, Cond.methodLink RX2 76 yX4_removeRow, Cond.instanceMethod yX4_removeRow, Cond.selects RX4 yX4_removeRow yX4_removeRow, Cond.code yX4_removeRow cX4_removeRow 3 none, Cond.methodLink RX4 20 yX4_has, Cond.instanceMethod yX4_has, Cond.selects RX4 yX4_has yX4_has, Cond.code yX4_has cX4_has 2 (some .boolean), Cond.methodLink RX2 80 yX2_grow, Cond.instanceMethod yX2_grow, Cond.selects RX2 yX2_grow yX2_grow, Cond.code yX2_grow cX2_grow 3 none, Cond.methodLink RX2 27 yX2_putNumber, Cond.instanceMethod yX2_putNumber, Cond.selects RX2 yX2_putNumber yX2_putNumber, Cond.code yX2_putNumber cX2_putNumber 3 none, Cond.methodLink RX2 102 yX2_stealDownTo, Cond.instanceMethod yX2_stealDownTo, Cond.selects RX2 yX2_stealDownTo yX2_stealDownTo, Cond.code yX2_stealDownTo cX2_stealDownTo 5 none, Cond.methodLink RX2 105 yX2_stealRank]
def wsX5_doDeed_r4 : List Cond := [Cond.instanceMethod yX2_stealRank, Cond.selects RX2 yX2_stealRank yX2_stealRank, Cond.code yX2_stealRank cX2_stealRank 2 (some .int), Cond.methodLink RX2 58 yX4_addRow, Cond.instanceMethod yX4_addRow, Cond.selects RX4 yX4_addRow yX4_addRow, Cond.code yX4_addRow cX4_addRow 1 (some .int), Cond.methodLink RX2 96 yX2_passTurns, Cond.instanceMethod yX2_passTurns, Cond.selects RX2 yX2_passTurns yX2_passTurns, Cond.code yX2_passTurns cX2_passTurns 6 none, Cond.methodLink RX5 88 yX2_release, Cond.instanceMethod yX2_release, Cond.selects RX2 yX2_release yX2_release, Cond.code yX2_release cX2_release 2 (some .int), Cond.fieldLink RX2 46 "ZoneSampler$State" "pedalDown" "Z", Cond.methodLink RX5 91 yX2_tread, Cond.instanceMethod yX2_tread, Cond.selects RX2 yX2_tread yX2_tread, Cond.code yX2_tread cX2_tread 3 (some .int), Cond.methodLink RX5 94 yX2_runTicks, Cond.instanceMethod yX2_runTicks, Cond.selects RX2 yX2_runTicks yX2_runTicks, Cond.code yX2_runTicks cX2_runTicks 5 (some .int)]
def wsX5_doDeed_r5 : List Cond := [Cond.methodLink RX2 108 yX2_wear, Cond.instanceMethod yX2_wear, Cond.selects RX2 yX2_wear yX2_wear, Cond.code yX2_wear cX2_wear 4 none, Cond.methodLink RX2 111 yX2_fadeOf, Cond.instanceMethod yX2_fadeOf, Cond.selects RX2 yX2_fadeOf yX2_fadeOf, Cond.code yX2_fadeOf cX2_fadeOf 2 (some .int)]
def wsX5_doDeed : List Cond := .code yX5_doDeed cX5_doDeed 1 none :: ((wsX5_doDeed_r1 ++ (wsX5_doDeed_r2 ++ (wsX5_doDeed_r3 ++ (wsX5_doDeed_r4 ++ wsX5_doDeed_r5)))) ++ wsX50 ++ wsX10 ++ wsX20 ++ wsX40)
def wsX5_play_r1 : List Cond := [Cond.fieldLink RX5 32 "ZoneSampler" "pad" "LZoneSampler$Pad;", Cond.fieldLink RX5 25 "ZoneSampler" "history" "LZoneSampler$History;", Cond.fieldLink RX5 10 "ZoneSampler" "now" "LZoneSampler$State;", Cond.methodLink RX5 124 yX1_faultAs, Cond.instanceMethod yX1_faultAs, Cond.selects RX1 yX1_faultAs yX1_faultAs, Cond.initialized RX1, Cond.code yX1_faultAs cX1_faultAs 5 (some .int), Cond.fieldLink RX1 19 "ZoneSampler$Pad" "at" "I", Cond.fieldLink RX1 15 "ZoneSampler$Pad" "length" "I", Cond.methodLink RX1 22 yX1_rewind, Cond.instanceMethod yX1_rewind, Cond.selects RX1 yX1_rewind yX1_rewind, Cond.code yX1_rewind cX1_rewind 1 none, Cond.methodLink RX1 25 yX1_items, Cond.instanceMethod yX1_items, Cond.selects RX1 yX1_items yX1_items, Cond.code yX1_items cX1_items 3 (some .int), Cond.fieldLink RX1 9 "ZoneSampler$Pad" "signs" "[C", Cond.methodLink RX1 29 yX1_readZone, Cond.instanceMethod yX1_readZone, Cond.selects RX1 yX1_readZone yX1_readZone, Cond.code yX1_readZone cX1_readZone 2 (some .boolean), Cond.fieldLink RX1 47 "ZoneSampler$Pad" "value" "I"]
def wsX5_play_r2 : List Cond := [Cond.fieldLink RX1 50 "ZoneSampler$Pad" "low" "I", Cond.fieldLink RX1 53 "ZoneSampler$Pad" "high" "I", Cond.fieldLink RX1 56 "ZoneSampler$Pad" "softest" "I", Cond.fieldLink RX1 59 "ZoneSampler$Pad" "hardest" "I", Cond.fieldLink RX1 62 "ZoneSampler$Pad" "lasting" "I", Cond.fieldLink RX1 68 "ZoneSampler$Pad" "group" "I", Cond.fieldLink RX1 71 "ZoneSampler$Pad" "robin" "I", Cond.methodLink RX1 43 yX1_readNumber, Cond.instanceMethod yX1_readNumber, Cond.selects RX1 yX1_readNumber yX1_readNumber, Cond.code yX1_readNumber cX1_readNumber 8 (some .boolean), Cond.methodLink RX1 40 yX1_sign, Cond.instanceMethod yX1_sign, Cond.selects RX1 yX1_sign yX1_sign, Cond.code yX1_sign cX1_sign 1 (some .int), Cond.methodLink RX1 89 yX1_canBegin, Cond.static yX1_canBegin, Cond.code yX1_canBegin cX1_canBegin 5 (some .boolean), Cond.methodLink RX1 36 yX1_readSign, Cond.instanceMethod yX1_readSign, Cond.selects RX1 yX1_readSign yX1_readSign, Cond.code yX1_readSign cX1_readSign 3 (some .boolean), Cond.methodLink RX1 65 yX1_readMark, Cond.instanceMethod yX1_readMark]
def wsX5_play_r3 : List Cond := [Cond.selects RX1 yX1_readMark yX1_readMark, Cond.code yX1_readMark cX1_readMark 3 (some .boolean), Cond.methodLink RX1 33 yX1_readDeed, Cond.instanceMethod yX1_readDeed, Cond.selects RX1 yX1_readDeed yX1_readDeed, Cond.code yX1_readDeed cX1_readDeed 1 (some .boolean), Cond.fieldLink RX1 74 "ZoneSampler$Pad" "deed" "I", Cond.methodLink RX1 77 yX1_readDeedKey, Cond.instanceMethod yX1_readDeedKey, Cond.selects RX1 yX1_readDeedKey yX1_readDeedKey, Cond.code yX1_readDeedKey cX1_readDeedKey 2 (some .boolean), Cond.fieldLink RX1 83 "ZoneSampler$Pad" "deedKey" "I", Cond.methodLink RX1 80 yX1_readAmount, Cond.instanceMethod yX1_readAmount, Cond.selects RX1 yX1_readAmount yX1_readAmount, Cond.code yX1_readAmount cX1_readAmount 3 (some .boolean), Cond.fieldLink RX1 86 "ZoneSampler$Pad" "amount" "I", Cond.methodLink RX5 57 yX0_record, Cond.instanceMethod yX0_record, Cond.selects RX0 yX0_record yX0_record, Cond.initialized RX0, Cond.code yX0_record cX0_record 3 none, Cond.fieldLink RX0 27 "ZoneSampler$History" "kept" "I", Cond.fieldLink RX0 12 "ZoneSampler$History" "first" "LZoneSampler$State;"]
def wsX5_play_r4 : List Cond := [Cond.fieldLink RX0 18 "ZoneSampler$History" "second" "LZoneSampler$State;", Cond.fieldLink RX0 21 "ZoneSampler$History" "third" "LZoneSampler$State;", Cond.fieldLink RX0 24 "ZoneSampler$History" "fourth" "LZoneSampler$State;", Cond.methodLink RX0 31 yX0_stateAt, Cond.instanceMethod yX0_stateAt, Cond.selects RX0 yX0_stateAt yX0_stateAt, Cond.code yX0_stateAt cX0_stateAt 2 (some (.object "ZoneSampler$State")), Cond.methodLink RX0 35 yX2_copyFrom, Cond.instanceMethod yX2_copyFrom, Cond.selects RX2 yX2_copyFrom yX2_copyFrom, Cond.initialized RX2, Cond.code yX2_copyFrom cX2_copyFrom 2 none, Cond.fieldLink RX2 14 "ZoneSampler$State" "zones" "LZoneSampler$Table;", Cond.fieldLink RX2 20 "ZoneSampler$State" "voices" "LZoneSampler$Table;", Cond.fieldLink RX2 23 "ZoneSampler$State" "numbers" "[I", Cond.methodLink RX2 34 Lib.Math.min.name, Cond.static Lib.Math.min.name, Cond.initialized "java/lang/Math", Cond.code Lib.Math.min.name Lib.Math.min.code 2 (some .int), Cond.methodLink RX2 40 arraycopyName, Cond.native arraycopyName, Cond.static arraycopyName, Cond.initialized "java/lang/System", Cond.fieldLink RX2 46 "ZoneSampler$State" "pedalDown" "Z"]
def wsX5_play_r5 : List Cond := [Cond.fieldLink RX2 50 "ZoneSampler$State" "notes" "I", Cond.methodLink RX2 30 yX4_copyFrom, Cond.instanceMethod yX4_copyFrom, Cond.selects RX4 yX4_copyFrom yX4_copyFrom, Cond.initialized RX4, Cond.code yX4_copyFrom cX4_copyFrom 2 none, Cond.fieldLink RX4 13 "ZoneSampler$Table" "cells" "[I", Cond.methodLink RX4 28 Lib.Math.min.name, Cond.methodLink RX4 33 arraycopyName, Cond.fieldLink RX4 17 "ZoneSampler$Table" "rows" "I", Cond.methodLink RX5 103 yX2_number, Cond.instanceMethod yX2_number, Cond.selects RX2 yX2_number yX2_number, Cond.code yX2_number cX2_number 2 (some .int), Cond.methodLink RX5 127 yX1_items, Cond.methodLink RX5 130 yX1_rewind, Cond.methodLink RX5 162 yX1_readDeed, Cond.methodLink RX5 165 yX5_doDeed, Cond.instanceMethod yX5_doDeed, Cond.selects RX5 yX5_doDeed yX5_doDeed, Cond.initialized RX5, Cond.code yX5_doDeed cX5_doDeed 1 none, Cond.methodLink RX5 85 yX2_strike, Cond.instanceMethod yX2_strike]
def wsX5_play_r6 : List Cond := [Cond.selects RX2 yX2_strike yX2_strike, Cond.code yX2_strike cX2_strike 5 (some .int), Cond.methodLink RX2 90 yX2_moveHeld, Cond.instanceMethod yX2_moveHeld, Cond.selects RX2 yX2_moveHeld yX2_moveHeld, Cond.code yX2_moveHeld cX2_moveHeld 5 (some .int), Cond.methodLink RX2 70 yX4_rows, Cond.instanceMethod yX4_rows, Cond.selects RX4 yX4_rows yX4_rows, Cond.code yX4_rows cX4_rows 1 (some .int), Cond.methodLink RX2 73 yX4_get, Cond.instanceMethod yX4_get, Cond.selects RX4 yX4_get yX4_get, Cond.code yX4_get cX4_get 4 (some .int), Cond.fieldLink RX4 7 "ZoneSampler$Table" "width" "I", Cond.methodLink RX2 62 yX4_put, Cond.instanceMethod yX4_put, Cond.selects RX4 yX4_put yX4_put, Cond.code yX4_put cX4_put 5 none, Cond.methodLink RX2 87 yX2_sounds, Cond.instanceMethod yX2_sounds, Cond.selects RX2 yX2_sounds yX2_sounds, Cond.code yX2_sounds cX2_sounds 8 (some .boolean), Cond.methodLink RX2 83 yX2_matches]
def wsX5_play_r7 : List Cond := [Cond.instanceMethod yX2_matches, Cond.selects RX2 yX2_matches yX2_matches, Cond.code yX2_matches cX2_matches 4 (some .boolean), Cond.methodLink RX2 54 yX2_number, Cond.methodLink RX2 93 yX2_begin, Cond.instanceMethod yX2_begin, Cond.selects RX2 yX2_begin yX2_begin, Cond.code yX2_begin cX2_begin 5 none, Cond.methodLink RX2 99 yX2_choke, Cond.instanceMethod yX2_choke, Cond.selects RX2 yX2_choke yX2_choke, Cond.code yX2_choke cX2_choke 4 none, Cond.methodLink RX2 76 yX4_removeRow, Cond.instanceMethod yX4_removeRow, Cond.selects RX4 yX4_removeRow yX4_removeRow, Cond.code yX4_removeRow cX4_removeRow 3 none, Cond.methodLink RX4 20 yX4_has, Cond.instanceMethod yX4_has, Cond.selects RX4 yX4_has yX4_has, Cond.code yX4_has cX4_has 2 (some .boolean), Cond.methodLink RX2 80 yX2_grow, Cond.instanceMethod yX2_grow, Cond.selects RX2 yX2_grow yX2_grow, Cond.code yX2_grow cX2_grow 3 none]
def wsX5_play_r8 : List Cond := [Cond.methodLink RX2 27 yX2_putNumber, Cond.instanceMethod yX2_putNumber, Cond.selects RX2 yX2_putNumber yX2_putNumber, Cond.code yX2_putNumber cX2_putNumber 3 none, Cond.methodLink RX2 102 yX2_stealDownTo, Cond.instanceMethod yX2_stealDownTo, Cond.selects RX2 yX2_stealDownTo yX2_stealDownTo, Cond.code yX2_stealDownTo cX2_stealDownTo 5 none, Cond.methodLink RX2 105 yX2_stealRank, Cond.instanceMethod yX2_stealRank, Cond.selects RX2 yX2_stealRank yX2_stealRank, Cond.code yX2_stealRank cX2_stealRank 2 (some .int), Cond.methodLink RX2 58 yX4_addRow, Cond.instanceMethod yX4_addRow, Cond.selects RX4 yX4_addRow yX4_addRow, Cond.code yX4_addRow cX4_addRow 1 (some .int), Cond.methodLink RX2 96 yX2_passTurns, Cond.instanceMethod yX2_passTurns, Cond.selects RX2 yX2_passTurns yX2_passTurns, Cond.code yX2_passTurns cX2_passTurns 6 none, Cond.methodLink RX5 88 yX2_release, Cond.instanceMethod yX2_release, Cond.selects RX2 yX2_release yX2_release, Cond.code yX2_release cX2_release 2 (some .int)]
def wsX5_play_r9 : List Cond := [Cond.methodLink RX5 91 yX2_tread, Cond.instanceMethod yX2_tread, Cond.selects RX2 yX2_tread yX2_tread, Cond.code yX2_tread cX2_tread 3 (some .int), Cond.methodLink RX5 94 yX2_runTicks, Cond.instanceMethod yX2_runTicks, Cond.selects RX2 yX2_runTicks yX2_runTicks, Cond.code yX2_runTicks cX2_runTicks 5 (some .int), Cond.methodLink RX2 108 yX2_wear, Cond.instanceMethod yX2_wear, Cond.selects RX2 yX2_wear yX2_wear, Cond.code yX2_wear cX2_wear 4 none, Cond.methodLink RX2 111 yX2_fadeOf, Cond.instanceMethod yX2_fadeOf, Cond.selects RX2 yX2_fadeOf yX2_fadeOf, Cond.code yX2_fadeOf cX2_fadeOf 2 (some .int), Cond.methodLink RX5 159 yX1_readSign, Cond.methodLink RX5 121 yX1_empty, Cond.instanceMethod yX1_empty, Cond.selects RX1 yX1_empty yX1_empty, Cond.code yX1_empty cX1_empty 1 none]
def wsX5_play : List Cond := .code yX5_play cX5_play 4 (some .int) :: ((wsX5_play_r1 ++ (wsX5_play_r2 ++ (wsX5_play_r3 ++ (wsX5_play_r4 ++ (wsX5_play_r5 ++ (wsX5_play_r6 ++ (wsX5_play_r7 ++ (wsX5_play_r8 ++ wsX5_play_r9)))))))) ++ wsX50 ++ wsX10 ++ wsX00 ++ wsX20 ++ wsX40)
def wsX5_zoneOf_r1 : List Cond := [Cond.fieldLink RX5 10 "ZoneSampler" "now" "LZoneSampler$State;", Cond.methodLink RX5 65 yX4_has, Cond.instanceMethod yX4_has, Cond.selects RX4 yX4_has yX4_has, Cond.initialized RX4, Cond.code yX4_has cX4_has 2 (some .boolean), Cond.fieldLink RX4 17 "ZoneSampler$Table" "rows" "I", Cond.methodLink RX5 43 yX5_within, Cond.static yX5_within, Cond.initialized RX5, Cond.code yX5_within cX5_within 3 (some .boolean), Cond.methodLink RX5 73 yX4_rowsWith, Cond.instanceMethod yX4_rowsWith, Cond.selects RX4 yX4_rowsWith yX4_rowsWith, Cond.code yX4_rowsWith cX4_rowsWith 5 (some .int), Cond.methodLink RX4 24 yX4_get, Cond.instanceMethod yX4_get, Cond.selects RX4 yX4_get yX4_get, Cond.code yX4_get cX4_get 4 (some .int), Cond.fieldLink RX4 7 "ZoneSampler$Table" "width" "I", Cond.fieldLink RX4 13 "ZoneSampler$Table" "cells" "[I", Cond.methodLink RX5 171 yX2_canSound, Cond.instanceMethod yX2_canSound, Cond.selects RX2 yX2_canSound yX2_canSound]
def wsX5_zoneOf_r2 : List Cond := [Cond.initialized RX2, Cond.code yX2_canSound cX2_canSound 4 (some .boolean), Cond.fieldLink RX2 14 "ZoneSampler$State" "zones" "LZoneSampler$Table;", Cond.methodLink RX2 73 yX4_get, Cond.methodLink RX2 87 yX2_sounds, Cond.instanceMethod yX2_sounds, Cond.selects RX2 yX2_sounds yX2_sounds, Cond.code yX2_sounds cX2_sounds 8 (some .boolean), Cond.methodLink RX2 83 yX2_matches, Cond.instanceMethod yX2_matches, Cond.selects RX2 yX2_matches yX2_matches, Cond.code yX2_matches cX2_matches 4 (some .boolean), Cond.methodLink RX2 70 yX4_rows, Cond.instanceMethod yX4_rows, Cond.selects RX4 yX4_rows yX4_rows, Cond.code yX4_rows cX4_rows 1 (some .int), Cond.methodLink RX2 54 yX2_number, Cond.instanceMethod yX2_number, Cond.selects RX2 yX2_number yX2_number, Cond.code yX2_number cX2_number 2 (some .int), Cond.fieldLink RX2 23 "ZoneSampler$State" "numbers" "[I", Cond.methodLink RX5 174 yX4_get]
def wsX5_zoneOf : List Cond := .code yX5_zoneOf cX5_zoneOf 3 (some .int) :: ((wsX5_zoneOf_r1 ++ wsX5_zoneOf_r2) ++ wsX50 ++ wsX20 ++ wsX40)
def wsX5_voice_r1 : List Cond := [Cond.fieldLink RX5 10 "ZoneSampler" "now" "LZoneSampler$State;", Cond.methodLink RX5 65 yX4_has, Cond.instanceMethod yX4_has, Cond.selects RX4 yX4_has yX4_has, Cond.initialized RX4, Cond.code yX4_has cX4_has 2 (some .boolean), Cond.fieldLink RX4 17 "ZoneSampler$Table" "rows" "I", Cond.methodLink RX5 43 yX5_within, Cond.static yX5_within, Cond.initialized RX5, Cond.code yX5_within cX5_within 3 (some .boolean), Cond.methodLink RX5 177 yX2_stealPlace, Cond.instanceMethod yX2_stealPlace, Cond.selects RX2 yX2_stealPlace yX2_stealPlace, Cond.initialized RX2, Cond.code yX2_stealPlace cX2_stealPlace 6 (some .int), Cond.fieldLink RX2 20 "ZoneSampler$State" "voices" "LZoneSampler$Table;", Cond.methodLink RX2 105 yX2_stealRank, Cond.instanceMethod yX2_stealRank, Cond.selects RX2 yX2_stealRank yX2_stealRank, Cond.code yX2_stealRank cX2_stealRank 2 (some .int), Cond.methodLink RX2 54 yX2_number, Cond.instanceMethod yX2_number, Cond.selects RX2 yX2_number yX2_number]
def wsX5_voice_r2 : List Cond := [Cond.code yX2_number cX2_number 2 (some .int), Cond.fieldLink RX2 23 "ZoneSampler$State" "numbers" "[I", Cond.methodLink RX2 73 yX4_get, Cond.instanceMethod yX4_get, Cond.selects RX4 yX4_get yX4_get, Cond.code yX4_get cX4_get 4 (some .int), Cond.fieldLink RX4 7 "ZoneSampler$Table" "width" "I", Cond.fieldLink RX4 13 "ZoneSampler$Table" "cells" "[I", Cond.methodLink RX2 70 yX4_rows, Cond.instanceMethod yX4_rows, Cond.selects RX4 yX4_rows yX4_rows, Cond.code yX4_rows cX4_rows 1 (some .int), Cond.methodLink RX5 174 yX4_get]
def wsX5_voice : List Cond := .code yX5_voice cX5_voice 3 (some .int) :: ((wsX5_voice_r1 ++ wsX5_voice_r2) ++ wsX50 ++ wsX20 ++ wsX40)
def wsX5_answers_r1 : List Cond := [Cond.fieldLink RX5 10 "ZoneSampler" "now" "LZoneSampler$State;", Cond.methodLink RX5 81 yX5_isNote, Cond.static yX5_isNote, Cond.initialized RX5, Cond.code yX5_isNote cX5_isNote 2 (some .boolean), Cond.methodLink RX5 43 yX5_within, Cond.static yX5_within, Cond.code yX5_within cX5_within 3 (some .boolean), Cond.methodLink RX5 180 yX2_matching, Cond.instanceMethod yX2_matching, Cond.selects RX2 yX2_matching yX2_matching, Cond.initialized RX2, Cond.code yX2_matching cX2_matching 5 (some .int), Cond.fieldLink RX2 14 "ZoneSampler$State" "zones" "LZoneSampler$Table;", Cond.methodLink RX2 70 yX4_rows, Cond.instanceMethod yX4_rows, Cond.selects RX4 yX4_rows yX4_rows, Cond.initialized RX4, Cond.code yX4_rows cX4_rows 1 (some .int), Cond.fieldLink RX4 17 "ZoneSampler$Table" "rows" "I", Cond.methodLink RX2 83 yX2_matches, Cond.instanceMethod yX2_matches, Cond.selects RX2 yX2_matches yX2_matches, Cond.code yX2_matches cX2_matches 4 (some .boolean)]
def wsX5_answers_r2 : List Cond := [Cond.methodLink RX2 73 yX4_get, Cond.instanceMethod yX4_get, Cond.selects RX4 yX4_get yX4_get, Cond.code yX4_get cX4_get 4 (some .int), Cond.fieldLink RX4 7 "ZoneSampler$Table" "width" "I", Cond.fieldLink RX4 13 "ZoneSampler$Table" "cells" "[I"]
def wsX5_answers : List Cond := .code yX5_answers cX5_answers 3 (some .int) :: ((wsX5_answers_r1 ++ wsX5_answers_r2) ++ wsX50 ++ wsX20 ++ wsX40)
def wsX5_map_r1 : List Cond := [Cond.fieldLink RX5 39 "ZoneSampler" "survey" "LZoneSampler$Survey;", Cond.fieldLink RX5 10 "ZoneSampler" "now" "LZoneSampler$State;", Cond.methodLink RX5 43 yX5_within, Cond.static yX5_within, Cond.initialized RX5, Cond.code yX5_within cX5_within 3 (some .boolean), Cond.methodLink RX5 183 yX3_goByPlaces, Cond.instanceMethod yX3_goByPlaces, Cond.selects RX3 yX3_goByPlaces yX3_goByPlaces, Cond.initialized RX3, Cond.code yX3_goByPlaces cX3_goByPlaces 4 none, Cond.methodLink RX3 28 yX3_start, Cond.instanceMethod yX3_start, Cond.selects RX3 yX3_start yX3_start, Cond.code yX3_start cX3_start 2 none, Cond.fieldLink RX3 9 "ZoneSampler$Survey" "depths" "[I", Cond.fieldLink RX3 15 "ZoneSampler$Survey" "holes" "I", Cond.fieldLink RX3 19 "ZoneSampler$Survey" "overlaps" "I", Cond.fieldLink RX3 22 "ZoneSampler$Survey" "deepest" "I", Cond.fieldLink RX3 25 "ZoneSampler$Survey" "firstHole" "I", Cond.methodLink RX3 31 yX2_matching, Cond.instanceMethod yX2_matching, Cond.selects RX2 yX2_matching yX2_matching, Cond.initialized RX2]
def wsX5_map_r2 : List Cond := [Cond.code yX2_matching cX2_matching 5 (some .int), Cond.fieldLink RX2 14 "ZoneSampler$State" "zones" "LZoneSampler$Table;", Cond.methodLink RX2 70 yX4_rows, Cond.instanceMethod yX4_rows, Cond.selects RX4 yX4_rows yX4_rows, Cond.initialized RX4, Cond.code yX4_rows cX4_rows 1 (some .int), Cond.fieldLink RX4 17 "ZoneSampler$Table" "rows" "I", Cond.methodLink RX2 83 yX2_matches, Cond.instanceMethod yX2_matches, Cond.selects RX2 yX2_matches yX2_matches, Cond.code yX2_matches cX2_matches 4 (some .boolean), Cond.methodLink RX2 73 yX4_get, Cond.instanceMethod yX4_get, Cond.selects RX4 yX4_get yX4_get, Cond.code yX4_get cX4_get 4 (some .int), Cond.fieldLink RX4 7 "ZoneSampler$Table" "width" "I", Cond.fieldLink RX4 13 "ZoneSampler$Table" "cells" "[I", Cond.methodLink RX3 37 yX3_see, Cond.instanceMethod yX3_see, Cond.selects RX3 yX3_see yX3_see, Cond.code yX3_see cX3_see 3 none, Cond.methodLink RX3 58 Lib.Math.max.name, Cond.static Lib.Math.max.name]
def wsX5_map_r3 : List Cond := [Cond.initialized "java/lang/Math", Cond.code Lib.Math.max.name Lib.Math.max.code 2 (some .int), Cond.methodLink RX5 186 yX3_goByEdges, Cond.instanceMethod yX3_goByEdges, Cond.selects RX3 yX3_goByEdges yX3_goByEdges, Cond.code yX3_goByEdges cX3_goByEdges 4 none, Cond.methodLink RX3 45 yX4_rows, Cond.methodLink RX3 51 yX4_get, Cond.methodLink RX3 54 yX3_deepen, Cond.instanceMethod yX3_deepen, Cond.selects RX3 yX3_deepen yX3_deepen, Cond.code yX3_deepen cX3_deepen 5 none, Cond.methodLink RX5 189 yX3_finding, Cond.instanceMethod yX3_finding, Cond.selects RX3 yX3_finding yX3_finding, Cond.code yX3_finding cX3_finding 2 (some .int)]
def wsX5_map : List Cond := .code yX5_map cX5_map 3 (some .int) :: ((wsX5_map_r1 ++ (wsX5_map_r2 ++ wsX5_map_r3)) ++ wsX50 ++ wsX30 ++ wsX20 ++ wsX40)
def wsX5_count_r1 : List Cond := [Cond.fieldLink RX5 10 "ZoneSampler" "now" "LZoneSampler$State;", Cond.fieldLink RX5 32 "ZoneSampler" "pad" "LZoneSampler$Pad;", Cond.fieldLink RX5 25 "ZoneSampler" "history" "LZoneSampler$History;", Cond.methodLink RX5 43 yX5_within, Cond.static yX5_within, Cond.initialized RX5, Cond.code yX5_within cX5_within 3 (some .boolean), Cond.methodLink RX5 103 yX2_number, Cond.instanceMethod yX2_number, Cond.selects RX2 yX2_number yX2_number, Cond.initialized RX2, Cond.code yX2_number cX2_number 2 (some .int), Cond.fieldLink RX2 23 "ZoneSampler$State" "numbers" "[I", Cond.methodLink RX5 51 yX4_rows, Cond.instanceMethod yX4_rows, Cond.selects RX4 yX4_rows yX4_rows, Cond.initialized RX4, Cond.code yX4_rows cX4_rows 1 (some .int), Cond.fieldLink RX4 17 "ZoneSampler$Table" "rows" "I", Cond.methodLink RX5 73 yX4_rowsWith, Cond.instanceMethod yX4_rowsWith, Cond.selects RX4 yX4_rowsWith yX4_rowsWith, Cond.code yX4_rowsWith cX4_rowsWith 5 (some .int), Cond.methodLink RX4 24 yX4_get]
def wsX5_count_r2 : List Cond := [Cond.instanceMethod yX4_get, Cond.selects RX4 yX4_get yX4_get, Cond.code yX4_get cX4_get 4 (some .int), Cond.fieldLink RX4 7 "ZoneSampler$Table" "width" "I", Cond.fieldLink RX4 13 "ZoneSampler$Table" "cells" "[I", Cond.methodLink RX5 192 yX4_sumOf, Cond.instanceMethod yX4_sumOf, Cond.selects RX4 yX4_sumOf yX4_sumOf, Cond.code yX4_sumOf cX4_sumOf 4 (some .int), Cond.methodLink RX5 114 yX1_length, Cond.instanceMethod yX1_length, Cond.selects RX1 yX1_length yX1_length, Cond.initialized RX1, Cond.code yX1_length cX1_length 1 (some .int), Cond.fieldLink RX1 15 "ZoneSampler$Pad" "length" "I", Cond.methodLink RX5 199 yX0_size, Cond.instanceMethod yX0_size, Cond.selects RX0 yX0_size yX0_size, Cond.initialized RX0, Cond.code yX0_size cX0_size 1 (some .int), Cond.fieldLink RX0 27 "ZoneSampler$History" "kept" "I"]
def wsX5_count : List Cond := .code yX5_count cX5_count 2 (some .int) :: ((wsX5_count_r1 ++ wsX5_count_r2) ++ wsX50 ++ wsX20 ++ wsX40 ++ wsX10 ++ wsX00)
def wsX5_loudness : List Cond := .code yX5_loudness cX5_loudness 2 (some .double) :: ([.fieldLink RX5 10 "ZoneSampler" "now" "LZoneSampler$State;", .methodLink RX5 51 yX4_rows, .instanceMethod yX4_rows, .selects RX4 yX4_rows yX4_rows, .initialized RX4, .code yX4_rows cX4_rows 1 (some .int), .fieldLink RX4 17 "ZoneSampler$Table" "rows" "I", .methodLink RX5 192 yX4_sumOf, .instanceMethod yX4_sumOf, .selects RX4 yX4_sumOf yX4_sumOf, .code yX4_sumOf cX4_sumOf 4 (some .int), .methodLink RX4 24 yX4_get, .instanceMethod yX4_get, .selects RX4 yX4_get yX4_get, .code yX4_get cX4_get 4 (some .int), .fieldLink RX4 7 "ZoneSampler$Table" "width" "I", .fieldLink RX4 13 "ZoneSampler$Table" "cells" "[I"] ++ wsX50 ++ wsX20 ++ wsX40)
def wsX5_ifHit_r1 : List Cond := [Cond.fieldLink RX5 10 "ZoneSampler" "now" "LZoneSampler$State;", Cond.fieldLink RX5 16 "ZoneSampler" "trial" "LZoneSampler$State;", Cond.methodLink RX5 81 yX5_isNote, Cond.static yX5_isNote, Cond.initialized RX5, Cond.code yX5_isNote cX5_isNote 2 (some .boolean), Cond.methodLink RX5 43 yX5_within, Cond.static yX5_within, Cond.code yX5_within cX5_within 3 (some .boolean), Cond.methodLink RX5 202 yX2_firstSounding, Cond.instanceMethod yX2_firstSounding, Cond.selects RX2 yX2_firstSounding yX2_firstSounding, Cond.initialized RX2, Cond.code yX2_firstSounding cX2_firstSounding 4 (some .int), Cond.fieldLink RX2 14 "ZoneSampler$State" "zones" "LZoneSampler$Table;", Cond.methodLink RX2 70 yX4_rows, Cond.instanceMethod yX4_rows, Cond.selects RX4 yX4_rows yX4_rows, Cond.initialized RX4, Cond.code yX4_rows cX4_rows 1 (some .int), Cond.fieldLink RX4 17 "ZoneSampler$Table" "rows" "I", Cond.methodLink RX2 87 yX2_sounds, Cond.instanceMethod yX2_sounds, Cond.selects RX2 yX2_sounds yX2_sounds]
def wsX5_ifHit_r2 : List Cond := [Cond.code yX2_sounds cX2_sounds 8 (some .boolean), Cond.methodLink RX2 83 yX2_matches, Cond.instanceMethod yX2_matches, Cond.selects RX2 yX2_matches yX2_matches, Cond.code yX2_matches cX2_matches 4 (some .boolean), Cond.methodLink RX2 73 yX4_get, Cond.instanceMethod yX4_get, Cond.selects RX4 yX4_get yX4_get, Cond.code yX4_get cX4_get 4 (some .int), Cond.fieldLink RX4 7 "ZoneSampler$Table" "width" "I", Cond.fieldLink RX4 13 "ZoneSampler$Table" "cells" "[I", Cond.methodLink RX2 54 yX2_number, Cond.instanceMethod yX2_number, Cond.selects RX2 yX2_number yX2_number, Cond.code yX2_number cX2_number 2 (some .int), Cond.fieldLink RX2 23 "ZoneSampler$State" "numbers" "[I", Cond.methodLink RX5 205 yX2_copyFrom, Cond.instanceMethod yX2_copyFrom, Cond.selects RX2 yX2_copyFrom yX2_copyFrom, Cond.code yX2_copyFrom cX2_copyFrom 2 none, Cond.fieldLink RX2 20 "ZoneSampler$State" "voices" "LZoneSampler$Table;", Cond.methodLink RX2 34 Lib.Math.min.name, Cond.static Lib.Math.min.name, Cond.initialized "java/lang/Math"]
def wsX5_ifHit_r3 : List Cond := [Cond.code Lib.Math.min.name Lib.Math.min.code 2 (some .int), Cond.methodLink RX2 40 arraycopyName, Cond.native arraycopyName, Cond.static arraycopyName, Cond.initialized "java/lang/System", Cond.fieldLink RX2 46 "ZoneSampler$State" "pedalDown" "Z", Cond.fieldLink RX2 50 "ZoneSampler$State" "notes" "I", Cond.methodLink RX2 30 yX4_copyFrom, Cond.instanceMethod yX4_copyFrom, Cond.selects RX4 yX4_copyFrom yX4_copyFrom, Cond.code yX4_copyFrom cX4_copyFrom 2 none, Cond.methodLink RX4 28 Lib.Math.min.name, Cond.methodLink RX4 33 arraycopyName, Cond.methodLink RX5 85 yX2_strike, Cond.instanceMethod yX2_strike, Cond.selects RX2 yX2_strike yX2_strike, Cond.code yX2_strike cX2_strike 5 (some .int), Cond.methodLink RX2 90 yX2_moveHeld, Cond.instanceMethod yX2_moveHeld, Cond.selects RX2 yX2_moveHeld yX2_moveHeld, Cond.code yX2_moveHeld cX2_moveHeld 5 (some .int), Cond.methodLink RX2 62 yX4_put, Cond.instanceMethod yX4_put, Cond.selects RX4 yX4_put yX4_put]
def wsX5_ifHit_r4 : List Cond := [Cond.code yX4_put cX4_put 5 none, Cond.methodLink RX2 93 yX2_begin, Cond.instanceMethod yX2_begin, Cond.selects RX2 yX2_begin yX2_begin, Cond.code yX2_begin cX2_begin 5 none, Cond.methodLink RX2 99 yX2_choke, Cond.instanceMethod yX2_choke, Cond.selects RX2 yX2_choke yX2_choke, Cond.code yX2_choke cX2_choke 4 none, Cond.methodLink RX2 76 yX4_removeRow, Cond.instanceMethod yX4_removeRow, Cond.selects RX4 yX4_removeRow yX4_removeRow, Cond.code yX4_removeRow cX4_removeRow 3 none, Cond.methodLink RX4 20 yX4_has, Cond.instanceMethod yX4_has, Cond.selects RX4 yX4_has yX4_has, Cond.code yX4_has cX4_has 2 (some .boolean), Cond.methodLink RX2 80 yX2_grow, Cond.instanceMethod yX2_grow, Cond.selects RX2 yX2_grow yX2_grow, Cond.code yX2_grow cX2_grow 3 none, Cond.methodLink RX2 27 yX2_putNumber, Cond.instanceMethod yX2_putNumber, Cond.selects RX2 yX2_putNumber yX2_putNumber]
def wsX5_ifHit_r5 : List Cond := [Cond.code yX2_putNumber cX2_putNumber 3 none, Cond.methodLink RX2 102 yX2_stealDownTo, Cond.instanceMethod yX2_stealDownTo, Cond.selects RX2 yX2_stealDownTo yX2_stealDownTo, Cond.code yX2_stealDownTo cX2_stealDownTo 5 none, Cond.methodLink RX2 105 yX2_stealRank, Cond.instanceMethod yX2_stealRank, Cond.selects RX2 yX2_stealRank yX2_stealRank, Cond.code yX2_stealRank cX2_stealRank 2 (some .int), Cond.methodLink RX2 58 yX4_addRow, Cond.instanceMethod yX4_addRow, Cond.selects RX4 yX4_addRow yX4_addRow, Cond.code yX4_addRow cX4_addRow 1 (some .int), Cond.methodLink RX2 96 yX2_passTurns, Cond.instanceMethod yX2_passTurns, Cond.selects RX2 yX2_passTurns yX2_passTurns, Cond.code yX2_passTurns cX2_passTurns 6 none, Cond.methodLink RX5 103 yX2_number, Cond.methodLink RX5 51 yX4_rows]
def wsX5_ifHit : List Cond := .code yX5_ifHit cX5_ifHit 5 (some .int) :: ((wsX5_ifHit_r1 ++ (wsX5_ifHit_r2 ++ (wsX5_ifHit_r3 ++ (wsX5_ifHit_r4 ++ wsX5_ifHit_r5)))) ++ wsX50 ++ wsX20 ++ wsX40)
def wsX5_silentIn_r1 : List Cond := [Cond.fieldLink RX5 10 "ZoneSampler" "now" "LZoneSampler$State;", Cond.methodLink RX5 211 Lib.Math.max.name, Cond.static Lib.Math.max.name, Cond.initialized "java/lang/Math", Cond.code Lib.Math.max.name Lib.Math.max.code 2 (some .int), Cond.methodLink RX5 51 yX4_rows, Cond.instanceMethod yX4_rows, Cond.selects RX4 yX4_rows yX4_rows, Cond.initialized RX4, Cond.code yX4_rows cX4_rows 1 (some .int), Cond.fieldLink RX4 17 "ZoneSampler$Table" "rows" "I", Cond.methodLink RX5 208 yX2_ticksLeft, Cond.instanceMethod yX2_ticksLeft, Cond.selects RX2 yX2_ticksLeft yX2_ticksLeft, Cond.initialized RX2, Cond.code yX2_ticksLeft cX2_ticksLeft 5 (some .int), Cond.methodLink RX2 114 Lib.Math.max.name, Cond.fieldLink RX2 20 "ZoneSampler$State" "voices" "LZoneSampler$Table;", Cond.fieldLink RX2 14 "ZoneSampler$State" "zones" "LZoneSampler$Table;", Cond.methodLink RX2 34 Lib.Math.min.name, Cond.static Lib.Math.min.name, Cond.code Lib.Math.min.name Lib.Math.min.code 2 (some .int), Cond.methodLink RX2 111 yX2_fadeOf, Cond.instanceMethod yX2_fadeOf]
def wsX5_silentIn_r2 : List Cond := [Cond.selects RX2 yX2_fadeOf yX2_fadeOf, Cond.code yX2_fadeOf cX2_fadeOf 2 (some .int), Cond.methodLink RX2 73 yX4_get, Cond.instanceMethod yX4_get, Cond.selects RX4 yX4_get yX4_get, Cond.code yX4_get cX4_get 4 (some .int), Cond.fieldLink RX4 7 "ZoneSampler$Table" "width" "I", Cond.fieldLink RX4 13 "ZoneSampler$Table" "cells" "[I", Cond.methodLink RX2 54 yX2_number, Cond.instanceMethod yX2_number, Cond.selects RX2 yX2_number yX2_number, Cond.code yX2_number cX2_number 2 (some .int), Cond.fieldLink RX2 23 "ZoneSampler$State" "numbers" "[I"]
def wsX5_silentIn : List Cond := .code yX5_silentIn cX5_silentIn 3 (some .int) :: ((wsX5_silentIn_r1 ++ wsX5_silentIn_r2) ++ wsX50 ++ wsX20 ++ wsX40)
def wsX5_chord_r1 : List Cond := [Cond.fieldLink RX5 10 "ZoneSampler" "now" "LZoneSampler$State;", Cond.methodLink RX5 43 yX5_within, Cond.static yX5_within, Cond.initialized RX5, Cond.code yX5_within cX5_within 3 (some .boolean), Cond.methodLink RX5 216 yX2_sounding, Cond.instanceMethod yX2_sounding, Cond.selects RX2 yX2_sounding yX2_sounding, Cond.initialized RX2, Cond.code yX2_sounding cX2_sounding 5 (some .int), Cond.fieldLink RX2 14 "ZoneSampler$State" "zones" "LZoneSampler$Table;", Cond.methodLink RX2 70 yX4_rows, Cond.instanceMethod yX4_rows, Cond.selects RX4 yX4_rows yX4_rows, Cond.initialized RX4, Cond.code yX4_rows cX4_rows 1 (some .int), Cond.fieldLink RX4 17 "ZoneSampler$Table" "rows" "I", Cond.methodLink RX2 87 yX2_sounds, Cond.instanceMethod yX2_sounds, Cond.selects RX2 yX2_sounds yX2_sounds, Cond.code yX2_sounds cX2_sounds 8 (some .boolean), Cond.methodLink RX2 83 yX2_matches, Cond.instanceMethod yX2_matches, Cond.selects RX2 yX2_matches yX2_matches]
def wsX5_chord_r2 : List Cond := [Cond.code yX2_matches cX2_matches 4 (some .boolean), Cond.methodLink RX2 73 yX4_get, Cond.instanceMethod yX4_get, Cond.selects RX4 yX4_get yX4_get, Cond.code yX4_get cX4_get 4 (some .int), Cond.fieldLink RX4 7 "ZoneSampler$Table" "width" "I", Cond.fieldLink RX4 13 "ZoneSampler$Table" "cells" "[I", Cond.methodLink RX2 54 yX2_number, Cond.instanceMethod yX2_number, Cond.selects RX2 yX2_number yX2_number, Cond.code yX2_number cX2_number 2 (some .int), Cond.fieldLink RX2 23 "ZoneSampler$State" "numbers" "[I"]
def wsX5_chord : List Cond := .code yX5_chord cX5_chord 6 (some .int) :: ((wsX5_chord_r1 ++ wsX5_chord_r2) ++ wsX50 ++ wsX20 ++ wsX40)
def wsX5_undo_r1 : List Cond := [Cond.fieldLink RX5 25 "ZoneSampler" "history" "LZoneSampler$History;", Cond.fieldLink RX5 10 "ZoneSampler" "now" "LZoneSampler$State;", Cond.methodLink RX5 199 yX0_size, Cond.instanceMethod yX0_size, Cond.selects RX0 yX0_size yX0_size, Cond.initialized RX0, Cond.code yX0_size cX0_size 1 (some .int), Cond.fieldLink RX0 27 "ZoneSampler$History" "kept" "I", Cond.methodLink RX5 219 yX0_goBack, Cond.instanceMethod yX0_goBack, Cond.selects RX0 yX0_goBack yX0_goBack, Cond.code yX0_goBack cX0_goBack 2 none, Cond.methodLink RX0 31 yX0_stateAt, Cond.instanceMethod yX0_stateAt, Cond.selects RX0 yX0_stateAt yX0_stateAt, Cond.code yX0_stateAt cX0_stateAt 2 (some (.object "ZoneSampler$State")), Cond.fieldLink RX0 12 "ZoneSampler$History" "first" "LZoneSampler$State;", Cond.fieldLink RX0 18 "ZoneSampler$History" "second" "LZoneSampler$State;", Cond.fieldLink RX0 21 "ZoneSampler$History" "third" "LZoneSampler$State;", Cond.fieldLink RX0 24 "ZoneSampler$History" "fourth" "LZoneSampler$State;", Cond.methodLink RX0 35 yX2_copyFrom, Cond.instanceMethod yX2_copyFrom, Cond.selects RX2 yX2_copyFrom yX2_copyFrom, Cond.initialized RX2]
def wsX5_undo_r2 : List Cond := [Cond.code yX2_copyFrom cX2_copyFrom 2 none, Cond.fieldLink RX2 14 "ZoneSampler$State" "zones" "LZoneSampler$Table;", Cond.fieldLink RX2 20 "ZoneSampler$State" "voices" "LZoneSampler$Table;", Cond.fieldLink RX2 23 "ZoneSampler$State" "numbers" "[I", Cond.methodLink RX2 34 Lib.Math.min.name, Cond.static Lib.Math.min.name, Cond.initialized "java/lang/Math", Cond.code Lib.Math.min.name Lib.Math.min.code 2 (some .int), Cond.methodLink RX2 40 arraycopyName, Cond.native arraycopyName, Cond.static arraycopyName, Cond.initialized "java/lang/System", Cond.fieldLink RX2 46 "ZoneSampler$State" "pedalDown" "Z", Cond.fieldLink RX2 50 "ZoneSampler$State" "notes" "I", Cond.methodLink RX2 30 yX4_copyFrom, Cond.instanceMethod yX4_copyFrom, Cond.selects RX4 yX4_copyFrom yX4_copyFrom, Cond.initialized RX4, Cond.code yX4_copyFrom cX4_copyFrom 2 none, Cond.fieldLink RX4 13 "ZoneSampler$Table" "cells" "[I", Cond.methodLink RX4 28 Lib.Math.min.name, Cond.methodLink RX4 33 arraycopyName, Cond.fieldLink RX4 17 "ZoneSampler$Table" "rows" "I"]
def wsX5_undo : List Cond := .code yX5_undo cX5_undo 1 (some .int) :: ((wsX5_undo_r1 ++ wsX5_undo_r2) ++ wsX50 ++ wsX00 ++ wsX20 ++ wsX40)
def wsX5_save_r1 : List Cond := [Cond.fieldLink RX5 19 "ZoneSampler" "snapshot" "LZoneSampler$State;", Cond.fieldLink RX5 10 "ZoneSampler" "now" "LZoneSampler$State;", Cond.fieldLink RX5 222 "ZoneSampler" "hasSnapshot" "Z", Cond.methodLink RX5 205 yX2_copyFrom, Cond.instanceMethod yX2_copyFrom, Cond.selects RX2 yX2_copyFrom yX2_copyFrom, Cond.initialized RX2, Cond.code yX2_copyFrom cX2_copyFrom 2 none, Cond.fieldLink RX2 14 "ZoneSampler$State" "zones" "LZoneSampler$Table;", Cond.fieldLink RX2 20 "ZoneSampler$State" "voices" "LZoneSampler$Table;", Cond.fieldLink RX2 23 "ZoneSampler$State" "numbers" "[I", Cond.methodLink RX2 34 Lib.Math.min.name, Cond.static Lib.Math.min.name, Cond.initialized "java/lang/Math", Cond.code Lib.Math.min.name Lib.Math.min.code 2 (some .int), Cond.methodLink RX2 40 arraycopyName, Cond.native arraycopyName, Cond.static arraycopyName, Cond.initialized "java/lang/System", Cond.fieldLink RX2 46 "ZoneSampler$State" "pedalDown" "Z", Cond.fieldLink RX2 50 "ZoneSampler$State" "notes" "I", Cond.methodLink RX2 30 yX4_copyFrom, Cond.instanceMethod yX4_copyFrom, Cond.selects RX4 yX4_copyFrom yX4_copyFrom]
def wsX5_save_r2 : List Cond := [Cond.initialized RX4, Cond.code yX4_copyFrom cX4_copyFrom 2 none, Cond.fieldLink RX4 13 "ZoneSampler$Table" "cells" "[I", Cond.methodLink RX4 28 Lib.Math.min.name, Cond.methodLink RX4 33 arraycopyName, Cond.fieldLink RX4 17 "ZoneSampler$Table" "rows" "I", Cond.methodLink RX5 51 yX4_rows, Cond.instanceMethod yX4_rows, Cond.selects RX4 yX4_rows yX4_rows, Cond.code yX4_rows cX4_rows 1 (some .int)]
def wsX5_save : List Cond := .code yX5_save cX5_save 1 (some .int) :: ((wsX5_save_r1 ++ wsX5_save_r2) ++ wsX50 ++ wsX20 ++ wsX40)
def wsX5_restore_r1 : List Cond := [Cond.fieldLink RX5 222 "ZoneSampler" "hasSnapshot" "Z", Cond.fieldLink RX5 25 "ZoneSampler" "history" "LZoneSampler$History;", Cond.fieldLink RX5 10 "ZoneSampler" "now" "LZoneSampler$State;", Cond.fieldLink RX5 19 "ZoneSampler" "snapshot" "LZoneSampler$State;", Cond.methodLink RX5 57 yX0_record, Cond.instanceMethod yX0_record, Cond.selects RX0 yX0_record yX0_record, Cond.initialized RX0, Cond.code yX0_record cX0_record 3 none, Cond.fieldLink RX0 27 "ZoneSampler$History" "kept" "I", Cond.fieldLink RX0 12 "ZoneSampler$History" "first" "LZoneSampler$State;", Cond.fieldLink RX0 18 "ZoneSampler$History" "second" "LZoneSampler$State;", Cond.fieldLink RX0 21 "ZoneSampler$History" "third" "LZoneSampler$State;", Cond.fieldLink RX0 24 "ZoneSampler$History" "fourth" "LZoneSampler$State;", Cond.methodLink RX0 31 yX0_stateAt, Cond.instanceMethod yX0_stateAt, Cond.selects RX0 yX0_stateAt yX0_stateAt, Cond.code yX0_stateAt cX0_stateAt 2 (some (.object "ZoneSampler$State")), Cond.methodLink RX0 35 yX2_copyFrom, Cond.instanceMethod yX2_copyFrom, Cond.selects RX2 yX2_copyFrom yX2_copyFrom, Cond.initialized RX2, Cond.code yX2_copyFrom cX2_copyFrom 2 none, Cond.fieldLink RX2 14 "ZoneSampler$State" "zones" "LZoneSampler$Table;"]
def wsX5_restore_r2 : List Cond := [Cond.fieldLink RX2 20 "ZoneSampler$State" "voices" "LZoneSampler$Table;", Cond.fieldLink RX2 23 "ZoneSampler$State" "numbers" "[I", Cond.methodLink RX2 34 Lib.Math.min.name, Cond.static Lib.Math.min.name, Cond.initialized "java/lang/Math", Cond.code Lib.Math.min.name Lib.Math.min.code 2 (some .int), Cond.methodLink RX2 40 arraycopyName, Cond.native arraycopyName, Cond.static arraycopyName, Cond.initialized "java/lang/System", Cond.fieldLink RX2 46 "ZoneSampler$State" "pedalDown" "Z", Cond.fieldLink RX2 50 "ZoneSampler$State" "notes" "I", Cond.methodLink RX2 30 yX4_copyFrom, Cond.instanceMethod yX4_copyFrom, Cond.selects RX4 yX4_copyFrom yX4_copyFrom, Cond.initialized RX4, Cond.code yX4_copyFrom cX4_copyFrom 2 none, Cond.fieldLink RX4 13 "ZoneSampler$Table" "cells" "[I", Cond.methodLink RX4 28 Lib.Math.min.name, Cond.methodLink RX4 33 arraycopyName, Cond.fieldLink RX4 17 "ZoneSampler$Table" "rows" "I", Cond.methodLink RX5 205 yX2_copyFrom, Cond.methodLink RX5 51 yX4_rows, Cond.instanceMethod yX4_rows]
def wsX5_restore_r3 : List Cond := [Cond.selects RX4 yX4_rows yX4_rows, Cond.code yX4_rows cX4_rows 1 (some .int)]
def wsX5_restore : List Cond := .code yX5_restore cX5_restore 1 (some .int) :: ((wsX5_restore_r1 ++ (wsX5_restore_r2 ++ wsX5_restore_r3)) ++ wsX50 ++ wsX20 ++ wsX00 ++ wsX40)
def wsX6_init : List Cond := .code yX6_init cX6_init 1 none :: ([.methodLink RX6 1 objectInit, .instanceMethod objectInit, .code objectInit ⟨#[0xb1]⟩ 1 none, .arrayClass .int, .fieldLink RX6 7 "ZoneSamplerModel" "s" "[I", .fieldLink RX6 13 "ZoneSamplerModel" "aside" "[I", .fieldLink RX6 16 "ZoneSamplerModel" "past" "[I", .fieldLink RX6 19 "ZoneSamplerModel" "kept" "[I", .fieldLink RX6 22 "ZoneSamplerModel" "pad" "[I", .arrayClass .boolean, .fieldLink RX6 25 "ZoneSamplerModel" "sounds" "[Z", .fieldLink RX6 29 "ZoneSamplerModel" "read" "[I"] ++ wsX60)
def wsX6_in : List Cond := .code yX6_in cX6_in 3 (some .boolean) :: ([])
def wsX6_copies : List Cond := .code yX6_copies cX6_copies 5 none :: ([])
def wsX6_records : List Cond := .code yX6_records cX6_records 2 none :: ([.fieldLink RX6 32 "ZoneSamplerModel" "known" "I", .fieldLink RX6 16 "ZoneSamplerModel" "past" "[I", .fieldLink RX6 7 "ZoneSamplerModel" "s" "[I", .methodLink RX6 36 yX6_copies, .static yX6_copies, .initialized RX6, .code yX6_copies cX6_copies 5 none] ++ wsX60)
def wsX6_isZone : List Cond := .code yX6_isZone cX6_isZone 2 (some .boolean) :: ([.fieldLink RX6 7 "ZoneSamplerModel" "s" "[I", .methodLink RX6 40 yX6_in, .static yX6_in, .initialized RX6, .code yX6_in cX6_in 3 (some .boolean)] ++ wsX60)
def wsX6_ofZone : List Cond := .code yX6_ofZone cX6_ofZone 3 (some .int) :: ([.fieldLink RX6 7 "ZoneSamplerModel" "s" "[I"] ++ wsX60)
def wsX6_laysZone : List Cond := .code yX6_laysZone cX6_laysZone 4 none :: ([.fieldLink RX6 7 "ZoneSamplerModel" "s" "[I"] ++ wsX60)
def wsX6_of : List Cond := .code yX6_of cX6_of 3 (some .int) :: ([.fieldLink RX6 7 "ZoneSamplerModel" "s" "[I"] ++ wsX60)
def wsX6_lays : List Cond := .code yX6_lays cX6_lays 4 none :: ([.fieldLink RX6 7 "ZoneSamplerModel" "s" "[I"] ++ wsX60)
def wsX6_isAnswer : List Cond := .code yX6_isAnswer cX6_isAnswer 4 (some .boolean) :: ([.methodLink RX6 44 yX6_ofZone, .instanceMethod yX6_ofZone, .selects RX6 yX6_ofZone yX6_ofZone, .initialized RX6, .code yX6_ofZone cX6_ofZone 3 (some .int), .fieldLink RX6 7 "ZoneSamplerModel" "s" "[I", .methodLink RX6 40 yX6_in, .static yX6_in, .code yX6_in cX6_in 3 (some .boolean)] ++ wsX60)
def wsX6_answering : List Cond := .code yX6_answering cX6_answering 5 (some .int) :: ([.fieldLink RX6 7 "ZoneSamplerModel" "s" "[I", .methodLink RX6 48 yX6_isAnswer, .instanceMethod yX6_isAnswer, .selects RX6 yX6_isAnswer yX6_isAnswer, .initialized RX6, .code yX6_isAnswer cX6_isAnswer 4 (some .boolean), .methodLink RX6 44 yX6_ofZone, .instanceMethod yX6_ofZone, .selects RX6 yX6_ofZone yX6_ofZone, .code yX6_ofZone cX6_ofZone 3 (some .int), .methodLink RX6 40 yX6_in, .static yX6_in, .code yX6_in cX6_in 3 (some .boolean)] ++ wsX60)
def wsX6_ofRobin : List Cond := .code yX6_ofRobin cX6_ofRobin 7 (some .int) :: ([.methodLink RX6 44 yX6_ofZone, .instanceMethod yX6_ofZone, .selects RX6 yX6_ofZone yX6_ofZone, .initialized RX6, .code yX6_ofZone cX6_ofZone 3 (some .int), .fieldLink RX6 7 "ZoneSamplerModel" "s" "[I", .methodLink RX6 48 yX6_isAnswer, .instanceMethod yX6_isAnswer, .selects RX6 yX6_isAnswer yX6_isAnswer, .code yX6_isAnswer cX6_isAnswer 4 (some .boolean), .methodLink RX6 40 yX6_in, .static yX6_in, .code yX6_in cX6_in 3 (some .boolean)] ++ wsX60)
def wsX6_isSounding : List Cond := .code yX6_isSounding cX6_isSounding 6 (some .boolean) :: ([.fieldLink RX6 7 "ZoneSamplerModel" "s" "[I", .methodLink RX6 44 yX6_ofZone, .instanceMethod yX6_ofZone, .selects RX6 yX6_ofZone yX6_ofZone, .initialized RX6, .code yX6_ofZone cX6_ofZone 3 (some .int), .methodLink RX6 48 yX6_isAnswer, .instanceMethod yX6_isAnswer, .selects RX6 yX6_isAnswer yX6_isAnswer, .code yX6_isAnswer cX6_isAnswer 4 (some .boolean), .methodLink RX6 40 yX6_in, .static yX6_in, .code yX6_in cX6_in 3 (some .boolean), .methodLink RX6 51 yX6_ofRobin, .instanceMethod yX6_ofRobin, .selects RX6 yX6_ofRobin yX6_ofRobin, .code yX6_ofRobin cX6_ofRobin 7 (some .int)] ++ wsX60)
def wsX6_dropsVoice : List Cond := .code yX6_dropsVoice cX6_dropsVoice 3 none :: ([.fieldLink RX6 7 "ZoneSamplerModel" "s" "[I"] ++ wsX60)
def wsX6_soon : List Cond := .code yX6_soon cX6_soon 2 (some .int) :: ([.fieldLink RX6 7 "ZoneSamplerModel" "s" "[I", .methodLink RX6 55 yX6_of, .instanceMethod yX6_of, .selects RX6 yX6_of yX6_of, .initialized RX6, .code yX6_of cX6_of 3 (some .int)] ++ wsX60)
def wsX6_steals : List Cond := .code yX6_steals cX6_steals 3 none :: ([.fieldLink RX6 7 "ZoneSamplerModel" "s" "[I", .methodLink RX6 58 yX6_soon, .instanceMethod yX6_soon, .selects RX6 yX6_soon yX6_soon, .initialized RX6, .code yX6_soon cX6_soon 2 (some .int), .methodLink RX6 55 yX6_of, .instanceMethod yX6_of, .selects RX6 yX6_of yX6_of, .code yX6_of cX6_of 3 (some .int), .methodLink RX6 62 yX6_dropsVoice, .instanceMethod yX6_dropsVoice, .selects RX6 yX6_dropsVoice yX6_dropsVoice, .code yX6_dropsVoice cX6_dropsVoice 3 none] ++ wsX60)
def wsX6_chokes : List Cond := .code yX6_chokes cX6_chokes 4 none :: ([.fieldLink RX6 7 "ZoneSamplerModel" "s" "[I", .methodLink RX6 55 yX6_of, .instanceMethod yX6_of, .selects RX6 yX6_of yX6_of, .initialized RX6, .code yX6_of cX6_of 3 (some .int), .methodLink RX6 44 yX6_ofZone, .instanceMethod yX6_ofZone, .selects RX6 yX6_ofZone yX6_ofZone, .code yX6_ofZone cX6_ofZone 3 (some .int), .methodLink RX6 62 yX6_dropsVoice, .instanceMethod yX6_dropsVoice, .selects RX6 yX6_dropsVoice yX6_dropsVoice, .code yX6_dropsVoice cX6_dropsVoice 3 none] ++ wsX60)
def wsX6_begins_r1 : List Cond := [Cond.fieldLink RX6 7 "ZoneSamplerModel" "s" "[I", Cond.methodLink RX6 44 yX6_ofZone, Cond.instanceMethod yX6_ofZone, Cond.selects RX6 yX6_ofZone yX6_ofZone, Cond.initialized RX6, Cond.code yX6_ofZone cX6_ofZone 3 (some .int), Cond.methodLink RX6 66 yX6_chokes, Cond.instanceMethod yX6_chokes, Cond.selects RX6 yX6_chokes yX6_chokes, Cond.code yX6_chokes cX6_chokes 4 none, Cond.methodLink RX6 55 yX6_of, Cond.instanceMethod yX6_of, Cond.selects RX6 yX6_of yX6_of, Cond.code yX6_of cX6_of 3 (some .int), Cond.methodLink RX6 62 yX6_dropsVoice, Cond.instanceMethod yX6_dropsVoice, Cond.selects RX6 yX6_dropsVoice yX6_dropsVoice, Cond.code yX6_dropsVoice cX6_dropsVoice 3 none, Cond.methodLink RX6 69 yX6_steals, Cond.instanceMethod yX6_steals, Cond.selects RX6 yX6_steals yX6_steals, Cond.code yX6_steals cX6_steals 3 none, Cond.methodLink RX6 58 yX6_soon, Cond.instanceMethod yX6_soon]
def wsX6_begins_r2 : List Cond := [Cond.selects RX6 yX6_soon yX6_soon, Cond.code yX6_soon cX6_soon 2 (some .int), Cond.methodLink RX6 72 yX6_lays, Cond.instanceMethod yX6_lays, Cond.selects RX6 yX6_lays yX6_lays, Cond.code yX6_lays cX6_lays 4 none]
def wsX6_begins : List Cond := .code yX6_begins cX6_begins 5 none :: ((wsX6_begins_r1 ++ wsX6_begins_r2) ++ wsX60)
def wsX6_goHit_r1 : List Cond := [Cond.fieldLink RX6 7 "ZoneSamplerModel" "s" "[I", Cond.fieldLink RX6 76 "ZoneSamplerModel" "firstZone" "I", Cond.fieldLink RX6 25 "ZoneSamplerModel" "sounds" "[Z", Cond.methodLink RX6 55 yX6_of, Cond.instanceMethod yX6_of, Cond.selects RX6 yX6_of yX6_of, Cond.initialized RX6, Cond.code yX6_of cX6_of 3 (some .int), Cond.methodLink RX6 72 yX6_lays, Cond.instanceMethod yX6_lays, Cond.selects RX6 yX6_lays yX6_lays, Cond.code yX6_lays cX6_lays 4 none, Cond.methodLink RX6 79 yX6_isSounding, Cond.instanceMethod yX6_isSounding, Cond.selects RX6 yX6_isSounding yX6_isSounding, Cond.code yX6_isSounding cX6_isSounding 6 (some .boolean), Cond.methodLink RX6 44 yX6_ofZone, Cond.instanceMethod yX6_ofZone, Cond.selects RX6 yX6_ofZone yX6_ofZone, Cond.code yX6_ofZone cX6_ofZone 3 (some .int), Cond.methodLink RX6 48 yX6_isAnswer, Cond.instanceMethod yX6_isAnswer, Cond.selects RX6 yX6_isAnswer yX6_isAnswer, Cond.code yX6_isAnswer cX6_isAnswer 4 (some .boolean)]
def wsX6_goHit_r2 : List Cond := [Cond.methodLink RX6 40 yX6_in, Cond.static yX6_in, Cond.code yX6_in cX6_in 3 (some .boolean), Cond.methodLink RX6 51 yX6_ofRobin, Cond.instanceMethod yX6_ofRobin, Cond.selects RX6 yX6_ofRobin yX6_ofRobin, Cond.code yX6_ofRobin cX6_ofRobin 7 (some .int), Cond.methodLink RX6 82 yX6_begins, Cond.instanceMethod yX6_begins, Cond.selects RX6 yX6_begins yX6_begins, Cond.code yX6_begins cX6_begins 5 none, Cond.methodLink RX6 66 yX6_chokes, Cond.instanceMethod yX6_chokes, Cond.selects RX6 yX6_chokes yX6_chokes, Cond.code yX6_chokes cX6_chokes 4 none, Cond.methodLink RX6 62 yX6_dropsVoice, Cond.instanceMethod yX6_dropsVoice, Cond.selects RX6 yX6_dropsVoice yX6_dropsVoice, Cond.code yX6_dropsVoice cX6_dropsVoice 3 none, Cond.methodLink RX6 69 yX6_steals, Cond.instanceMethod yX6_steals, Cond.selects RX6 yX6_steals yX6_steals, Cond.code yX6_steals cX6_steals 3 none, Cond.methodLink RX6 58 yX6_soon]
def wsX6_goHit_r3 : List Cond := [Cond.instanceMethod yX6_soon, Cond.selects RX6 yX6_soon yX6_soon, Cond.code yX6_soon cX6_soon 2 (some .int)]
def wsX6_goHit : List Cond := .code yX6_goHit cX6_goHit 5 (some .int) :: ((wsX6_goHit_r1 ++ (wsX6_goHit_r2 ++ wsX6_goHit_r3)) ++ wsX60)
def wsX6_goLet : List Cond := .code yX6_goLet cX6_goLet 5 (some .int) :: ([.fieldLink RX6 7 "ZoneSamplerModel" "s" "[I", .methodLink RX6 55 yX6_of, .instanceMethod yX6_of, .selects RX6 yX6_of yX6_of, .initialized RX6, .code yX6_of cX6_of 3 (some .int), .methodLink RX6 72 yX6_lays, .instanceMethod yX6_lays, .selects RX6 yX6_lays yX6_lays, .code yX6_lays cX6_lays 4 none] ++ wsX60)
def wsX6_goPedal : List Cond := .code yX6_goPedal cX6_goPedal 3 (some .int) :: ([.fieldLink RX6 7 "ZoneSamplerModel" "s" "[I", .methodLink RX6 55 yX6_of, .instanceMethod yX6_of, .selects RX6 yX6_of yX6_of, .initialized RX6, .code yX6_of cX6_of 3 (some .int), .methodLink RX6 72 yX6_lays, .instanceMethod yX6_lays, .selects RX6 yX6_lays yX6_lays, .code yX6_lays cX6_lays 4 none] ++ wsX60)
def wsX6_tick : List Cond := .code yX6_tick cX6_tick 3 (some .int) :: ([.fieldLink RX6 7 "ZoneSamplerModel" "s" "[I", .methodLink RX6 55 yX6_of, .instanceMethod yX6_of, .selects RX6 yX6_of yX6_of, .initialized RX6, .code yX6_of cX6_of 3 (some .int), .methodLink RX6 72 yX6_lays, .instanceMethod yX6_lays, .selects RX6 yX6_lays yX6_lays, .code yX6_lays cX6_lays 4 none, .methodLink RX6 44 yX6_ofZone, .instanceMethod yX6_ofZone, .selects RX6 yX6_ofZone yX6_ofZone, .code yX6_ofZone cX6_ofZone 3 (some .int), .methodLink RX6 62 yX6_dropsVoice, .instanceMethod yX6_dropsVoice, .selects RX6 yX6_dropsVoice yX6_dropsVoice, .code yX6_dropsVoice cX6_dropsVoice 3 none] ++ wsX60)
def wsX6_goPass : List Cond := .code yX6_goPass cX6_goPass 4 (some .int) :: ([.methodLink RX6 85 yX6_tick, .instanceMethod yX6_tick, .selects RX6 yX6_tick yX6_tick, .initialized RX6, .code yX6_tick cX6_tick 3 (some .int), .fieldLink RX6 7 "ZoneSamplerModel" "s" "[I", .methodLink RX6 55 yX6_of, .instanceMethod yX6_of, .selects RX6 yX6_of yX6_of, .code yX6_of cX6_of 3 (some .int), .methodLink RX6 72 yX6_lays, .instanceMethod yX6_lays, .selects RX6 yX6_lays yX6_lays, .code yX6_lays cX6_lays 4 none, .methodLink RX6 44 yX6_ofZone, .instanceMethod yX6_ofZone, .selects RX6 yX6_ofZone yX6_ofZone, .code yX6_ofZone cX6_ofZone 3 (some .int), .methodLink RX6 62 yX6_dropsVoice, .instanceMethod yX6_dropsVoice, .selects RX6 yX6_dropsVoice yX6_dropsVoice, .code yX6_dropsVoice cX6_dropsVoice 3 none] ++ wsX60)
def wsX6_addsZone : List Cond := .code yX6_addsZone cX6_addsZone 6 none :: ([.fieldLink RX6 7 "ZoneSamplerModel" "s" "[I", .methodLink RX6 89 yX6_laysZone, .instanceMethod yX6_laysZone, .selects RX6 yX6_laysZone yX6_laysZone, .initialized RX6, .code yX6_laysZone cX6_laysZone 4 none] ++ wsX60)
def wsX6_zone : List Cond := .code yX6_zone cX6_zone 5 (some .int) :: ([.fieldLink RX6 7 "ZoneSamplerModel" "s" "[I", .methodLink RX6 40 yX6_in, .static yX6_in, .initialized RX6, .code yX6_in cX6_in 3 (some .boolean), .methodLink RX6 92 yX6_records, .instanceMethod yX6_records, .selects RX6 yX6_records yX6_records, .code yX6_records cX6_records 2 none, .fieldLink RX6 32 "ZoneSamplerModel" "known" "I", .fieldLink RX6 16 "ZoneSamplerModel" "past" "[I", .methodLink RX6 36 yX6_copies, .static yX6_copies, .code yX6_copies cX6_copies 5 none, .methodLink RX6 95 yX6_addsZone, .instanceMethod yX6_addsZone, .selects RX6 yX6_addsZone yX6_addsZone, .code yX6_addsZone cX6_addsZone 6 none, .methodLink RX6 89 yX6_laysZone, .instanceMethod yX6_laysZone, .selects RX6 yX6_laysZone yX6_laysZone, .code yX6_laysZone cX6_laysZone 4 none] ++ wsX60)
def wsX6_like_r1 : List Cond := [Cond.fieldLink RX6 7 "ZoneSamplerModel" "s" "[I", Cond.methodLink RX6 99 yX6_isZone, Cond.instanceMethod yX6_isZone, Cond.selects RX6 yX6_isZone yX6_isZone, Cond.initialized RX6, Cond.code yX6_isZone cX6_isZone 2 (some .boolean), Cond.methodLink RX6 40 yX6_in, Cond.static yX6_in, Cond.code yX6_in cX6_in 3 (some .boolean), Cond.methodLink RX6 92 yX6_records, Cond.instanceMethod yX6_records, Cond.selects RX6 yX6_records yX6_records, Cond.code yX6_records cX6_records 2 none, Cond.fieldLink RX6 32 "ZoneSamplerModel" "known" "I", Cond.fieldLink RX6 16 "ZoneSamplerModel" "past" "[I", Cond.methodLink RX6 36 yX6_copies, Cond.static yX6_copies, Cond.code yX6_copies cX6_copies 5 none, Cond.methodLink RX6 89 yX6_laysZone, Cond.instanceMethod yX6_laysZone, Cond.selects RX6 yX6_laysZone yX6_laysZone, Cond.code yX6_laysZone cX6_laysZone 4 none, Cond.methodLink RX6 44 yX6_ofZone, Cond.instanceMethod yX6_ofZone]
def wsX6_like_r2 : List Cond := [Cond.selects RX6 yX6_ofZone yX6_ofZone, Cond.code yX6_ofZone cX6_ofZone 3 (some .int)]
def wsX6_like : List Cond := .code yX6_like cX6_like 7 (some .int) :: ((wsX6_like_r1 ++ wsX6_like_r2) ++ wsX60)
def wsX6_takeZone_r1 : List Cond := [Cond.fieldLink RX6 7 "ZoneSamplerModel" "s" "[I", Cond.methodLink RX6 99 yX6_isZone, Cond.instanceMethod yX6_isZone, Cond.selects RX6 yX6_isZone yX6_isZone, Cond.initialized RX6, Cond.code yX6_isZone cX6_isZone 2 (some .boolean), Cond.methodLink RX6 40 yX6_in, Cond.static yX6_in, Cond.code yX6_in cX6_in 3 (some .boolean), Cond.methodLink RX6 92 yX6_records, Cond.instanceMethod yX6_records, Cond.selects RX6 yX6_records yX6_records, Cond.code yX6_records cX6_records 2 none, Cond.fieldLink RX6 32 "ZoneSamplerModel" "known" "I", Cond.fieldLink RX6 16 "ZoneSamplerModel" "past" "[I", Cond.methodLink RX6 36 yX6_copies, Cond.static yX6_copies, Cond.code yX6_copies cX6_copies 5 none, Cond.methodLink RX6 55 yX6_of, Cond.instanceMethod yX6_of, Cond.selects RX6 yX6_of yX6_of, Cond.code yX6_of cX6_of 3 (some .int), Cond.methodLink RX6 62 yX6_dropsVoice, Cond.instanceMethod yX6_dropsVoice]
def wsX6_takeZone_r2 : List Cond := [Cond.selects RX6 yX6_dropsVoice yX6_dropsVoice, Cond.code yX6_dropsVoice cX6_dropsVoice 3 none, Cond.methodLink RX6 72 yX6_lays, Cond.instanceMethod yX6_lays, Cond.selects RX6 yX6_lays yX6_lays, Cond.code yX6_lays cX6_lays 4 none]
def wsX6_takeZone : List Cond := .code yX6_takeZone cX6_takeZone 5 (some .int) :: ((wsX6_takeZone_r1 ++ wsX6_takeZone_r2) ++ wsX60)
def wsX6_isNote : List Cond := .code yX6_isNote cX6_isNote 2 (some .boolean) :: ([.methodLink RX6 40 yX6_in, .static yX6_in, .initialized RX6, .code yX6_in cX6_in 3 (some .boolean)])
def wsX6_hit_r1 : List Cond := [Cond.methodLink RX6 103 yX6_isNote, Cond.static yX6_isNote, Cond.initialized RX6, Cond.code yX6_isNote cX6_isNote 2 (some .boolean), Cond.methodLink RX6 40 yX6_in, Cond.static yX6_in, Cond.code yX6_in cX6_in 3 (some .boolean), Cond.methodLink RX6 92 yX6_records, Cond.instanceMethod yX6_records, Cond.selects RX6 yX6_records yX6_records, Cond.code yX6_records cX6_records 2 none, Cond.fieldLink RX6 32 "ZoneSamplerModel" "known" "I", Cond.fieldLink RX6 16 "ZoneSamplerModel" "past" "[I", Cond.fieldLink RX6 7 "ZoneSamplerModel" "s" "[I", Cond.methodLink RX6 36 yX6_copies, Cond.static yX6_copies, Cond.code yX6_copies cX6_copies 5 none, Cond.methodLink RX6 107 yX6_goHit, Cond.instanceMethod yX6_goHit, Cond.selects RX6 yX6_goHit yX6_goHit, Cond.code yX6_goHit cX6_goHit 5 (some .int), Cond.fieldLink RX6 76 "ZoneSamplerModel" "firstZone" "I", Cond.fieldLink RX6 25 "ZoneSamplerModel" "sounds" "[Z", Cond.methodLink RX6 55 yX6_of]
def wsX6_hit_r2 : List Cond := [Cond.instanceMethod yX6_of, Cond.selects RX6 yX6_of yX6_of, Cond.code yX6_of cX6_of 3 (some .int), Cond.methodLink RX6 72 yX6_lays, Cond.instanceMethod yX6_lays, Cond.selects RX6 yX6_lays yX6_lays, Cond.code yX6_lays cX6_lays 4 none, Cond.methodLink RX6 79 yX6_isSounding, Cond.instanceMethod yX6_isSounding, Cond.selects RX6 yX6_isSounding yX6_isSounding, Cond.code yX6_isSounding cX6_isSounding 6 (some .boolean), Cond.methodLink RX6 44 yX6_ofZone, Cond.instanceMethod yX6_ofZone, Cond.selects RX6 yX6_ofZone yX6_ofZone, Cond.code yX6_ofZone cX6_ofZone 3 (some .int), Cond.methodLink RX6 48 yX6_isAnswer, Cond.instanceMethod yX6_isAnswer, Cond.selects RX6 yX6_isAnswer yX6_isAnswer, Cond.code yX6_isAnswer cX6_isAnswer 4 (some .boolean), Cond.methodLink RX6 51 yX6_ofRobin, Cond.instanceMethod yX6_ofRobin, Cond.selects RX6 yX6_ofRobin yX6_ofRobin, Cond.code yX6_ofRobin cX6_ofRobin 7 (some .int), Cond.methodLink RX6 82 yX6_begins]
def wsX6_hit_r3 : List Cond := [Cond.instanceMethod yX6_begins, Cond.selects RX6 yX6_begins yX6_begins, Cond.code yX6_begins cX6_begins 5 none, Cond.methodLink RX6 66 yX6_chokes, Cond.instanceMethod yX6_chokes, Cond.selects RX6 yX6_chokes yX6_chokes, Cond.code yX6_chokes cX6_chokes 4 none, Cond.methodLink RX6 62 yX6_dropsVoice, Cond.instanceMethod yX6_dropsVoice, Cond.selects RX6 yX6_dropsVoice yX6_dropsVoice, Cond.code yX6_dropsVoice cX6_dropsVoice 3 none, Cond.methodLink RX6 69 yX6_steals, Cond.instanceMethod yX6_steals, Cond.selects RX6 yX6_steals yX6_steals, Cond.code yX6_steals cX6_steals 3 none, Cond.methodLink RX6 58 yX6_soon, Cond.instanceMethod yX6_soon, Cond.selects RX6 yX6_soon yX6_soon, Cond.code yX6_soon cX6_soon 2 (some .int)]
def wsX6_hit : List Cond := .code yX6_hit cX6_hit 3 (some .int) :: ((wsX6_hit_r1 ++ (wsX6_hit_r2 ++ wsX6_hit_r3)) ++ wsX60)
def wsX6_letGo_r1 : List Cond := [Cond.methodLink RX6 40 yX6_in, Cond.static yX6_in, Cond.initialized RX6, Cond.code yX6_in cX6_in 3 (some .boolean), Cond.methodLink RX6 92 yX6_records, Cond.instanceMethod yX6_records, Cond.selects RX6 yX6_records yX6_records, Cond.code yX6_records cX6_records 2 none, Cond.fieldLink RX6 32 "ZoneSamplerModel" "known" "I", Cond.fieldLink RX6 16 "ZoneSamplerModel" "past" "[I", Cond.fieldLink RX6 7 "ZoneSamplerModel" "s" "[I", Cond.methodLink RX6 36 yX6_copies, Cond.static yX6_copies, Cond.code yX6_copies cX6_copies 5 none, Cond.methodLink RX6 110 yX6_goLet, Cond.instanceMethod yX6_goLet, Cond.selects RX6 yX6_goLet yX6_goLet, Cond.code yX6_goLet cX6_goLet 5 (some .int), Cond.methodLink RX6 55 yX6_of, Cond.instanceMethod yX6_of, Cond.selects RX6 yX6_of yX6_of, Cond.code yX6_of cX6_of 3 (some .int), Cond.methodLink RX6 72 yX6_lays, Cond.instanceMethod yX6_lays]
def wsX6_letGo_r2 : List Cond := [Cond.selects RX6 yX6_lays yX6_lays, Cond.code yX6_lays cX6_lays 4 none]
def wsX6_letGo : List Cond := .code yX6_letGo cX6_letGo 2 (some .int) :: ((wsX6_letGo_r1 ++ wsX6_letGo_r2) ++ wsX60)
def wsX6_pedal : List Cond := .code yX6_pedal cX6_pedal 1 (some .int) :: ([.methodLink RX6 92 yX6_records, .instanceMethod yX6_records, .selects RX6 yX6_records yX6_records, .initialized RX6, .code yX6_records cX6_records 2 none, .fieldLink RX6 32 "ZoneSamplerModel" "known" "I", .fieldLink RX6 16 "ZoneSamplerModel" "past" "[I", .fieldLink RX6 7 "ZoneSamplerModel" "s" "[I", .methodLink RX6 36 yX6_copies, .static yX6_copies, .code yX6_copies cX6_copies 5 none, .methodLink RX6 113 yX6_goPedal, .instanceMethod yX6_goPedal, .selects RX6 yX6_goPedal yX6_goPedal, .code yX6_goPedal cX6_goPedal 3 (some .int), .methodLink RX6 55 yX6_of, .instanceMethod yX6_of, .selects RX6 yX6_of yX6_of, .code yX6_of cX6_of 3 (some .int), .methodLink RX6 72 yX6_lays, .instanceMethod yX6_lays, .selects RX6 yX6_lays yX6_lays, .code yX6_lays cX6_lays 4 none] ++ wsX60)
def wsX6_pass_r1 : List Cond := [Cond.methodLink RX6 40 yX6_in, Cond.static yX6_in, Cond.initialized RX6, Cond.code yX6_in cX6_in 3 (some .boolean), Cond.methodLink RX6 92 yX6_records, Cond.instanceMethod yX6_records, Cond.selects RX6 yX6_records yX6_records, Cond.code yX6_records cX6_records 2 none, Cond.fieldLink RX6 32 "ZoneSamplerModel" "known" "I", Cond.fieldLink RX6 16 "ZoneSamplerModel" "past" "[I", Cond.fieldLink RX6 7 "ZoneSamplerModel" "s" "[I", Cond.methodLink RX6 36 yX6_copies, Cond.static yX6_copies, Cond.code yX6_copies cX6_copies 5 none, Cond.methodLink RX6 116 yX6_goPass, Cond.instanceMethod yX6_goPass, Cond.selects RX6 yX6_goPass yX6_goPass, Cond.code yX6_goPass cX6_goPass 4 (some .int), Cond.methodLink RX6 85 yX6_tick, Cond.instanceMethod yX6_tick, Cond.selects RX6 yX6_tick yX6_tick, Cond.code yX6_tick cX6_tick 3 (some .int), Cond.methodLink RX6 55 yX6_of, Cond.instanceMethod yX6_of]
def wsX6_pass_r2 : List Cond := [Cond.selects RX6 yX6_of yX6_of, Cond.code yX6_of cX6_of 3 (some .int), Cond.methodLink RX6 72 yX6_lays, Cond.instanceMethod yX6_lays, Cond.selects RX6 yX6_lays yX6_lays, Cond.code yX6_lays cX6_lays 4 none, Cond.methodLink RX6 44 yX6_ofZone, Cond.instanceMethod yX6_ofZone, Cond.selects RX6 yX6_ofZone yX6_ofZone, Cond.code yX6_ofZone cX6_ofZone 3 (some .int), Cond.methodLink RX6 62 yX6_dropsVoice, Cond.instanceMethod yX6_dropsVoice, Cond.selects RX6 yX6_dropsVoice yX6_dropsVoice, Cond.code yX6_dropsVoice cX6_dropsVoice 3 none]
def wsX6_pass : List Cond := .code yX6_pass cX6_pass 2 (some .int) :: ((wsX6_pass_r1 ++ wsX6_pass_r2) ++ wsX60)
def wsX6_silence : List Cond := .code yX6_silence cX6_silence 2 (some .int) :: ([.fieldLink RX6 7 "ZoneSamplerModel" "s" "[I", .methodLink RX6 92 yX6_records, .instanceMethod yX6_records, .selects RX6 yX6_records yX6_records, .initialized RX6, .code yX6_records cX6_records 2 none, .fieldLink RX6 32 "ZoneSamplerModel" "known" "I", .fieldLink RX6 16 "ZoneSamplerModel" "past" "[I", .methodLink RX6 36 yX6_copies, .static yX6_copies, .code yX6_copies cX6_copies 5 none, .methodLink RX6 62 yX6_dropsVoice, .instanceMethod yX6_dropsVoice, .selects RX6 yX6_dropsVoice yX6_dropsVoice, .code yX6_dropsVoice cX6_dropsVoice 3 none] ++ wsX60)
def wsX6_leastOf : List Cond := .code yX6_leastOf cX6_leastOf 1 (some .int) :: ([])
def wsX6_mostOf : List Cond := .code yX6_mostOf cX6_mostOf 1 (some .int) :: ([])
def wsX6_set_r1 : List Cond := [Cond.fieldLink RX6 7 "ZoneSamplerModel" "s" "[I", Cond.methodLink RX6 40 yX6_in, Cond.static yX6_in, Cond.initialized RX6, Cond.code yX6_in cX6_in 3 (some .boolean), Cond.methodLink RX6 119 yX6_leastOf, Cond.static yX6_leastOf, Cond.code yX6_leastOf cX6_leastOf 1 (some .int), Cond.methodLink RX6 122 yX6_mostOf, Cond.static yX6_mostOf, Cond.code yX6_mostOf cX6_mostOf 1 (some .int), Cond.methodLink RX6 92 yX6_records, Cond.instanceMethod yX6_records, Cond.selects RX6 yX6_records yX6_records, Cond.code yX6_records cX6_records 2 none, Cond.fieldLink RX6 32 "ZoneSamplerModel" "known" "I", Cond.fieldLink RX6 16 "ZoneSamplerModel" "past" "[I", Cond.methodLink RX6 36 yX6_copies, Cond.static yX6_copies, Cond.code yX6_copies cX6_copies 5 none, Cond.methodLink RX6 69 yX6_steals, Cond.instanceMethod yX6_steals, Cond.selects RX6 yX6_steals yX6_steals, Cond.code yX6_steals cX6_steals 3 none]
def wsX6_set_r2 : List Cond := [Cond.methodLink RX6 58 yX6_soon, Cond.instanceMethod yX6_soon, Cond.selects RX6 yX6_soon yX6_soon, Cond.code yX6_soon cX6_soon 2 (some .int), Cond.methodLink RX6 55 yX6_of, Cond.instanceMethod yX6_of, Cond.selects RX6 yX6_of yX6_of, Cond.code yX6_of cX6_of 3 (some .int), Cond.methodLink RX6 62 yX6_dropsVoice, Cond.instanceMethod yX6_dropsVoice, Cond.selects RX6 yX6_dropsVoice yX6_dropsVoice, Cond.code yX6_dropsVoice cX6_dropsVoice 3 none]
def wsX6_set : List Cond := .code yX6_set cX6_set 4 (some .int) :: ((wsX6_set_r1 ++ wsX6_set_r2) ++ wsX60)
def wsX6_append : List Cond := .code yX6_append cX6_append 2 (some .int) :: ([.fieldLink RX6 125 "ZoneSamplerModel" "length" "I", .fieldLink RX6 22 "ZoneSamplerModel" "pad" "[I", .methodLink RX6 40 yX6_in, .static yX6_in, .initialized RX6, .code yX6_in cX6_in 3 (some .boolean)] ++ wsX60)
def wsX6_clear : List Cond := .code yX6_clear cX6_clear 2 (some .int) :: ([.fieldLink RX6 125 "ZoneSamplerModel" "length" "I"] ++ wsX60)
def wsX6_here : List Cond := .code yX6_here cX6_here 1 (some .int) :: ([.fieldLink RX6 128 "ZoneSamplerModel" "spot" "I", .fieldLink RX6 125 "ZoneSamplerModel" "length" "I", .fieldLink RX6 22 "ZoneSamplerModel" "pad" "[I"] ++ wsX60)
def wsX6_takes : List Cond := .code yX6_takes cX6_takes 2 none :: ([.fieldLink RX6 131 "ZoneSamplerModel" "isForm" "Z", .fieldLink RX6 128 "ZoneSamplerModel" "spot" "I"] ++ wsX60)
def wsX6_canBegin : List Cond := .code yX6_canBegin cX6_canBegin 5 (some .boolean) :: ([])
def wsX6_takesNumber : List Cond := .code yX6_takesNumber cX6_takesNumber 5 (some .int) :: ([.fieldLink RX6 131 "ZoneSamplerModel" "isForm" "Z", .fieldLink RX6 128 "ZoneSamplerModel" "spot" "I", .methodLink RX6 135 yX6_here, .instanceMethod yX6_here, .selects RX6 yX6_here yX6_here, .initialized RX6, .code yX6_here cX6_here 1 (some .int), .fieldLink RX6 125 "ZoneSamplerModel" "length" "I", .fieldLink RX6 22 "ZoneSamplerModel" "pad" "[I", .methodLink RX6 40 yX6_in, .static yX6_in, .code yX6_in cX6_in 3 (some .boolean), .methodLink RX6 138 yX6_canBegin, .static yX6_canBegin, .code yX6_canBegin cX6_canBegin 5 (some .boolean), .methodLink RX6 141 yX6_takes, .instanceMethod yX6_takes, .selects RX6 yX6_takes yX6_takes, .code yX6_takes cX6_takes 2 none] ++ wsX60)
def wsX6_takesRange : List Cond := .code yX6_takesRange cX6_takesRange 4 none :: ([.fieldLink RX6 29 "ZoneSamplerModel" "read" "[I", .methodLink RX6 145 yX6_takesNumber, .instanceMethod yX6_takesNumber, .selects RX6 yX6_takesNumber yX6_takesNumber, .initialized RX6, .code yX6_takesNumber cX6_takesNumber 5 (some .int), .fieldLink RX6 131 "ZoneSamplerModel" "isForm" "Z", .fieldLink RX6 128 "ZoneSamplerModel" "spot" "I", .methodLink RX6 135 yX6_here, .instanceMethod yX6_here, .selects RX6 yX6_here yX6_here, .code yX6_here cX6_here 1 (some .int), .fieldLink RX6 125 "ZoneSamplerModel" "length" "I", .fieldLink RX6 22 "ZoneSamplerModel" "pad" "[I", .methodLink RX6 40 yX6_in, .static yX6_in, .code yX6_in cX6_in 3 (some .boolean), .methodLink RX6 138 yX6_canBegin, .static yX6_canBegin, .code yX6_canBegin cX6_canBegin 5 (some .boolean), .methodLink RX6 141 yX6_takes, .instanceMethod yX6_takes, .selects RX6 yX6_takes yX6_takes, .code yX6_takes cX6_takes 2 none] ++ wsX60)
def wsX6_takesMark : List Cond := .code yX6_takesMark cX6_takesMark 3 (some .int) :: ([.fieldLink RX6 131 "ZoneSamplerModel" "isForm" "Z", .fieldLink RX6 128 "ZoneSamplerModel" "spot" "I", .methodLink RX6 135 yX6_here, .instanceMethod yX6_here, .selects RX6 yX6_here yX6_here, .initialized RX6, .code yX6_here cX6_here 1 (some .int), .fieldLink RX6 125 "ZoneSamplerModel" "length" "I", .fieldLink RX6 22 "ZoneSamplerModel" "pad" "[I", .methodLink RX6 145 yX6_takesNumber, .instanceMethod yX6_takesNumber, .selects RX6 yX6_takesNumber yX6_takesNumber, .code yX6_takesNumber cX6_takesNumber 5 (some .int), .methodLink RX6 40 yX6_in, .static yX6_in, .code yX6_in cX6_in 3 (some .boolean), .methodLink RX6 138 yX6_canBegin, .static yX6_canBegin, .code yX6_canBegin cX6_canBegin 5 (some .boolean), .methodLink RX6 141 yX6_takes, .instanceMethod yX6_takes, .selects RX6 yX6_takes yX6_takes, .code yX6_takes cX6_takes 2 none] ++ wsX60)
def wsX6_takesZone_r1 : List Cond := [Cond.fieldLink RX6 148 "ZoneSamplerModel" "reads" "I", Cond.fieldLink RX6 29 "ZoneSamplerModel" "read" "[I", Cond.methodLink RX6 151 yX6_takesRange, Cond.instanceMethod yX6_takesRange, Cond.selects RX6 yX6_takesRange yX6_takesRange, Cond.initialized RX6, Cond.code yX6_takesRange cX6_takesRange 4 none, Cond.methodLink RX6 145 yX6_takesNumber, Cond.instanceMethod yX6_takesNumber, Cond.selects RX6 yX6_takesNumber yX6_takesNumber, Cond.code yX6_takesNumber cX6_takesNumber 5 (some .int), Cond.fieldLink RX6 131 "ZoneSamplerModel" "isForm" "Z", Cond.fieldLink RX6 128 "ZoneSamplerModel" "spot" "I", Cond.methodLink RX6 135 yX6_here, Cond.instanceMethod yX6_here, Cond.selects RX6 yX6_here yX6_here, Cond.code yX6_here cX6_here 1 (some .int), Cond.fieldLink RX6 125 "ZoneSamplerModel" "length" "I", Cond.fieldLink RX6 22 "ZoneSamplerModel" "pad" "[I", Cond.methodLink RX6 40 yX6_in, Cond.static yX6_in, Cond.code yX6_in cX6_in 3 (some .boolean), Cond.methodLink RX6 138 yX6_canBegin, Cond.static yX6_canBegin]
def wsX6_takesZone_r2 : List Cond := [Cond.code yX6_canBegin cX6_canBegin 5 (some .boolean), Cond.methodLink RX6 141 yX6_takes, Cond.instanceMethod yX6_takes, Cond.selects RX6 yX6_takes yX6_takes, Cond.code yX6_takes cX6_takes 2 none, Cond.methodLink RX6 154 yX6_takesMark, Cond.instanceMethod yX6_takesMark, Cond.selects RX6 yX6_takesMark yX6_takesMark, Cond.code yX6_takesMark cX6_takesMark 3 (some .int)]
def wsX6_takesZone : List Cond := .code yX6_takesZone cX6_takesZone 2 none :: ((wsX6_takesZone_r1 ++ wsX6_takesZone_r2) ++ wsX60)
def wsX6_areZones_r1 : List Cond := [Cond.fieldLink RX6 128 "ZoneSamplerModel" "spot" "I", Cond.fieldLink RX6 131 "ZoneSamplerModel" "isForm" "Z", Cond.fieldLink RX6 148 "ZoneSamplerModel" "reads" "I", Cond.fieldLink RX6 125 "ZoneSamplerModel" "length" "I", Cond.methodLink RX6 157 yX6_takesZone, Cond.instanceMethod yX6_takesZone, Cond.selects RX6 yX6_takesZone yX6_takesZone, Cond.initialized RX6, Cond.code yX6_takesZone cX6_takesZone 2 none, Cond.fieldLink RX6 29 "ZoneSamplerModel" "read" "[I", Cond.methodLink RX6 151 yX6_takesRange, Cond.instanceMethod yX6_takesRange, Cond.selects RX6 yX6_takesRange yX6_takesRange, Cond.code yX6_takesRange cX6_takesRange 4 none, Cond.methodLink RX6 145 yX6_takesNumber, Cond.instanceMethod yX6_takesNumber, Cond.selects RX6 yX6_takesNumber yX6_takesNumber, Cond.code yX6_takesNumber cX6_takesNumber 5 (some .int), Cond.methodLink RX6 135 yX6_here, Cond.instanceMethod yX6_here, Cond.selects RX6 yX6_here yX6_here, Cond.code yX6_here cX6_here 1 (some .int), Cond.fieldLink RX6 22 "ZoneSamplerModel" "pad" "[I", Cond.methodLink RX6 40 yX6_in]
def wsX6_areZones_r2 : List Cond := [Cond.static yX6_in, Cond.code yX6_in cX6_in 3 (some .boolean), Cond.methodLink RX6 138 yX6_canBegin, Cond.static yX6_canBegin, Cond.code yX6_canBegin cX6_canBegin 5 (some .boolean), Cond.methodLink RX6 141 yX6_takes, Cond.instanceMethod yX6_takes, Cond.selects RX6 yX6_takes yX6_takes, Cond.code yX6_takes cX6_takes 2 none, Cond.methodLink RX6 154 yX6_takesMark, Cond.instanceMethod yX6_takesMark, Cond.selects RX6 yX6_takesMark yX6_takesMark, Cond.code yX6_takesMark cX6_takesMark 3 (some .int)]
def wsX6_areZones : List Cond := .code yX6_areZones cX6_areZones 1 (some .boolean) :: ((wsX6_areZones_r1 ++ wsX6_areZones_r2) ++ wsX60)
def wsX6_takesDeed_r1 : List Cond := [Cond.fieldLink RX6 160 "ZoneSamplerModel" "letter" "I", Cond.fieldLink RX6 163 "ZoneSamplerModel" "first" "I", Cond.fieldLink RX6 166 "ZoneSamplerModel" "second" "I", Cond.methodLink RX6 135 yX6_here, Cond.instanceMethod yX6_here, Cond.selects RX6 yX6_here yX6_here, Cond.initialized RX6, Cond.code yX6_here cX6_here 1 (some .int), Cond.fieldLink RX6 128 "ZoneSamplerModel" "spot" "I", Cond.fieldLink RX6 125 "ZoneSamplerModel" "length" "I", Cond.fieldLink RX6 22 "ZoneSamplerModel" "pad" "[I", Cond.methodLink RX6 141 yX6_takes, Cond.instanceMethod yX6_takes, Cond.selects RX6 yX6_takes yX6_takes, Cond.code yX6_takes cX6_takes 2 none, Cond.fieldLink RX6 131 "ZoneSamplerModel" "isForm" "Z", Cond.methodLink RX6 145 yX6_takesNumber, Cond.instanceMethod yX6_takesNumber, Cond.selects RX6 yX6_takesNumber yX6_takesNumber, Cond.code yX6_takesNumber cX6_takesNumber 5 (some .int), Cond.methodLink RX6 40 yX6_in, Cond.static yX6_in, Cond.code yX6_in cX6_in 3 (some .boolean), Cond.methodLink RX6 138 yX6_canBegin]
def wsX6_takesDeed_r2 : List Cond := [Cond.static yX6_canBegin, Cond.code yX6_canBegin cX6_canBegin 5 (some .boolean)]
def wsX6_takesDeed : List Cond := .code yX6_takesDeed cX6_takesDeed 1 none :: ((wsX6_takesDeed_r1 ++ wsX6_takesDeed_r2) ++ wsX60)
def wsX6_isScore_r1 : List Cond := [Cond.fieldLink RX6 128 "ZoneSamplerModel" "spot" "I", Cond.fieldLink RX6 131 "ZoneSamplerModel" "isForm" "Z", Cond.fieldLink RX6 125 "ZoneSamplerModel" "length" "I", Cond.methodLink RX6 169 yX6_takesDeed, Cond.instanceMethod yX6_takesDeed, Cond.selects RX6 yX6_takesDeed yX6_takesDeed, Cond.initialized RX6, Cond.code yX6_takesDeed cX6_takesDeed 1 none, Cond.fieldLink RX6 160 "ZoneSamplerModel" "letter" "I", Cond.fieldLink RX6 163 "ZoneSamplerModel" "first" "I", Cond.fieldLink RX6 166 "ZoneSamplerModel" "second" "I", Cond.methodLink RX6 135 yX6_here, Cond.instanceMethod yX6_here, Cond.selects RX6 yX6_here yX6_here, Cond.code yX6_here cX6_here 1 (some .int), Cond.fieldLink RX6 22 "ZoneSamplerModel" "pad" "[I", Cond.methodLink RX6 141 yX6_takes, Cond.instanceMethod yX6_takes, Cond.selects RX6 yX6_takes yX6_takes, Cond.code yX6_takes cX6_takes 2 none, Cond.methodLink RX6 145 yX6_takesNumber, Cond.instanceMethod yX6_takesNumber, Cond.selects RX6 yX6_takesNumber yX6_takesNumber, Cond.code yX6_takesNumber cX6_takesNumber 5 (some .int)]
def wsX6_isScore_r2 : List Cond := [Cond.methodLink RX6 40 yX6_in, Cond.static yX6_in, Cond.code yX6_in cX6_in 3 (some .boolean), Cond.methodLink RX6 138 yX6_canBegin, Cond.static yX6_canBegin, Cond.code yX6_canBegin cX6_canBegin 5 (some .boolean)]
def wsX6_isScore : List Cond := .code yX6_isScore cX6_isScore 1 (some .boolean) :: ((wsX6_isScore_r1 ++ wsX6_isScore_r2) ++ wsX60)
def wsX6_fault_r1 : List Cond := [Cond.fieldLink RX6 128 "ZoneSamplerModel" "spot" "I", Cond.methodLink RX6 40 yX6_in, Cond.static yX6_in, Cond.initialized RX6, Cond.code yX6_in cX6_in 3 (some .boolean), Cond.methodLink RX6 172 yX6_areZones, Cond.instanceMethod yX6_areZones, Cond.selects RX6 yX6_areZones yX6_areZones, Cond.code yX6_areZones cX6_areZones 1 (some .boolean), Cond.fieldLink RX6 131 "ZoneSamplerModel" "isForm" "Z", Cond.fieldLink RX6 148 "ZoneSamplerModel" "reads" "I", Cond.fieldLink RX6 125 "ZoneSamplerModel" "length" "I", Cond.methodLink RX6 157 yX6_takesZone, Cond.instanceMethod yX6_takesZone, Cond.selects RX6 yX6_takesZone yX6_takesZone, Cond.code yX6_takesZone cX6_takesZone 2 none, Cond.fieldLink RX6 29 "ZoneSamplerModel" "read" "[I", Cond.methodLink RX6 151 yX6_takesRange, Cond.instanceMethod yX6_takesRange, Cond.selects RX6 yX6_takesRange yX6_takesRange, Cond.code yX6_takesRange cX6_takesRange 4 none, Cond.methodLink RX6 145 yX6_takesNumber, Cond.instanceMethod yX6_takesNumber, Cond.selects RX6 yX6_takesNumber yX6_takesNumber]
def wsX6_fault_r2 : List Cond := [Cond.code yX6_takesNumber cX6_takesNumber 5 (some .int), Cond.methodLink RX6 135 yX6_here, Cond.instanceMethod yX6_here, Cond.selects RX6 yX6_here yX6_here, Cond.code yX6_here cX6_here 1 (some .int), Cond.fieldLink RX6 22 "ZoneSamplerModel" "pad" "[I", Cond.methodLink RX6 138 yX6_canBegin, Cond.static yX6_canBegin, Cond.code yX6_canBegin cX6_canBegin 5 (some .boolean), Cond.methodLink RX6 141 yX6_takes, Cond.instanceMethod yX6_takes, Cond.selects RX6 yX6_takes yX6_takes, Cond.code yX6_takes cX6_takes 2 none, Cond.methodLink RX6 154 yX6_takesMark, Cond.instanceMethod yX6_takesMark, Cond.selects RX6 yX6_takesMark yX6_takesMark, Cond.code yX6_takesMark cX6_takesMark 3 (some .int), Cond.methodLink RX6 176 yX6_isScore, Cond.instanceMethod yX6_isScore, Cond.selects RX6 yX6_isScore yX6_isScore, Cond.code yX6_isScore cX6_isScore 1 (some .boolean), Cond.methodLink RX6 169 yX6_takesDeed, Cond.instanceMethod yX6_takesDeed, Cond.selects RX6 yX6_takesDeed yX6_takesDeed]
def wsX6_fault_r3 : List Cond := [Cond.code yX6_takesDeed cX6_takesDeed 1 none, Cond.fieldLink RX6 160 "ZoneSamplerModel" "letter" "I", Cond.fieldLink RX6 163 "ZoneSamplerModel" "first" "I", Cond.fieldLink RX6 166 "ZoneSamplerModel" "second" "I"]
def wsX6_fault : List Cond := .code yX6_fault cX6_fault 2 (some .int) :: ((wsX6_fault_r1 ++ (wsX6_fault_r2 ++ wsX6_fault_r3)) ++ wsX60)
def wsX6_load_r1 : List Cond := [Cond.fieldLink RX6 7 "ZoneSamplerModel" "s" "[I", Cond.fieldLink RX6 148 "ZoneSamplerModel" "reads" "I", Cond.fieldLink RX6 29 "ZoneSamplerModel" "read" "[I", Cond.fieldLink RX6 125 "ZoneSamplerModel" "length" "I", Cond.methodLink RX6 172 yX6_areZones, Cond.instanceMethod yX6_areZones, Cond.selects RX6 yX6_areZones yX6_areZones, Cond.initialized RX6, Cond.code yX6_areZones cX6_areZones 1 (some .boolean), Cond.fieldLink RX6 128 "ZoneSamplerModel" "spot" "I", Cond.fieldLink RX6 131 "ZoneSamplerModel" "isForm" "Z", Cond.methodLink RX6 157 yX6_takesZone, Cond.instanceMethod yX6_takesZone, Cond.selects RX6 yX6_takesZone yX6_takesZone, Cond.code yX6_takesZone cX6_takesZone 2 none, Cond.methodLink RX6 151 yX6_takesRange, Cond.instanceMethod yX6_takesRange, Cond.selects RX6 yX6_takesRange yX6_takesRange, Cond.code yX6_takesRange cX6_takesRange 4 none, Cond.methodLink RX6 145 yX6_takesNumber, Cond.instanceMethod yX6_takesNumber, Cond.selects RX6 yX6_takesNumber yX6_takesNumber, Cond.code yX6_takesNumber cX6_takesNumber 5 (some .int), Cond.methodLink RX6 135 yX6_here]
def wsX6_load_r2 : List Cond := [Cond.instanceMethod yX6_here, Cond.selects RX6 yX6_here yX6_here, Cond.code yX6_here cX6_here 1 (some .int), Cond.fieldLink RX6 22 "ZoneSamplerModel" "pad" "[I", Cond.methodLink RX6 40 yX6_in, Cond.static yX6_in, Cond.code yX6_in cX6_in 3 (some .boolean), Cond.methodLink RX6 138 yX6_canBegin, Cond.static yX6_canBegin, Cond.code yX6_canBegin cX6_canBegin 5 (some .boolean), Cond.methodLink RX6 141 yX6_takes, Cond.instanceMethod yX6_takes, Cond.selects RX6 yX6_takes yX6_takes, Cond.code yX6_takes cX6_takes 2 none, Cond.methodLink RX6 154 yX6_takesMark, Cond.instanceMethod yX6_takesMark, Cond.selects RX6 yX6_takesMark yX6_takesMark, Cond.code yX6_takesMark cX6_takesMark 3 (some .int), Cond.methodLink RX6 92 yX6_records, Cond.instanceMethod yX6_records, Cond.selects RX6 yX6_records yX6_records, Cond.code yX6_records cX6_records 2 none, Cond.fieldLink RX6 32 "ZoneSamplerModel" "known" "I", Cond.fieldLink RX6 16 "ZoneSamplerModel" "past" "[I"]
def wsX6_load_r3 : List Cond := [Cond.methodLink RX6 36 yX6_copies, Cond.static yX6_copies, Cond.code yX6_copies cX6_copies 5 none, Cond.methodLink RX6 95 yX6_addsZone, Cond.instanceMethod yX6_addsZone, Cond.selects RX6 yX6_addsZone yX6_addsZone, Cond.code yX6_addsZone cX6_addsZone 6 none, Cond.methodLink RX6 89 yX6_laysZone, Cond.instanceMethod yX6_laysZone, Cond.selects RX6 yX6_laysZone yX6_laysZone, Cond.code yX6_laysZone cX6_laysZone 4 none]
def wsX6_load : List Cond := .code yX6_load cX6_load 3 (some .int) :: ((wsX6_load_r1 ++ (wsX6_load_r2 ++ wsX6_load_r3)) ++ wsX60)
def wsX6_doesDeed_r1 : List Cond := [Cond.fieldLink RX6 160 "ZoneSamplerModel" "letter" "I", Cond.fieldLink RX6 163 "ZoneSamplerModel" "first" "I", Cond.fieldLink RX6 166 "ZoneSamplerModel" "second" "I", Cond.methodLink RX6 107 yX6_goHit, Cond.instanceMethod yX6_goHit, Cond.selects RX6 yX6_goHit yX6_goHit, Cond.initialized RX6, Cond.code yX6_goHit cX6_goHit 5 (some .int), Cond.fieldLink RX6 7 "ZoneSamplerModel" "s" "[I", Cond.fieldLink RX6 76 "ZoneSamplerModel" "firstZone" "I", Cond.fieldLink RX6 25 "ZoneSamplerModel" "sounds" "[Z", Cond.methodLink RX6 55 yX6_of, Cond.instanceMethod yX6_of, Cond.selects RX6 yX6_of yX6_of, Cond.code yX6_of cX6_of 3 (some .int), Cond.methodLink RX6 72 yX6_lays, Cond.instanceMethod yX6_lays, Cond.selects RX6 yX6_lays yX6_lays, Cond.code yX6_lays cX6_lays 4 none, Cond.methodLink RX6 79 yX6_isSounding, Cond.instanceMethod yX6_isSounding, Cond.selects RX6 yX6_isSounding yX6_isSounding, Cond.code yX6_isSounding cX6_isSounding 6 (some .boolean), Cond.methodLink RX6 44 yX6_ofZone]
def wsX6_doesDeed_r2 : List Cond := [Cond.instanceMethod yX6_ofZone, Cond.selects RX6 yX6_ofZone yX6_ofZone, Cond.code yX6_ofZone cX6_ofZone 3 (some .int), Cond.methodLink RX6 48 yX6_isAnswer, Cond.instanceMethod yX6_isAnswer, Cond.selects RX6 yX6_isAnswer yX6_isAnswer, Cond.code yX6_isAnswer cX6_isAnswer 4 (some .boolean), Cond.methodLink RX6 40 yX6_in, Cond.static yX6_in, Cond.code yX6_in cX6_in 3 (some .boolean), Cond.methodLink RX6 51 yX6_ofRobin, Cond.instanceMethod yX6_ofRobin, Cond.selects RX6 yX6_ofRobin yX6_ofRobin, Cond.code yX6_ofRobin cX6_ofRobin 7 (some .int), Cond.methodLink RX6 82 yX6_begins, Cond.instanceMethod yX6_begins, Cond.selects RX6 yX6_begins yX6_begins, Cond.code yX6_begins cX6_begins 5 none, Cond.methodLink RX6 66 yX6_chokes, Cond.instanceMethod yX6_chokes, Cond.selects RX6 yX6_chokes yX6_chokes, Cond.code yX6_chokes cX6_chokes 4 none, Cond.methodLink RX6 62 yX6_dropsVoice, Cond.instanceMethod yX6_dropsVoice]
def wsX6_doesDeed_r3 : List Cond := [Cond.selects RX6 yX6_dropsVoice yX6_dropsVoice, Cond.code yX6_dropsVoice cX6_dropsVoice 3 none, Cond.methodLink RX6 69 yX6_steals, Cond.instanceMethod yX6_steals, Cond.selects RX6 yX6_steals yX6_steals, Cond.code yX6_steals cX6_steals 3 none, Cond.methodLink RX6 58 yX6_soon, Cond.instanceMethod yX6_soon, Cond.selects RX6 yX6_soon yX6_soon, Cond.code yX6_soon cX6_soon 2 (some .int), Cond.methodLink RX6 110 yX6_goLet, Cond.instanceMethod yX6_goLet, Cond.selects RX6 yX6_goLet yX6_goLet, Cond.code yX6_goLet cX6_goLet 5 (some .int), Cond.methodLink RX6 113 yX6_goPedal, Cond.instanceMethod yX6_goPedal, Cond.selects RX6 yX6_goPedal yX6_goPedal, Cond.code yX6_goPedal cX6_goPedal 3 (some .int), Cond.methodLink RX6 116 yX6_goPass, Cond.instanceMethod yX6_goPass, Cond.selects RX6 yX6_goPass yX6_goPass, Cond.code yX6_goPass cX6_goPass 4 (some .int), Cond.methodLink RX6 85 yX6_tick, Cond.instanceMethod yX6_tick]
def wsX6_doesDeed_r4 : List Cond := [Cond.selects RX6 yX6_tick yX6_tick, Cond.code yX6_tick cX6_tick 3 (some .int)]
def wsX6_doesDeed : List Cond := .code yX6_doesDeed cX6_doesDeed 5 none :: ((wsX6_doesDeed_r1 ++ (wsX6_doesDeed_r2 ++ (wsX6_doesDeed_r3 ++ wsX6_doesDeed_r4))) ++ wsX60)
def wsX6_play_r1 : List Cond := [Cond.fieldLink RX6 7 "ZoneSamplerModel" "s" "[I", Cond.fieldLink RX6 128 "ZoneSamplerModel" "spot" "I", Cond.fieldLink RX6 125 "ZoneSamplerModel" "length" "I", Cond.methodLink RX6 176 yX6_isScore, Cond.instanceMethod yX6_isScore, Cond.selects RX6 yX6_isScore yX6_isScore, Cond.initialized RX6, Cond.code yX6_isScore cX6_isScore 1 (some .boolean), Cond.fieldLink RX6 131 "ZoneSamplerModel" "isForm" "Z", Cond.methodLink RX6 169 yX6_takesDeed, Cond.instanceMethod yX6_takesDeed, Cond.selects RX6 yX6_takesDeed yX6_takesDeed, Cond.code yX6_takesDeed cX6_takesDeed 1 none, Cond.fieldLink RX6 160 "ZoneSamplerModel" "letter" "I", Cond.fieldLink RX6 163 "ZoneSamplerModel" "first" "I", Cond.fieldLink RX6 166 "ZoneSamplerModel" "second" "I", Cond.methodLink RX6 135 yX6_here, Cond.instanceMethod yX6_here, Cond.selects RX6 yX6_here yX6_here, Cond.code yX6_here cX6_here 1 (some .int), Cond.fieldLink RX6 22 "ZoneSamplerModel" "pad" "[I", Cond.methodLink RX6 141 yX6_takes, Cond.instanceMethod yX6_takes, Cond.selects RX6 yX6_takes yX6_takes]
def wsX6_play_r2 : List Cond := [Cond.code yX6_takes cX6_takes 2 none, Cond.methodLink RX6 145 yX6_takesNumber, Cond.instanceMethod yX6_takesNumber, Cond.selects RX6 yX6_takesNumber yX6_takesNumber, Cond.code yX6_takesNumber cX6_takesNumber 5 (some .int), Cond.methodLink RX6 40 yX6_in, Cond.static yX6_in, Cond.code yX6_in cX6_in 3 (some .boolean), Cond.methodLink RX6 138 yX6_canBegin, Cond.static yX6_canBegin, Cond.code yX6_canBegin cX6_canBegin 5 (some .boolean), Cond.methodLink RX6 92 yX6_records, Cond.instanceMethod yX6_records, Cond.selects RX6 yX6_records yX6_records, Cond.code yX6_records cX6_records 2 none, Cond.fieldLink RX6 32 "ZoneSamplerModel" "known" "I", Cond.fieldLink RX6 16 "ZoneSamplerModel" "past" "[I", Cond.methodLink RX6 36 yX6_copies, Cond.static yX6_copies, Cond.code yX6_copies cX6_copies 5 none, Cond.methodLink RX6 179 yX6_doesDeed, Cond.instanceMethod yX6_doesDeed, Cond.selects RX6 yX6_doesDeed yX6_doesDeed, Cond.code yX6_doesDeed cX6_doesDeed 5 none]
def wsX6_play_r3 : List Cond := [Cond.methodLink RX6 107 yX6_goHit, Cond.instanceMethod yX6_goHit, Cond.selects RX6 yX6_goHit yX6_goHit, Cond.code yX6_goHit cX6_goHit 5 (some .int), Cond.fieldLink RX6 76 "ZoneSamplerModel" "firstZone" "I", Cond.fieldLink RX6 25 "ZoneSamplerModel" "sounds" "[Z", Cond.methodLink RX6 55 yX6_of, Cond.instanceMethod yX6_of, Cond.selects RX6 yX6_of yX6_of, Cond.code yX6_of cX6_of 3 (some .int), Cond.methodLink RX6 72 yX6_lays, Cond.instanceMethod yX6_lays, Cond.selects RX6 yX6_lays yX6_lays, Cond.code yX6_lays cX6_lays 4 none, Cond.methodLink RX6 79 yX6_isSounding, Cond.instanceMethod yX6_isSounding, Cond.selects RX6 yX6_isSounding yX6_isSounding, Cond.code yX6_isSounding cX6_isSounding 6 (some .boolean), Cond.methodLink RX6 44 yX6_ofZone, Cond.instanceMethod yX6_ofZone, Cond.selects RX6 yX6_ofZone yX6_ofZone, Cond.code yX6_ofZone cX6_ofZone 3 (some .int), Cond.methodLink RX6 48 yX6_isAnswer, Cond.instanceMethod yX6_isAnswer]
def wsX6_play_r4 : List Cond := [Cond.selects RX6 yX6_isAnswer yX6_isAnswer, Cond.code yX6_isAnswer cX6_isAnswer 4 (some .boolean), Cond.methodLink RX6 51 yX6_ofRobin, Cond.instanceMethod yX6_ofRobin, Cond.selects RX6 yX6_ofRobin yX6_ofRobin, Cond.code yX6_ofRobin cX6_ofRobin 7 (some .int), Cond.methodLink RX6 82 yX6_begins, Cond.instanceMethod yX6_begins, Cond.selects RX6 yX6_begins yX6_begins, Cond.code yX6_begins cX6_begins 5 none, Cond.methodLink RX6 66 yX6_chokes, Cond.instanceMethod yX6_chokes, Cond.selects RX6 yX6_chokes yX6_chokes, Cond.code yX6_chokes cX6_chokes 4 none, Cond.methodLink RX6 62 yX6_dropsVoice, Cond.instanceMethod yX6_dropsVoice, Cond.selects RX6 yX6_dropsVoice yX6_dropsVoice, Cond.code yX6_dropsVoice cX6_dropsVoice 3 none, Cond.methodLink RX6 69 yX6_steals, Cond.instanceMethod yX6_steals, Cond.selects RX6 yX6_steals yX6_steals, Cond.code yX6_steals cX6_steals 3 none, Cond.methodLink RX6 58 yX6_soon, Cond.instanceMethod yX6_soon]
def wsX6_play_r5 : List Cond := [Cond.selects RX6 yX6_soon yX6_soon, Cond.code yX6_soon cX6_soon 2 (some .int), Cond.methodLink RX6 110 yX6_goLet, Cond.instanceMethod yX6_goLet, Cond.selects RX6 yX6_goLet yX6_goLet, Cond.code yX6_goLet cX6_goLet 5 (some .int), Cond.methodLink RX6 113 yX6_goPedal, Cond.instanceMethod yX6_goPedal, Cond.selects RX6 yX6_goPedal yX6_goPedal, Cond.code yX6_goPedal cX6_goPedal 3 (some .int), Cond.methodLink RX6 116 yX6_goPass, Cond.instanceMethod yX6_goPass, Cond.selects RX6 yX6_goPass yX6_goPass, Cond.code yX6_goPass cX6_goPass 4 (some .int), Cond.methodLink RX6 85 yX6_tick, Cond.instanceMethod yX6_tick, Cond.selects RX6 yX6_tick yX6_tick, Cond.code yX6_tick cX6_tick 3 (some .int)]
def wsX6_play : List Cond := .code yX6_play cX6_play 2 (some .int) :: ((wsX6_play_r1 ++ (wsX6_play_r2 ++ (wsX6_play_r3 ++ (wsX6_play_r4 ++ wsX6_play_r5)))) ++ wsX60)
def wsX6_voicesOf : List Cond := .code yX6_voicesOf cX6_voicesOf 4 (some .int) :: ([.fieldLink RX6 7 "ZoneSamplerModel" "s" "[I", .methodLink RX6 55 yX6_of, .instanceMethod yX6_of, .selects RX6 yX6_of yX6_of, .initialized RX6, .code yX6_of cX6_of 3 (some .int)] ++ wsX60)
def wsX6_canSound : List Cond := .code yX6_canSound cX6_canSound 5 (some .boolean) :: ([.methodLink RX6 44 yX6_ofZone, .instanceMethod yX6_ofZone, .selects RX6 yX6_ofZone yX6_ofZone, .initialized RX6, .code yX6_ofZone cX6_ofZone 3 (some .int), .fieldLink RX6 7 "ZoneSamplerModel" "s" "[I", .methodLink RX6 79 yX6_isSounding, .instanceMethod yX6_isSounding, .selects RX6 yX6_isSounding yX6_isSounding, .code yX6_isSounding cX6_isSounding 6 (some .boolean), .methodLink RX6 48 yX6_isAnswer, .instanceMethod yX6_isAnswer, .selects RX6 yX6_isAnswer yX6_isAnswer, .code yX6_isAnswer cX6_isAnswer 4 (some .boolean), .methodLink RX6 40 yX6_in, .static yX6_in, .code yX6_in cX6_in 3 (some .boolean), .methodLink RX6 51 yX6_ofRobin, .instanceMethod yX6_ofRobin, .selects RX6 yX6_ofRobin yX6_ofRobin, .code yX6_ofRobin cX6_ofRobin 7 (some .int)] ++ wsX60)
def wsX6_zoneOf_r1 : List Cond := [Cond.methodLink RX6 99 yX6_isZone, Cond.instanceMethod yX6_isZone, Cond.selects RX6 yX6_isZone yX6_isZone, Cond.initialized RX6, Cond.code yX6_isZone cX6_isZone 2 (some .boolean), Cond.fieldLink RX6 7 "ZoneSamplerModel" "s" "[I", Cond.methodLink RX6 40 yX6_in, Cond.static yX6_in, Cond.code yX6_in cX6_in 3 (some .boolean), Cond.methodLink RX6 44 yX6_ofZone, Cond.instanceMethod yX6_ofZone, Cond.selects RX6 yX6_ofZone yX6_ofZone, Cond.code yX6_ofZone cX6_ofZone 3 (some .int), Cond.methodLink RX6 182 yX6_voicesOf, Cond.instanceMethod yX6_voicesOf, Cond.selects RX6 yX6_voicesOf yX6_voicesOf, Cond.code yX6_voicesOf cX6_voicesOf 4 (some .int), Cond.methodLink RX6 55 yX6_of, Cond.instanceMethod yX6_of, Cond.selects RX6 yX6_of yX6_of, Cond.code yX6_of cX6_of 3 (some .int), Cond.methodLink RX6 185 yX6_canSound, Cond.instanceMethod yX6_canSound, Cond.selects RX6 yX6_canSound yX6_canSound]
def wsX6_zoneOf_r2 : List Cond := [Cond.code yX6_canSound cX6_canSound 5 (some .boolean), Cond.methodLink RX6 79 yX6_isSounding, Cond.instanceMethod yX6_isSounding, Cond.selects RX6 yX6_isSounding yX6_isSounding, Cond.code yX6_isSounding cX6_isSounding 6 (some .boolean), Cond.methodLink RX6 48 yX6_isAnswer, Cond.instanceMethod yX6_isAnswer, Cond.selects RX6 yX6_isAnswer yX6_isAnswer, Cond.code yX6_isAnswer cX6_isAnswer 4 (some .boolean), Cond.methodLink RX6 51 yX6_ofRobin, Cond.instanceMethod yX6_ofRobin, Cond.selects RX6 yX6_ofRobin yX6_ofRobin, Cond.code yX6_ofRobin cX6_ofRobin 7 (some .int)]
def wsX6_zoneOf : List Cond := .code yX6_zoneOf cX6_zoneOf 3 (some .int) :: ((wsX6_zoneOf_r1 ++ wsX6_zoneOf_r2) ++ wsX60)
def wsX6_rankOf : List Cond := .code yX6_rankOf cX6_rankOf 4 (some .int) :: ([.fieldLink RX6 7 "ZoneSamplerModel" "s" "[I", .methodLink RX6 58 yX6_soon, .instanceMethod yX6_soon, .selects RX6 yX6_soon yX6_soon, .initialized RX6, .code yX6_soon cX6_soon 2 (some .int), .methodLink RX6 55 yX6_of, .instanceMethod yX6_of, .selects RX6 yX6_of yX6_of, .code yX6_of cX6_of 3 (some .int)] ++ wsX60)
def wsX6_voice : List Cond := .code yX6_voice cX6_voice 3 (some .int) :: ([.fieldLink RX6 7 "ZoneSamplerModel" "s" "[I", .methodLink RX6 40 yX6_in, .static yX6_in, .initialized RX6, .code yX6_in cX6_in 3 (some .boolean), .methodLink RX6 55 yX6_of, .instanceMethod yX6_of, .selects RX6 yX6_of yX6_of, .code yX6_of cX6_of 3 (some .int), .methodLink RX6 188 yX6_rankOf, .instanceMethod yX6_rankOf, .selects RX6 yX6_rankOf yX6_rankOf, .code yX6_rankOf cX6_rankOf 4 (some .int), .methodLink RX6 58 yX6_soon, .instanceMethod yX6_soon, .selects RX6 yX6_soon yX6_soon, .code yX6_soon cX6_soon 2 (some .int)] ++ wsX60)
def wsX6_answers : List Cond := .code yX6_answers cX6_answers 3 (some .int) :: ([.methodLink RX6 103 yX6_isNote, .static yX6_isNote, .initialized RX6, .code yX6_isNote cX6_isNote 2 (some .boolean), .methodLink RX6 40 yX6_in, .static yX6_in, .code yX6_in cX6_in 3 (some .boolean), .methodLink RX6 191 yX6_answering, .instanceMethod yX6_answering, .selects RX6 yX6_answering yX6_answering, .code yX6_answering cX6_answering 5 (some .int), .fieldLink RX6 7 "ZoneSamplerModel" "s" "[I", .methodLink RX6 48 yX6_isAnswer, .instanceMethod yX6_isAnswer, .selects RX6 yX6_isAnswer yX6_isAnswer, .code yX6_isAnswer cX6_isAnswer 4 (some .boolean), .methodLink RX6 44 yX6_ofZone, .instanceMethod yX6_ofZone, .selects RX6 yX6_ofZone yX6_ofZone, .code yX6_ofZone cX6_ofZone 3 (some .int)] ++ wsX60)
def wsX6_map : List Cond := .code yX6_map cX6_map 10 (some .int) :: ([.methodLink RX6 40 yX6_in, .static yX6_in, .initialized RX6, .code yX6_in cX6_in 3 (some .boolean), .methodLink RX6 191 yX6_answering, .instanceMethod yX6_answering, .selects RX6 yX6_answering yX6_answering, .code yX6_answering cX6_answering 5 (some .int), .fieldLink RX6 7 "ZoneSamplerModel" "s" "[I", .methodLink RX6 48 yX6_isAnswer, .instanceMethod yX6_isAnswer, .selects RX6 yX6_isAnswer yX6_isAnswer, .code yX6_isAnswer cX6_isAnswer 4 (some .boolean), .methodLink RX6 44 yX6_ofZone, .instanceMethod yX6_ofZone, .selects RX6 yX6_ofZone yX6_ofZone, .code yX6_ofZone cX6_ofZone 3 (some .int)] ++ wsX60)
def wsX6_inState : List Cond := .code yX6_inState cX6_inState 4 (some .int) :: ([.fieldLink RX6 7 "ZoneSamplerModel" "s" "[I", .methodLink RX6 55 yX6_of, .instanceMethod yX6_of, .selects RX6 yX6_of yX6_of, .initialized RX6, .code yX6_of cX6_of 3 (some .int)] ++ wsX60)
def wsX6_allLoud : List Cond := .code yX6_allLoud cX6_allLoud 3 (some .int) :: ([.fieldLink RX6 7 "ZoneSamplerModel" "s" "[I", .methodLink RX6 55 yX6_of, .instanceMethod yX6_of, .selects RX6 yX6_of yX6_of, .initialized RX6, .code yX6_of cX6_of 3 (some .int)] ++ wsX60)
def wsX6_count : List Cond := .code yX6_count cX6_count 2 (some .int) :: ([.fieldLink RX6 7 "ZoneSamplerModel" "s" "[I", .fieldLink RX6 125 "ZoneSamplerModel" "length" "I", .fieldLink RX6 32 "ZoneSamplerModel" "known" "I", .methodLink RX6 194 yX6_inState, .instanceMethod yX6_inState, .selects RX6 yX6_inState yX6_inState, .initialized RX6, .code yX6_inState cX6_inState 4 (some .int), .methodLink RX6 55 yX6_of, .instanceMethod yX6_of, .selects RX6 yX6_of yX6_of, .code yX6_of cX6_of 3 (some .int), .methodLink RX6 197 yX6_allLoud, .instanceMethod yX6_allLoud, .selects RX6 yX6_allLoud yX6_allLoud, .code yX6_allLoud cX6_allLoud 3 (some .int), .methodLink RX6 40 yX6_in, .static yX6_in, .code yX6_in cX6_in 3 (some .boolean)] ++ wsX60)
def wsX6_loudness : List Cond := .code yX6_loudness cX6_loudness 1 (some .double) :: ([.fieldLink RX6 7 "ZoneSamplerModel" "s" "[I", .methodLink RX6 197 yX6_allLoud, .instanceMethod yX6_allLoud, .selects RX6 yX6_allLoud yX6_allLoud, .initialized RX6, .code yX6_allLoud cX6_allLoud 3 (some .int), .methodLink RX6 55 yX6_of, .instanceMethod yX6_of, .selects RX6 yX6_of yX6_of, .code yX6_of cX6_of 3 (some .int)] ++ wsX60)
def wsX6_ifHit_r1 : List Cond := [Cond.fieldLink RX6 7 "ZoneSamplerModel" "s" "[I", Cond.fieldLink RX6 13 "ZoneSamplerModel" "aside" "[I", Cond.fieldLink RX6 76 "ZoneSamplerModel" "firstZone" "I", Cond.methodLink RX6 103 yX6_isNote, Cond.static yX6_isNote, Cond.initialized RX6, Cond.code yX6_isNote cX6_isNote 2 (some .boolean), Cond.methodLink RX6 40 yX6_in, Cond.static yX6_in, Cond.code yX6_in cX6_in 3 (some .boolean), Cond.methodLink RX6 36 yX6_copies, Cond.static yX6_copies, Cond.code yX6_copies cX6_copies 5 none, Cond.methodLink RX6 107 yX6_goHit, Cond.instanceMethod yX6_goHit, Cond.selects RX6 yX6_goHit yX6_goHit, Cond.code yX6_goHit cX6_goHit 5 (some .int), Cond.fieldLink RX6 25 "ZoneSamplerModel" "sounds" "[Z", Cond.methodLink RX6 55 yX6_of, Cond.instanceMethod yX6_of, Cond.selects RX6 yX6_of yX6_of, Cond.code yX6_of cX6_of 3 (some .int), Cond.methodLink RX6 72 yX6_lays, Cond.instanceMethod yX6_lays]
def wsX6_ifHit_r2 : List Cond := [Cond.selects RX6 yX6_lays yX6_lays, Cond.code yX6_lays cX6_lays 4 none, Cond.methodLink RX6 79 yX6_isSounding, Cond.instanceMethod yX6_isSounding, Cond.selects RX6 yX6_isSounding yX6_isSounding, Cond.code yX6_isSounding cX6_isSounding 6 (some .boolean), Cond.methodLink RX6 44 yX6_ofZone, Cond.instanceMethod yX6_ofZone, Cond.selects RX6 yX6_ofZone yX6_ofZone, Cond.code yX6_ofZone cX6_ofZone 3 (some .int), Cond.methodLink RX6 48 yX6_isAnswer, Cond.instanceMethod yX6_isAnswer, Cond.selects RX6 yX6_isAnswer yX6_isAnswer, Cond.code yX6_isAnswer cX6_isAnswer 4 (some .boolean), Cond.methodLink RX6 51 yX6_ofRobin, Cond.instanceMethod yX6_ofRobin, Cond.selects RX6 yX6_ofRobin yX6_ofRobin, Cond.code yX6_ofRobin cX6_ofRobin 7 (some .int), Cond.methodLink RX6 82 yX6_begins, Cond.instanceMethod yX6_begins, Cond.selects RX6 yX6_begins yX6_begins, Cond.code yX6_begins cX6_begins 5 none, Cond.methodLink RX6 66 yX6_chokes, Cond.instanceMethod yX6_chokes]
def wsX6_ifHit_r3 : List Cond := [Cond.selects RX6 yX6_chokes yX6_chokes, Cond.code yX6_chokes cX6_chokes 4 none, Cond.methodLink RX6 62 yX6_dropsVoice, Cond.instanceMethod yX6_dropsVoice, Cond.selects RX6 yX6_dropsVoice yX6_dropsVoice, Cond.code yX6_dropsVoice cX6_dropsVoice 3 none, Cond.methodLink RX6 69 yX6_steals, Cond.instanceMethod yX6_steals, Cond.selects RX6 yX6_steals yX6_steals, Cond.code yX6_steals cX6_steals 3 none, Cond.methodLink RX6 58 yX6_soon, Cond.instanceMethod yX6_soon, Cond.selects RX6 yX6_soon yX6_soon, Cond.code yX6_soon cX6_soon 2 (some .int)]
def wsX6_ifHit : List Cond := .code yX6_ifHit cX6_ifHit 6 (some .int) :: ((wsX6_ifHit_r1 ++ (wsX6_ifHit_r2 ++ wsX6_ifHit_r3)) ++ wsX60)
def wsX6_silentIn_r1 : List Cond := [Cond.fieldLink RX6 7 "ZoneSamplerModel" "s" "[I", Cond.fieldLink RX6 13 "ZoneSamplerModel" "aside" "[I", Cond.methodLink RX6 36 yX6_copies, Cond.static yX6_copies, Cond.initialized RX6, Cond.code yX6_copies cX6_copies 5 none, Cond.methodLink RX6 85 yX6_tick, Cond.instanceMethod yX6_tick, Cond.selects RX6 yX6_tick yX6_tick, Cond.code yX6_tick cX6_tick 3 (some .int), Cond.methodLink RX6 55 yX6_of, Cond.instanceMethod yX6_of, Cond.selects RX6 yX6_of yX6_of, Cond.code yX6_of cX6_of 3 (some .int), Cond.methodLink RX6 72 yX6_lays, Cond.instanceMethod yX6_lays, Cond.selects RX6 yX6_lays yX6_lays, Cond.code yX6_lays cX6_lays 4 none, Cond.methodLink RX6 44 yX6_ofZone, Cond.instanceMethod yX6_ofZone, Cond.selects RX6 yX6_ofZone yX6_ofZone, Cond.code yX6_ofZone cX6_ofZone 3 (some .int), Cond.methodLink RX6 62 yX6_dropsVoice, Cond.instanceMethod yX6_dropsVoice]
def wsX6_silentIn_r2 : List Cond := [Cond.selects RX6 yX6_dropsVoice yX6_dropsVoice, Cond.code yX6_dropsVoice cX6_dropsVoice 3 none]
def wsX6_silentIn : List Cond := .code yX6_silentIn cX6_silentIn 3 (some .int) :: ((wsX6_silentIn_r1 ++ wsX6_silentIn_r2) ++ wsX60)
def wsX6_chord_r1 : List Cond := [Cond.fieldLink RX6 7 "ZoneSamplerModel" "s" "[I", Cond.fieldLink RX6 13 "ZoneSamplerModel" "aside" "[I", Cond.methodLink RX6 40 yX6_in, Cond.static yX6_in, Cond.initialized RX6, Cond.code yX6_in cX6_in 3 (some .boolean), Cond.methodLink RX6 36 yX6_copies, Cond.static yX6_copies, Cond.code yX6_copies cX6_copies 5 none, Cond.methodLink RX6 107 yX6_goHit, Cond.instanceMethod yX6_goHit, Cond.selects RX6 yX6_goHit yX6_goHit, Cond.code yX6_goHit cX6_goHit 5 (some .int), Cond.fieldLink RX6 76 "ZoneSamplerModel" "firstZone" "I", Cond.fieldLink RX6 25 "ZoneSamplerModel" "sounds" "[Z", Cond.methodLink RX6 55 yX6_of, Cond.instanceMethod yX6_of, Cond.selects RX6 yX6_of yX6_of, Cond.code yX6_of cX6_of 3 (some .int), Cond.methodLink RX6 72 yX6_lays, Cond.instanceMethod yX6_lays, Cond.selects RX6 yX6_lays yX6_lays, Cond.code yX6_lays cX6_lays 4 none, Cond.methodLink RX6 79 yX6_isSounding]
def wsX6_chord_r2 : List Cond := [Cond.instanceMethod yX6_isSounding, Cond.selects RX6 yX6_isSounding yX6_isSounding, Cond.code yX6_isSounding cX6_isSounding 6 (some .boolean), Cond.methodLink RX6 44 yX6_ofZone, Cond.instanceMethod yX6_ofZone, Cond.selects RX6 yX6_ofZone yX6_ofZone, Cond.code yX6_ofZone cX6_ofZone 3 (some .int), Cond.methodLink RX6 48 yX6_isAnswer, Cond.instanceMethod yX6_isAnswer, Cond.selects RX6 yX6_isAnswer yX6_isAnswer, Cond.code yX6_isAnswer cX6_isAnswer 4 (some .boolean), Cond.methodLink RX6 51 yX6_ofRobin, Cond.instanceMethod yX6_ofRobin, Cond.selects RX6 yX6_ofRobin yX6_ofRobin, Cond.code yX6_ofRobin cX6_ofRobin 7 (some .int), Cond.methodLink RX6 82 yX6_begins, Cond.instanceMethod yX6_begins, Cond.selects RX6 yX6_begins yX6_begins, Cond.code yX6_begins cX6_begins 5 none, Cond.methodLink RX6 66 yX6_chokes, Cond.instanceMethod yX6_chokes, Cond.selects RX6 yX6_chokes yX6_chokes, Cond.code yX6_chokes cX6_chokes 4 none, Cond.methodLink RX6 62 yX6_dropsVoice]
def wsX6_chord_r3 : List Cond := [Cond.instanceMethod yX6_dropsVoice, Cond.selects RX6 yX6_dropsVoice yX6_dropsVoice, Cond.code yX6_dropsVoice cX6_dropsVoice 3 none, Cond.methodLink RX6 69 yX6_steals, Cond.instanceMethod yX6_steals, Cond.selects RX6 yX6_steals yX6_steals, Cond.code yX6_steals cX6_steals 3 none, Cond.methodLink RX6 58 yX6_soon, Cond.instanceMethod yX6_soon, Cond.selects RX6 yX6_soon yX6_soon, Cond.code yX6_soon cX6_soon 2 (some .int)]
def wsX6_chord : List Cond := .code yX6_chord cX6_chord 6 (some .int) :: ((wsX6_chord_r1 ++ (wsX6_chord_r2 ++ wsX6_chord_r3)) ++ wsX60)
def wsX6_undo : List Cond := .code yX6_undo cX6_undo 1 (some .int) :: ([.fieldLink RX6 32 "ZoneSamplerModel" "known" "I", .fieldLink RX6 16 "ZoneSamplerModel" "past" "[I", .fieldLink RX6 7 "ZoneSamplerModel" "s" "[I", .methodLink RX6 36 yX6_copies, .static yX6_copies, .initialized RX6, .code yX6_copies cX6_copies 5 none] ++ wsX60)
def wsX6_save : List Cond := .code yX6_save cX6_save 1 (some .int) :: ([.fieldLink RX6 7 "ZoneSamplerModel" "s" "[I", .fieldLink RX6 19 "ZoneSamplerModel" "kept" "[I", .fieldLink RX6 200 "ZoneSamplerModel" "isKept" "Z", .methodLink RX6 36 yX6_copies, .static yX6_copies, .initialized RX6, .code yX6_copies cX6_copies 5 none] ++ wsX60)
def wsX6_restore : List Cond := .code yX6_restore cX6_restore 1 (some .int) :: ([.fieldLink RX6 200 "ZoneSamplerModel" "isKept" "Z", .fieldLink RX6 19 "ZoneSamplerModel" "kept" "[I", .fieldLink RX6 7 "ZoneSamplerModel" "s" "[I", .methodLink RX6 92 yX6_records, .instanceMethod yX6_records, .selects RX6 yX6_records yX6_records, .initialized RX6, .code yX6_records cX6_records 2 none, .fieldLink RX6 32 "ZoneSamplerModel" "known" "I", .fieldLink RX6 16 "ZoneSamplerModel" "past" "[I", .methodLink RX6 36 yX6_copies, .static yX6_copies, .code yX6_copies cX6_copies 5 none] ++ wsX60)
def wsJ9_max_7cf53 : List Cond := .code yJ9_max_7cf53 cJ9_max_7cf53 2 (some .int) :: ([])
def wsJ9_min_7cf53 : List Cond := .code yJ9_min_7cf53 cJ9_min_7cf53 2 (some .int) :: ([])
def wsL_law_r1 : List Cond := [Cond.classLink RL 7 RX5, Cond.instantiable RX5 7, Cond.initialized RX5, Cond.classLink RL 10 RX6, Cond.instantiable RX6 17, Cond.initialized RX6, Cond.methodLink RL 9 yX5_init, Cond.instanceMethod yX5_init, Cond.code yX5_init cX5_init 1 none, Cond.methodLink RX5 1 objectInit, Cond.instanceMethod objectInit, Cond.code objectInit ⟨#[0xb1]⟩ 1 none, Cond.classLink RX5 7 RX2, Cond.instantiable RX2 5, Cond.initialized RX2, Cond.fieldLink RX5 10 "ZoneSampler" "now" "LZoneSampler$State;", Cond.fieldLink RX5 16 "ZoneSampler" "trial" "LZoneSampler$State;", Cond.fieldLink RX5 19 "ZoneSampler" "snapshot" "LZoneSampler$State;", Cond.classLink RX5 22 RX0, Cond.instantiable RX0 5, Cond.initialized RX0, Cond.fieldLink RX5 25 "ZoneSampler" "history" "LZoneSampler$History;", Cond.classLink RX5 29 RX1, Cond.instantiable RX1 14]
def wsL_law_r2 : List Cond := [Cond.initialized RX1, Cond.fieldLink RX5 32 "ZoneSampler" "pad" "LZoneSampler$Pad;", Cond.classLink RX5 36 RX3, Cond.instantiable RX3 5, Cond.initialized RX3, Cond.fieldLink RX5 39 "ZoneSampler" "survey" "LZoneSampler$Survey;", Cond.methodLink RX5 9 yX2_init, Cond.instanceMethod yX2_init, Cond.code yX2_init cX2_init 1 none, Cond.methodLink RX2 3 objectInit, Cond.classLink RX2 9 RX4, Cond.instantiable RX4 3, Cond.initialized RX4, Cond.fieldLink RX2 14 "ZoneSampler$State" "zones" "LZoneSampler$Table;", Cond.fieldLink RX2 20 "ZoneSampler$State" "voices" "LZoneSampler$Table;", Cond.arrayClass .int, Cond.fieldLink RX2 23 "ZoneSampler$State" "numbers" "[I", Cond.methodLink RX2 11 yX4_init, Cond.instanceMethod yX4_init, Cond.code yX4_init cX4_init 3 none, Cond.methodLink RX4 1 objectInit, Cond.fieldLink RX4 7 "ZoneSampler$Table" "width" "I", Cond.fieldLink RX4 13 "ZoneSampler$Table" "cells" "[I", Cond.methodLink RX2 27 yX2_putNumber]
def wsL_law_r3 : List Cond := [Cond.instanceMethod yX2_putNumber, Cond.selects RX2 yX2_putNumber yX2_putNumber, Cond.code yX2_putNumber cX2_putNumber 3 none, Cond.instanceMethod yX0_init, Cond.code yX0_init cX0_init 1 none, Cond.methodLink RX0 3 objectInit, Cond.classLink RX0 9 RX2, Cond.fieldLink RX0 12 "ZoneSampler$History" "first" "LZoneSampler$State;", Cond.fieldLink RX0 18 "ZoneSampler$History" "second" "LZoneSampler$State;", Cond.fieldLink RX0 21 "ZoneSampler$History" "third" "LZoneSampler$State;", Cond.fieldLink RX0 24 "ZoneSampler$History" "fourth" "LZoneSampler$State;", Cond.methodLink RX0 11 yX2_init, Cond.instanceMethod yX1_init, Cond.code yX1_init cX1_init 1 none, Cond.methodLink RX1 3 objectInit, Cond.arrayClass .char, Cond.fieldLink RX1 9 "ZoneSampler$Pad" "signs" "[C", Cond.instanceMethod yX3_init, Cond.code yX3_init cX3_init 1 none, Cond.methodLink RX3 3 objectInit, Cond.fieldLink RX3 9 "ZoneSampler$Survey" "depths" "[I", Cond.methodLink RL 12 yX6_init, Cond.instanceMethod yX6_init, Cond.code yX6_init cX6_init 1 none]
def wsL_law_r4 : List Cond := [Cond.methodLink RX6 1 objectInit, Cond.fieldLink RX6 7 "ZoneSamplerModel" "s" "[I", Cond.fieldLink RX6 13 "ZoneSamplerModel" "aside" "[I", Cond.fieldLink RX6 16 "ZoneSamplerModel" "past" "[I", Cond.fieldLink RX6 19 "ZoneSamplerModel" "kept" "[I", Cond.fieldLink RX6 22 "ZoneSamplerModel" "pad" "[I", Cond.arrayClass .boolean, Cond.fieldLink RX6 25 "ZoneSamplerModel" "sounds" "[Z", Cond.fieldLink RX6 29 "ZoneSamplerModel" "read" "[I", Cond.methodLink RL 13 yX5_zone, Cond.instanceMethod yX5_zone, Cond.selects RX5 yX5_zone yX5_zone, Cond.code yX5_zone cX5_zone 5 (some .int), Cond.methodLink RX5 43 yX5_within, Cond.static yX5_within, Cond.code yX5_within cX5_within 3 (some .boolean), Cond.methodLink RX5 51 yX4_rows, Cond.instanceMethod yX4_rows, Cond.selects RX4 yX4_rows yX4_rows, Cond.code yX4_rows cX4_rows 1 (some .int), Cond.fieldLink RX4 17 "ZoneSampler$Table" "rows" "I", Cond.methodLink RX5 57 yX0_record, Cond.instanceMethod yX0_record, Cond.selects RX0 yX0_record yX0_record]
def wsL_law_r5 : List Cond := [Cond.code yX0_record cX0_record 3 none, Cond.fieldLink RX0 27 "ZoneSampler$History" "kept" "I", Cond.methodLink RX0 31 yX0_stateAt, Cond.instanceMethod yX0_stateAt, Cond.selects RX0 yX0_stateAt yX0_stateAt, Cond.code yX0_stateAt cX0_stateAt 2 (some (.object "ZoneSampler$State")), Cond.methodLink RX0 35 yX2_copyFrom, Cond.instanceMethod yX2_copyFrom, Cond.selects RX2 yX2_copyFrom yX2_copyFrom, Cond.code yX2_copyFrom cX2_copyFrom 2 none, Cond.methodLink RX2 34 Lib.Math.min.name, Cond.static Lib.Math.min.name, Cond.initialized "java/lang/Math", Cond.code Lib.Math.min.name Lib.Math.min.code 2 (some .int), Cond.methodLink RX2 40 arraycopyName, Cond.native arraycopyName, Cond.static arraycopyName, Cond.initialized "java/lang/System", Cond.fieldLink RX2 46 "ZoneSampler$State" "pedalDown" "Z", Cond.fieldLink RX2 50 "ZoneSampler$State" "notes" "I", Cond.methodLink RX2 30 yX4_copyFrom, Cond.instanceMethod yX4_copyFrom, Cond.selects RX4 yX4_copyFrom yX4_copyFrom, Cond.code yX4_copyFrom cX4_copyFrom 2 none]
def wsL_law_r6 : List Cond := [Cond.methodLink RX4 28 Lib.Math.min.name, Cond.methodLink RX4 33 arraycopyName, Cond.methodLink RX5 61 yX2_addZone, Cond.instanceMethod yX2_addZone, Cond.selects RX2 yX2_addZone yX2_addZone, Cond.code yX2_addZone cX2_addZone 6 (some .int), Cond.methodLink RX2 58 yX4_addRow, Cond.instanceMethod yX4_addRow, Cond.selects RX4 yX4_addRow yX4_addRow, Cond.code yX4_addRow cX4_addRow 1 (some .int), Cond.methodLink RX2 62 yX4_put, Cond.instanceMethod yX4_put, Cond.selects RX4 yX4_put yX4_put, Cond.code yX4_put cX4_put 5 none, Cond.methodLink RX2 66 yX2_shapeZone, Cond.instanceMethod yX2_shapeZone, Cond.selects RX2 yX2_shapeZone yX2_shapeZone, Cond.code yX2_shapeZone cX2_shapeZone 5 none, Cond.methodLink RL 17 yX6_zone, Cond.instanceMethod yX6_zone, Cond.selects RX6 yX6_zone yX6_zone, Cond.code yX6_zone cX6_zone 5 (some .int), Cond.methodLink RX6 40 yX6_in, Cond.static yX6_in]
def wsL_law_r7 : List Cond := [Cond.code yX6_in cX6_in 3 (some .boolean), Cond.methodLink RX6 92 yX6_records, Cond.instanceMethod yX6_records, Cond.selects RX6 yX6_records yX6_records, Cond.code yX6_records cX6_records 2 none, Cond.fieldLink RX6 32 "ZoneSamplerModel" "known" "I", Cond.methodLink RX6 36 yX6_copies, Cond.static yX6_copies, Cond.code yX6_copies cX6_copies 5 none, Cond.methodLink RX6 95 yX6_addsZone, Cond.instanceMethod yX6_addsZone, Cond.selects RX6 yX6_addsZone yX6_addsZone, Cond.code yX6_addsZone cX6_addsZone 6 none, Cond.methodLink RX6 89 yX6_laysZone, Cond.instanceMethod yX6_laysZone, Cond.selects RX6 yX6_laysZone yX6_laysZone, Cond.code yX6_laysZone cX6_laysZone 4 none, Cond.methodLink RL 18 yX5_like, Cond.instanceMethod yX5_like, Cond.selects RX5 yX5_like yX5_like, Cond.code yX5_like cX5_like 5 (some .int), Cond.methodLink RX5 65 yX4_has, Cond.instanceMethod yX4_has, Cond.selects RX4 yX4_has yX4_has]
def wsL_law_r8 : List Cond := [Cond.code yX4_has cX4_has 2 (some .boolean), Cond.methodLink RX5 69 yX2_shapeZone, Cond.methodLink RX5 73 yX4_rowsWith, Cond.instanceMethod yX4_rowsWith, Cond.selects RX4 yX4_rowsWith yX4_rowsWith, Cond.code yX4_rowsWith cX4_rowsWith 5 (some .int), Cond.methodLink RX4 24 yX4_get, Cond.instanceMethod yX4_get, Cond.selects RX4 yX4_get yX4_get, Cond.code yX4_get cX4_get 4 (some .int), Cond.methodLink RL 21 yX6_like, Cond.instanceMethod yX6_like, Cond.selects RX6 yX6_like yX6_like, Cond.code yX6_like cX6_like 7 (some .int), Cond.methodLink RX6 99 yX6_isZone, Cond.instanceMethod yX6_isZone, Cond.selects RX6 yX6_isZone yX6_isZone, Cond.code yX6_isZone cX6_isZone 2 (some .boolean), Cond.methodLink RX6 44 yX6_ofZone, Cond.instanceMethod yX6_ofZone, Cond.selects RX6 yX6_ofZone yX6_ofZone, Cond.code yX6_ofZone cX6_ofZone 3 (some .int), Cond.methodLink RL 22 yX5_takeZone, Cond.instanceMethod yX5_takeZone]
def wsL_law_r9 : List Cond := [Cond.selects RX5 yX5_takeZone yX5_takeZone, Cond.code yX5_takeZone cX5_takeZone 2 (some .int), Cond.methodLink RX5 77 yX2_dropZone, Cond.instanceMethod yX2_dropZone, Cond.selects RX2 yX2_dropZone yX2_dropZone, Cond.code yX2_dropZone cX2_dropZone 5 (some .int), Cond.methodLink RX2 70 yX4_rows, Cond.methodLink RX2 73 yX4_get, Cond.methodLink RX2 76 yX4_removeRow, Cond.instanceMethod yX4_removeRow, Cond.selects RX4 yX4_removeRow yX4_removeRow, Cond.code yX4_removeRow cX4_removeRow 3 none, Cond.methodLink RX4 20 yX4_has, Cond.methodLink RX2 80 yX2_grow, Cond.instanceMethod yX2_grow, Cond.selects RX2 yX2_grow yX2_grow, Cond.code yX2_grow cX2_grow 3 none, Cond.methodLink RX2 54 yX2_number, Cond.instanceMethod yX2_number, Cond.selects RX2 yX2_number yX2_number, Cond.code yX2_number cX2_number 2 (some .int), Cond.methodLink RL 26 yX6_takeZone, Cond.instanceMethod yX6_takeZone, Cond.selects RX6 yX6_takeZone yX6_takeZone]
def wsL_law_r10 : List Cond := [Cond.code yX6_takeZone cX6_takeZone 5 (some .int), Cond.methodLink RX6 55 yX6_of, Cond.instanceMethod yX6_of, Cond.selects RX6 yX6_of yX6_of, Cond.code yX6_of cX6_of 3 (some .int), Cond.methodLink RX6 62 yX6_dropsVoice, Cond.instanceMethod yX6_dropsVoice, Cond.selects RX6 yX6_dropsVoice yX6_dropsVoice, Cond.code yX6_dropsVoice cX6_dropsVoice 3 none, Cond.methodLink RX6 72 yX6_lays, Cond.instanceMethod yX6_lays, Cond.selects RX6 yX6_lays yX6_lays, Cond.code yX6_lays cX6_lays 4 none, Cond.methodLink RL 27 yX5_hit, Cond.instanceMethod yX5_hit, Cond.selects RX5 yX5_hit yX5_hit, Cond.code yX5_hit cX5_hit 3 (some .int), Cond.methodLink RX5 81 yX5_isNote, Cond.static yX5_isNote, Cond.code yX5_isNote cX5_isNote 2 (some .boolean), Cond.methodLink RX5 85 yX2_strike, Cond.instanceMethod yX2_strike, Cond.selects RX2 yX2_strike yX2_strike, Cond.code yX2_strike cX2_strike 5 (some .int)]
def wsL_law_r11 : List Cond := [Cond.methodLink RX2 90 yX2_moveHeld, Cond.instanceMethod yX2_moveHeld, Cond.selects RX2 yX2_moveHeld yX2_moveHeld, Cond.code yX2_moveHeld cX2_moveHeld 5 (some .int), Cond.methodLink RX2 87 yX2_sounds, Cond.instanceMethod yX2_sounds, Cond.selects RX2 yX2_sounds yX2_sounds, Cond.code yX2_sounds cX2_sounds 8 (some .boolean), Cond.methodLink RX2 83 yX2_matches, Cond.instanceMethod yX2_matches, Cond.selects RX2 yX2_matches yX2_matches, Cond.code yX2_matches cX2_matches 4 (some .boolean), Cond.methodLink RX2 93 yX2_begin, Cond.instanceMethod yX2_begin, Cond.selects RX2 yX2_begin yX2_begin, Cond.code yX2_begin cX2_begin 5 none, Cond.methodLink RX2 99 yX2_choke, Cond.instanceMethod yX2_choke, Cond.selects RX2 yX2_choke yX2_choke, Cond.code yX2_choke cX2_choke 4 none, Cond.methodLink RX2 102 yX2_stealDownTo, Cond.instanceMethod yX2_stealDownTo, Cond.selects RX2 yX2_stealDownTo yX2_stealDownTo, Cond.code yX2_stealDownTo cX2_stealDownTo 5 none]
def wsL_law_r12 : List Cond := [Cond.methodLink RX2 105 yX2_stealRank, Cond.instanceMethod yX2_stealRank, Cond.selects RX2 yX2_stealRank yX2_stealRank, Cond.code yX2_stealRank cX2_stealRank 2 (some .int), Cond.methodLink RX2 96 yX2_passTurns, Cond.instanceMethod yX2_passTurns, Cond.selects RX2 yX2_passTurns yX2_passTurns, Cond.code yX2_passTurns cX2_passTurns 6 none, Cond.methodLink RL 31 yX6_hit, Cond.instanceMethod yX6_hit, Cond.selects RX6 yX6_hit yX6_hit, Cond.code yX6_hit cX6_hit 3 (some .int), Cond.methodLink RX6 103 yX6_isNote, Cond.static yX6_isNote, Cond.code yX6_isNote cX6_isNote 2 (some .boolean), Cond.methodLink RX6 107 yX6_goHit, Cond.instanceMethod yX6_goHit, Cond.selects RX6 yX6_goHit yX6_goHit, Cond.code yX6_goHit cX6_goHit 5 (some .int), Cond.fieldLink RX6 76 "ZoneSamplerModel" "firstZone" "I", Cond.methodLink RX6 79 yX6_isSounding, Cond.instanceMethod yX6_isSounding, Cond.selects RX6 yX6_isSounding yX6_isSounding, Cond.code yX6_isSounding cX6_isSounding 6 (some .boolean)]
def wsL_law_r13 : List Cond := [Cond.methodLink RX6 48 yX6_isAnswer, Cond.instanceMethod yX6_isAnswer, Cond.selects RX6 yX6_isAnswer yX6_isAnswer, Cond.code yX6_isAnswer cX6_isAnswer 4 (some .boolean), Cond.methodLink RX6 51 yX6_ofRobin, Cond.instanceMethod yX6_ofRobin, Cond.selects RX6 yX6_ofRobin yX6_ofRobin, Cond.code yX6_ofRobin cX6_ofRobin 7 (some .int), Cond.methodLink RX6 82 yX6_begins, Cond.instanceMethod yX6_begins, Cond.selects RX6 yX6_begins yX6_begins, Cond.code yX6_begins cX6_begins 5 none, Cond.methodLink RX6 66 yX6_chokes, Cond.instanceMethod yX6_chokes, Cond.selects RX6 yX6_chokes yX6_chokes, Cond.code yX6_chokes cX6_chokes 4 none, Cond.methodLink RX6 69 yX6_steals, Cond.instanceMethod yX6_steals, Cond.selects RX6 yX6_steals yX6_steals, Cond.code yX6_steals cX6_steals 3 none, Cond.methodLink RX6 58 yX6_soon, Cond.instanceMethod yX6_soon, Cond.selects RX6 yX6_soon yX6_soon, Cond.code yX6_soon cX6_soon 2 (some .int)]
def wsL_law_r14 : List Cond := [Cond.methodLink RL 32 yX5_letGo, Cond.instanceMethod yX5_letGo, Cond.selects RX5 yX5_letGo yX5_letGo, Cond.code yX5_letGo cX5_letGo 2 (some .int), Cond.methodLink RX5 88 yX2_release, Cond.instanceMethod yX2_release, Cond.selects RX2 yX2_release yX2_release, Cond.code yX2_release cX2_release 2 (some .int), Cond.methodLink RL 35 yX6_letGo, Cond.instanceMethod yX6_letGo, Cond.selects RX6 yX6_letGo yX6_letGo, Cond.code yX6_letGo cX6_letGo 2 (some .int), Cond.methodLink RX6 110 yX6_goLet, Cond.instanceMethod yX6_goLet, Cond.selects RX6 yX6_goLet yX6_goLet, Cond.code yX6_goLet cX6_goLet 5 (some .int), Cond.methodLink RL 36 yX5_pedal, Cond.instanceMethod yX5_pedal, Cond.selects RX5 yX5_pedal yX5_pedal, Cond.code yX5_pedal cX5_pedal 1 (some .int), Cond.methodLink RX5 91 yX2_tread, Cond.instanceMethod yX2_tread, Cond.selects RX2 yX2_tread yX2_tread, Cond.code yX2_tread cX2_tread 3 (some .int)]
def wsL_law_r15 : List Cond := [Cond.methodLink RL 40 yX6_pedal, Cond.instanceMethod yX6_pedal, Cond.selects RX6 yX6_pedal yX6_pedal, Cond.code yX6_pedal cX6_pedal 1 (some .int), Cond.methodLink RX6 113 yX6_goPedal, Cond.instanceMethod yX6_goPedal, Cond.selects RX6 yX6_goPedal yX6_goPedal, Cond.code yX6_goPedal cX6_goPedal 3 (some .int), Cond.methodLink RL 41 yX5_pass, Cond.instanceMethod yX5_pass, Cond.selects RX5 yX5_pass yX5_pass, Cond.code yX5_pass cX5_pass 2 (some .int), Cond.methodLink RX5 94 yX2_runTicks, Cond.instanceMethod yX2_runTicks, Cond.selects RX2 yX2_runTicks yX2_runTicks, Cond.code yX2_runTicks cX2_runTicks 5 (some .int), Cond.methodLink RX2 108 yX2_wear, Cond.instanceMethod yX2_wear, Cond.selects RX2 yX2_wear yX2_wear, Cond.code yX2_wear cX2_wear 4 none, Cond.methodLink RX2 111 yX2_fadeOf, Cond.instanceMethod yX2_fadeOf, Cond.selects RX2 yX2_fadeOf yX2_fadeOf, Cond.code yX2_fadeOf cX2_fadeOf 2 (some .int)]
def wsL_law_r16 : List Cond := [Cond.methodLink RL 44 yX6_pass, Cond.instanceMethod yX6_pass, Cond.selects RX6 yX6_pass yX6_pass, Cond.code yX6_pass cX6_pass 2 (some .int), Cond.methodLink RX6 116 yX6_goPass, Cond.instanceMethod yX6_goPass, Cond.selects RX6 yX6_goPass yX6_goPass, Cond.code yX6_goPass cX6_goPass 4 (some .int), Cond.methodLink RX6 85 yX6_tick, Cond.instanceMethod yX6_tick, Cond.selects RX6 yX6_tick yX6_tick, Cond.code yX6_tick cX6_tick 3 (some .int), Cond.methodLink RL 45 yX5_silence, Cond.instanceMethod yX5_silence, Cond.selects RX5 yX5_silence yX5_silence, Cond.code yX5_silence cX5_silence 1 (some .int), Cond.methodLink RX5 97 yX2_stopAll, Cond.instanceMethod yX2_stopAll, Cond.selects RX2 yX2_stopAll yX2_stopAll, Cond.code yX2_stopAll cX2_stopAll 2 (some .int), Cond.methodLink RX2 117 yX4_removeAll, Cond.instanceMethod yX4_removeAll, Cond.selects RX4 yX4_removeAll yX4_removeAll, Cond.code yX4_removeAll cX4_removeAll 1 none]
def wsL_law_r17 : List Cond := [Cond.methodLink RL 48 yX6_silence, Cond.instanceMethod yX6_silence, Cond.selects RX6 yX6_silence yX6_silence, Cond.code yX6_silence cX6_silence 2 (some .int), Cond.methodLink RL 49 yX5_set, Cond.instanceMethod yX5_set, Cond.selects RX5 yX5_set yX5_set, Cond.code yX5_set cX5_set 4 (some .int), Cond.methodLink RX5 100 yX5_isSetting, Cond.static yX5_isSetting, Cond.code yX5_isSetting cX5_isSetting 2 (some .boolean), Cond.methodLink RX5 103 yX2_number, Cond.methodLink RX5 106 yX2_putNumber, Cond.methodLink RX5 110 yX2_stealDownTo, Cond.methodLink RL 52 yX6_set, Cond.instanceMethod yX6_set, Cond.selects RX6 yX6_set yX6_set, Cond.code yX6_set cX6_set 4 (some .int), Cond.methodLink RX6 119 yX6_leastOf, Cond.static yX6_leastOf, Cond.code yX6_leastOf cX6_leastOf 1 (some .int), Cond.methodLink RX6 122 yX6_mostOf, Cond.static yX6_mostOf, Cond.code yX6_mostOf cX6_mostOf 1 (some .int)]
def wsL_law_r18 : List Cond := [Cond.methodLink RL 53 yX5_append, Cond.instanceMethod yX5_append, Cond.selects RX5 yX5_append yX5_append, Cond.code yX5_append cX5_append 2 (some .int), Cond.methodLink RX5 114 yX1_length, Cond.instanceMethod yX1_length, Cond.selects RX1 yX1_length yX1_length, Cond.code yX1_length cX1_length 1 (some .int), Cond.fieldLink RX1 15 "ZoneSampler$Pad" "length" "I", Cond.methodLink RX5 117 yX1_add, Cond.instanceMethod yX1_add, Cond.selects RX1 yX1_add yX1_add, Cond.code yX1_add cX1_add 2 none, Cond.methodLink RL 56 yX6_append, Cond.instanceMethod yX6_append, Cond.selects RX6 yX6_append yX6_append, Cond.code yX6_append cX6_append 2 (some .int), Cond.fieldLink RX6 125 "ZoneSamplerModel" "length" "I", Cond.methodLink RL 57 yX5_clear, Cond.instanceMethod yX5_clear, Cond.selects RX5 yX5_clear yX5_clear, Cond.code yX5_clear cX5_clear 2 (some .int), Cond.methodLink RX5 121 yX1_empty, Cond.instanceMethod yX1_empty]
def wsL_law_r19 : List Cond := [Cond.selects RX1 yX1_empty yX1_empty, Cond.code yX1_empty cX1_empty 1 none, Cond.methodLink RL 60 yX6_clear, Cond.instanceMethod yX6_clear, Cond.selects RX6 yX6_clear yX6_clear, Cond.code yX6_clear cX6_clear 2 (some .int), Cond.methodLink RL 61 yX5_fault, Cond.instanceMethod yX5_fault, Cond.selects RX5 yX5_fault yX5_fault, Cond.code yX5_fault cX5_fault 2 (some .int), Cond.methodLink RX5 124 yX1_faultAs, Cond.instanceMethod yX1_faultAs, Cond.selects RX1 yX1_faultAs yX1_faultAs, Cond.code yX1_faultAs cX1_faultAs 5 (some .int), Cond.fieldLink RX1 19 "ZoneSampler$Pad" "at" "I", Cond.methodLink RX1 22 yX1_rewind, Cond.instanceMethod yX1_rewind, Cond.selects RX1 yX1_rewind yX1_rewind, Cond.code yX1_rewind cX1_rewind 1 none, Cond.methodLink RX1 25 yX1_items, Cond.instanceMethod yX1_items, Cond.selects RX1 yX1_items yX1_items, Cond.code yX1_items cX1_items 3 (some .int), Cond.methodLink RX1 29 yX1_readZone]
def wsL_law_r20 : List Cond := [Cond.instanceMethod yX1_readZone, Cond.selects RX1 yX1_readZone yX1_readZone, Cond.code yX1_readZone cX1_readZone 2 (some .boolean), Cond.fieldLink RX1 47 "ZoneSampler$Pad" "value" "I", Cond.fieldLink RX1 50 "ZoneSampler$Pad" "low" "I", Cond.fieldLink RX1 53 "ZoneSampler$Pad" "high" "I", Cond.fieldLink RX1 56 "ZoneSampler$Pad" "softest" "I", Cond.fieldLink RX1 59 "ZoneSampler$Pad" "hardest" "I", Cond.fieldLink RX1 62 "ZoneSampler$Pad" "lasting" "I", Cond.fieldLink RX1 68 "ZoneSampler$Pad" "group" "I", Cond.fieldLink RX1 71 "ZoneSampler$Pad" "robin" "I", Cond.methodLink RX1 43 yX1_readNumber, Cond.instanceMethod yX1_readNumber, Cond.selects RX1 yX1_readNumber yX1_readNumber, Cond.code yX1_readNumber cX1_readNumber 8 (some .boolean), Cond.methodLink RX1 40 yX1_sign, Cond.instanceMethod yX1_sign, Cond.selects RX1 yX1_sign yX1_sign, Cond.code yX1_sign cX1_sign 1 (some .int), Cond.methodLink RX1 89 yX1_canBegin, Cond.static yX1_canBegin, Cond.code yX1_canBegin cX1_canBegin 5 (some .boolean), Cond.methodLink RX1 36 yX1_readSign, Cond.instanceMethod yX1_readSign]
def wsL_law_r21 : List Cond := [Cond.selects RX1 yX1_readSign yX1_readSign, Cond.code yX1_readSign cX1_readSign 3 (some .boolean), Cond.methodLink RX1 65 yX1_readMark, Cond.instanceMethod yX1_readMark, Cond.selects RX1 yX1_readMark yX1_readMark, Cond.code yX1_readMark cX1_readMark 3 (some .boolean), Cond.methodLink RX1 33 yX1_readDeed, Cond.instanceMethod yX1_readDeed, Cond.selects RX1 yX1_readDeed yX1_readDeed, Cond.code yX1_readDeed cX1_readDeed 1 (some .boolean), Cond.fieldLink RX1 74 "ZoneSampler$Pad" "deed" "I", Cond.methodLink RX1 77 yX1_readDeedKey, Cond.instanceMethod yX1_readDeedKey, Cond.selects RX1 yX1_readDeedKey yX1_readDeedKey, Cond.code yX1_readDeedKey cX1_readDeedKey 2 (some .boolean), Cond.fieldLink RX1 83 "ZoneSampler$Pad" "deedKey" "I", Cond.methodLink RX1 80 yX1_readAmount, Cond.instanceMethod yX1_readAmount, Cond.selects RX1 yX1_readAmount yX1_readAmount, Cond.code yX1_readAmount cX1_readAmount 3 (some .boolean), Cond.fieldLink RX1 86 "ZoneSampler$Pad" "amount" "I", Cond.methodLink RL 64 yX6_fault, Cond.instanceMethod yX6_fault, Cond.selects RX6 yX6_fault yX6_fault]
def wsL_law_r22 : List Cond := [Cond.code yX6_fault cX6_fault 2 (some .int), Cond.fieldLink RX6 128 "ZoneSamplerModel" "spot" "I", Cond.methodLink RX6 172 yX6_areZones, Cond.instanceMethod yX6_areZones, Cond.selects RX6 yX6_areZones yX6_areZones, Cond.code yX6_areZones cX6_areZones 1 (some .boolean), Cond.fieldLink RX6 131 "ZoneSamplerModel" "isForm" "Z", Cond.fieldLink RX6 148 "ZoneSamplerModel" "reads" "I", Cond.methodLink RX6 157 yX6_takesZone, Cond.instanceMethod yX6_takesZone, Cond.selects RX6 yX6_takesZone yX6_takesZone, Cond.code yX6_takesZone cX6_takesZone 2 none, Cond.methodLink RX6 151 yX6_takesRange, Cond.instanceMethod yX6_takesRange, Cond.selects RX6 yX6_takesRange yX6_takesRange, Cond.code yX6_takesRange cX6_takesRange 4 none, Cond.methodLink RX6 145 yX6_takesNumber, Cond.instanceMethod yX6_takesNumber, Cond.selects RX6 yX6_takesNumber yX6_takesNumber, Cond.code yX6_takesNumber cX6_takesNumber 5 (some .int), Cond.methodLink RX6 135 yX6_here, Cond.instanceMethod yX6_here, Cond.selects RX6 yX6_here yX6_here, Cond.code yX6_here cX6_here 1 (some .int)]
def wsL_law_r23 : List Cond := [Cond.methodLink RX6 138 yX6_canBegin, Cond.static yX6_canBegin, Cond.code yX6_canBegin cX6_canBegin 5 (some .boolean), Cond.methodLink RX6 141 yX6_takes, Cond.instanceMethod yX6_takes, Cond.selects RX6 yX6_takes yX6_takes, Cond.code yX6_takes cX6_takes 2 none, Cond.methodLink RX6 154 yX6_takesMark, Cond.instanceMethod yX6_takesMark, Cond.selects RX6 yX6_takesMark yX6_takesMark, Cond.code yX6_takesMark cX6_takesMark 3 (some .int), Cond.methodLink RX6 176 yX6_isScore, Cond.instanceMethod yX6_isScore, Cond.selects RX6 yX6_isScore yX6_isScore, Cond.code yX6_isScore cX6_isScore 1 (some .boolean), Cond.methodLink RX6 169 yX6_takesDeed, Cond.instanceMethod yX6_takesDeed, Cond.selects RX6 yX6_takesDeed yX6_takesDeed, Cond.code yX6_takesDeed cX6_takesDeed 1 none, Cond.fieldLink RX6 160 "ZoneSamplerModel" "letter" "I", Cond.fieldLink RX6 163 "ZoneSamplerModel" "first" "I", Cond.fieldLink RX6 166 "ZoneSamplerModel" "second" "I", Cond.methodLink RL 65 yX5_load, Cond.instanceMethod yX5_load]
def wsL_law_r24 : List Cond := [Cond.selects RX5 yX5_load yX5_load, Cond.code yX5_load cX5_load 4 (some .int), Cond.methodLink RX5 127 yX1_items, Cond.methodLink RX5 130 yX1_rewind, Cond.methodLink RX5 133 yX1_readZone, Cond.methodLink RX5 159 yX1_readSign, Cond.methodLink RL 68 yX6_load, Cond.instanceMethod yX6_load, Cond.selects RX6 yX6_load yX6_load, Cond.code yX6_load cX6_load 3 (some .int), Cond.methodLink RL 69 yX5_play, Cond.instanceMethod yX5_play, Cond.selects RX5 yX5_play yX5_play, Cond.code yX5_play cX5_play 4 (some .int), Cond.methodLink RX5 162 yX1_readDeed, Cond.methodLink RX5 165 yX5_doDeed, Cond.instanceMethod yX5_doDeed, Cond.selects RX5 yX5_doDeed yX5_doDeed, Cond.code yX5_doDeed cX5_doDeed 1 none, Cond.methodLink RL 72 yX6_play, Cond.instanceMethod yX6_play, Cond.selects RX6 yX6_play yX6_play, Cond.code yX6_play cX6_play 2 (some .int), Cond.methodLink RX6 179 yX6_doesDeed]
def wsL_law_r25 : List Cond := [Cond.instanceMethod yX6_doesDeed, Cond.selects RX6 yX6_doesDeed yX6_doesDeed, Cond.code yX6_doesDeed cX6_doesDeed 5 none, Cond.methodLink RL 73 yX5_zoneOf, Cond.instanceMethod yX5_zoneOf, Cond.selects RX5 yX5_zoneOf yX5_zoneOf, Cond.code yX5_zoneOf cX5_zoneOf 3 (some .int), Cond.methodLink RX5 171 yX2_canSound, Cond.instanceMethod yX2_canSound, Cond.selects RX2 yX2_canSound yX2_canSound, Cond.code yX2_canSound cX2_canSound 4 (some .boolean), Cond.methodLink RX5 174 yX4_get, Cond.methodLink RL 76 yX6_zoneOf, Cond.instanceMethod yX6_zoneOf, Cond.selects RX6 yX6_zoneOf yX6_zoneOf, Cond.code yX6_zoneOf cX6_zoneOf 3 (some .int), Cond.methodLink RX6 182 yX6_voicesOf, Cond.instanceMethod yX6_voicesOf, Cond.selects RX6 yX6_voicesOf yX6_voicesOf, Cond.code yX6_voicesOf cX6_voicesOf 4 (some .int), Cond.methodLink RX6 185 yX6_canSound, Cond.instanceMethod yX6_canSound, Cond.selects RX6 yX6_canSound yX6_canSound, Cond.code yX6_canSound cX6_canSound 5 (some .boolean)]
def wsL_law_r26 : List Cond := [Cond.methodLink RL 77 yX5_voice, Cond.instanceMethod yX5_voice, Cond.selects RX5 yX5_voice yX5_voice, Cond.code yX5_voice cX5_voice 3 (some .int), Cond.methodLink RX5 177 yX2_stealPlace, Cond.instanceMethod yX2_stealPlace, Cond.selects RX2 yX2_stealPlace yX2_stealPlace, Cond.code yX2_stealPlace cX2_stealPlace 6 (some .int), Cond.methodLink RL 80 yX6_voice, Cond.instanceMethod yX6_voice, Cond.selects RX6 yX6_voice yX6_voice, Cond.code yX6_voice cX6_voice 3 (some .int), Cond.methodLink RX6 188 yX6_rankOf, Cond.instanceMethod yX6_rankOf, Cond.selects RX6 yX6_rankOf yX6_rankOf, Cond.code yX6_rankOf cX6_rankOf 4 (some .int), Cond.methodLink RL 81 yX5_answers, Cond.instanceMethod yX5_answers, Cond.selects RX5 yX5_answers yX5_answers, Cond.code yX5_answers cX5_answers 3 (some .int), Cond.methodLink RX5 180 yX2_matching, Cond.instanceMethod yX2_matching, Cond.selects RX2 yX2_matching yX2_matching, Cond.code yX2_matching cX2_matching 5 (some .int)]
def wsL_law_r27 : List Cond := [Cond.methodLink RL 84 yX6_answers, Cond.instanceMethod yX6_answers, Cond.selects RX6 yX6_answers yX6_answers, Cond.code yX6_answers cX6_answers 3 (some .int), Cond.methodLink RX6 191 yX6_answering, Cond.instanceMethod yX6_answering, Cond.selects RX6 yX6_answering yX6_answering, Cond.code yX6_answering cX6_answering 5 (some .int), Cond.methodLink RL 85 yX5_map, Cond.instanceMethod yX5_map, Cond.selects RX5 yX5_map yX5_map, Cond.code yX5_map cX5_map 3 (some .int), Cond.methodLink RX5 183 yX3_goByPlaces, Cond.instanceMethod yX3_goByPlaces, Cond.selects RX3 yX3_goByPlaces yX3_goByPlaces, Cond.code yX3_goByPlaces cX3_goByPlaces 4 none, Cond.methodLink RX3 28 yX3_start, Cond.instanceMethod yX3_start, Cond.selects RX3 yX3_start yX3_start, Cond.code yX3_start cX3_start 2 none, Cond.fieldLink RX3 15 "ZoneSampler$Survey" "holes" "I", Cond.fieldLink RX3 19 "ZoneSampler$Survey" "overlaps" "I", Cond.fieldLink RX3 22 "ZoneSampler$Survey" "deepest" "I", Cond.fieldLink RX3 25 "ZoneSampler$Survey" "firstHole" "I"]
def wsL_law_r28 : List Cond := [Cond.methodLink RX3 31 yX2_matching, Cond.methodLink RX3 37 yX3_see, Cond.instanceMethod yX3_see, Cond.selects RX3 yX3_see yX3_see, Cond.code yX3_see cX3_see 3 none, Cond.methodLink RX3 58 Lib.Math.max.name, Cond.static Lib.Math.max.name, Cond.code Lib.Math.max.name Lib.Math.max.code 2 (some .int), Cond.methodLink RX5 186 yX3_goByEdges, Cond.instanceMethod yX3_goByEdges, Cond.selects RX3 yX3_goByEdges yX3_goByEdges, Cond.code yX3_goByEdges cX3_goByEdges 4 none, Cond.methodLink RX3 45 yX4_rows, Cond.methodLink RX3 51 yX4_get, Cond.methodLink RX3 54 yX3_deepen, Cond.instanceMethod yX3_deepen, Cond.selects RX3 yX3_deepen yX3_deepen, Cond.code yX3_deepen cX3_deepen 5 none, Cond.methodLink RX5 189 yX3_finding, Cond.instanceMethod yX3_finding, Cond.selects RX3 yX3_finding yX3_finding, Cond.code yX3_finding cX3_finding 2 (some .int), Cond.methodLink RL 88 yX6_map, Cond.instanceMethod yX6_map]
def wsL_law_r29 : List Cond := [Cond.selects RX6 yX6_map yX6_map, Cond.code yX6_map cX6_map 10 (some .int), Cond.methodLink RL 89 yX5_count, Cond.instanceMethod yX5_count, Cond.selects RX5 yX5_count yX5_count, Cond.code yX5_count cX5_count 2 (some .int), Cond.methodLink RX5 192 yX4_sumOf, Cond.instanceMethod yX4_sumOf, Cond.selects RX4 yX4_sumOf yX4_sumOf, Cond.code yX4_sumOf cX4_sumOf 4 (some .int), Cond.methodLink RX5 199 yX0_size, Cond.instanceMethod yX0_size, Cond.selects RX0 yX0_size yX0_size, Cond.code yX0_size cX0_size 1 (some .int), Cond.methodLink RL 92 yX6_count, Cond.instanceMethod yX6_count, Cond.selects RX6 yX6_count yX6_count, Cond.code yX6_count cX6_count 2 (some .int), Cond.methodLink RX6 194 yX6_inState, Cond.instanceMethod yX6_inState, Cond.selects RX6 yX6_inState yX6_inState, Cond.code yX6_inState cX6_inState 4 (some .int), Cond.methodLink RX6 197 yX6_allLoud, Cond.instanceMethod yX6_allLoud]
def wsL_law_r30 : List Cond := [Cond.selects RX6 yX6_allLoud yX6_allLoud, Cond.code yX6_allLoud cX6_allLoud 3 (some .int), Cond.methodLink RL 93 yX5_loudness, Cond.instanceMethod yX5_loudness, Cond.selects RX5 yX5_loudness yX5_loudness, Cond.code yX5_loudness cX5_loudness 2 (some .double), Cond.methodLink RL 97 yX6_loudness, Cond.instanceMethod yX6_loudness, Cond.selects RX6 yX6_loudness yX6_loudness, Cond.code yX6_loudness cX6_loudness 1 (some .double), Cond.methodLink RL 98 yX5_ifHit, Cond.instanceMethod yX5_ifHit, Cond.selects RX5 yX5_ifHit yX5_ifHit, Cond.code yX5_ifHit cX5_ifHit 5 (some .int), Cond.methodLink RX5 202 yX2_firstSounding, Cond.instanceMethod yX2_firstSounding, Cond.selects RX2 yX2_firstSounding yX2_firstSounding, Cond.code yX2_firstSounding cX2_firstSounding 4 (some .int), Cond.methodLink RX5 205 yX2_copyFrom, Cond.methodLink RL 102 yX6_ifHit, Cond.instanceMethod yX6_ifHit, Cond.selects RX6 yX6_ifHit yX6_ifHit, Cond.code yX6_ifHit cX6_ifHit 6 (some .int), Cond.methodLink RL 103 yX5_silentIn]
def wsL_law_r31 : List Cond := [Cond.instanceMethod yX5_silentIn, Cond.selects RX5 yX5_silentIn yX5_silentIn, Cond.code yX5_silentIn cX5_silentIn 3 (some .int), Cond.methodLink RX5 211 Lib.Math.max.name, Cond.methodLink RX5 208 yX2_ticksLeft, Cond.instanceMethod yX2_ticksLeft, Cond.selects RX2 yX2_ticksLeft yX2_ticksLeft, Cond.code yX2_ticksLeft cX2_ticksLeft 5 (some .int), Cond.methodLink RX2 114 Lib.Math.max.name, Cond.methodLink RL 106 yX6_silentIn, Cond.instanceMethod yX6_silentIn, Cond.selects RX6 yX6_silentIn yX6_silentIn, Cond.code yX6_silentIn cX6_silentIn 3 (some .int), Cond.methodLink RL 107 yX5_chord, Cond.instanceMethod yX5_chord, Cond.selects RX5 yX5_chord yX5_chord, Cond.code yX5_chord cX5_chord 6 (some .int), Cond.methodLink RX5 216 yX2_sounding, Cond.instanceMethod yX2_sounding, Cond.selects RX2 yX2_sounding yX2_sounding, Cond.code yX2_sounding cX2_sounding 5 (some .int), Cond.methodLink RL 110 yX6_chord, Cond.instanceMethod yX6_chord, Cond.selects RX6 yX6_chord yX6_chord]
def wsL_law_r32 : List Cond := [Cond.code yX6_chord cX6_chord 6 (some .int), Cond.methodLink RL 111 yX5_undo, Cond.instanceMethod yX5_undo, Cond.selects RX5 yX5_undo yX5_undo, Cond.code yX5_undo cX5_undo 1 (some .int), Cond.methodLink RX5 219 yX0_goBack, Cond.instanceMethod yX0_goBack, Cond.selects RX0 yX0_goBack yX0_goBack, Cond.code yX0_goBack cX0_goBack 2 none, Cond.methodLink RL 114 yX6_undo, Cond.instanceMethod yX6_undo, Cond.selects RX6 yX6_undo yX6_undo, Cond.code yX6_undo cX6_undo 1 (some .int), Cond.methodLink RL 115 yX5_save, Cond.instanceMethod yX5_save, Cond.selects RX5 yX5_save yX5_save, Cond.code yX5_save cX5_save 1 (some .int), Cond.fieldLink RX5 222 "ZoneSampler" "hasSnapshot" "Z", Cond.methodLink RL 118 yX6_save, Cond.instanceMethod yX6_save, Cond.selects RX6 yX6_save yX6_save, Cond.code yX6_save cX6_save 1 (some .int), Cond.fieldLink RX6 200 "ZoneSamplerModel" "isKept" "Z", Cond.methodLink RL 119 yX5_restore]
def wsL_law_r33 : List Cond := [Cond.instanceMethod yX5_restore, Cond.selects RX5 yX5_restore yX5_restore, Cond.code yX5_restore cX5_restore 1 (some .int), Cond.methodLink RL 122 yX6_restore, Cond.instanceMethod yX6_restore, Cond.selects RX6 yX6_restore yX6_restore, Cond.code yX6_restore cX6_restore 1 (some .int)]
def wsL_law : List Cond := (wsL_law_r1 ++ (wsL_law_r2 ++ (wsL_law_r3 ++ (wsL_law_r4 ++ (wsL_law_r5 ++ (wsL_law_r6 ++ (wsL_law_r7 ++ (wsL_law_r8 ++ (wsL_law_r9 ++ (wsL_law_r10 ++ (wsL_law_r11 ++ (wsL_law_r12 ++ (wsL_law_r13 ++ (wsL_law_r14 ++ (wsL_law_r15 ++ (wsL_law_r16 ++ (wsL_law_r17 ++ (wsL_law_r18 ++ (wsL_law_r19 ++ (wsL_law_r20 ++ (wsL_law_r21 ++ (wsL_law_r22 ++ (wsL_law_r23 ++ (wsL_law_r24 ++ (wsL_law_r25 ++ (wsL_law_r26 ++ (wsL_law_r27 ++ (wsL_law_r28 ++ (wsL_law_r29 ++ (wsL_law_r30 ++ (wsL_law_r31 ++ (wsL_law_r32 ++ wsL_law_r33)))))))))))))))))))))))))))))))) ++ wsX50 ++ wsX60 ++ wsX20 ++ wsX00 ++ wsX10 ++ wsX30 ++ wsX40 ++ ([] : List Cond)
theorem inJ9 : ∀ w ∈ wsJ90, w ∈ lw_tbl := by decide +kernel
theorem inJ10 : ∀ w ∈ wsJ100, w ∈ lw_tbl := by decide +kernel
set_option maxRecDepth 20000 in
theorem ggX0_init_X2_init : GoodIn wsX0_init wsX2_init := goodIn_r _ [13, 14, 2, 3, 15, 16, 17, 18, 19, 20, 21, 22, 23, 24, 25, 26, 27, 28, 29, 30, 6, 31, 42, 43, 44, 32, 33, 34, 35, 36] (by decide +kernel) (by decide +kernel)
set_option maxRecDepth 20000 in
theorem gX0_init_X2_init : GoodIn wsX0_init (wsX2_init) := ggX0_init_X2_init
theorem dX0_init_0 : decode cX0_init 0 = .ok (.aload_n 0, 1) := by decide +kernel
theorem dX0_init_1 : decode cX0_init 1 = .ok (.invokespecial 3, 3) := by decide +kernel
theorem dX0_init_4 : decode cX0_init 4 = .ok (.aload_n 0, 1) := by decide +kernel
theorem dX0_init_5 : decode cX0_init 5 = .ok (.new 9, 3) := by decide +kernel
theorem dX0_init_8 : decode cX0_init 8 = .ok (.dup, 1) := by decide +kernel
theorem dX0_init_9 : decode cX0_init 9 = .ok (.invokespecial 11, 3) := by decide +kernel
theorem dX0_init_12 : decode cX0_init 12 = .ok (.putfield 12, 3) := by decide +kernel
theorem dX0_init_15 : decode cX0_init 15 = .ok (.aload_n 0, 1) := by decide +kernel
theorem dX0_init_16 : decode cX0_init 16 = .ok (.new 9, 3) := by decide +kernel
theorem dX0_init_19 : decode cX0_init 19 = .ok (.dup, 1) := by decide +kernel
theorem dX0_init_20 : decode cX0_init 20 = .ok (.invokespecial 11, 3) := by decide +kernel
theorem dX0_init_23 : decode cX0_init 23 = .ok (.putfield 18, 3) := by decide +kernel
theorem dX0_init_26 : decode cX0_init 26 = .ok (.aload_n 0, 1) := by decide +kernel
theorem dX0_init_27 : decode cX0_init 27 = .ok (.new 9, 3) := by decide +kernel
theorem dX0_init_30 : decode cX0_init 30 = .ok (.dup, 1) := by decide +kernel
theorem dX0_init_31 : decode cX0_init 31 = .ok (.invokespecial 11, 3) := by decide +kernel
theorem dX0_init_34 : decode cX0_init 34 = .ok (.putfield 21, 3) := by decide +kernel
theorem dX0_init_37 : decode cX0_init 37 = .ok (.aload_n 0, 1) := by decide +kernel
theorem dX0_init_38 : decode cX0_init 38 = .ok (.new 9, 3) := by decide +kernel
theorem dX0_init_41 : decode cX0_init 41 = .ok (.dup, 1) := by decide +kernel
theorem dX0_init_42 : decode cX0_init 42 = .ok (.invokespecial 11, 3) := by decide +kernel
theorem dX0_init_45 : decode cX0_init 45 = .ok (.putfield 24, 3) := by decide +kernel
theorem dX0_init_48 : decode cX0_init 48 = .ok (.return_, 1) := by decide +kernel
theorem dX0_size_0 : decode cX0_size 0 = .ok (.aload_n 0, 1) := by decide +kernel
theorem dX0_size_1 : decode cX0_size 1 = .ok (.getfield 27, 3) := by decide +kernel
theorem dX0_size_4 : decode cX0_size 4 = .ok (.ireturn, 1) := by decide +kernel
set_option maxRecDepth 20000 in
theorem ggX0_record_X0_stateAt : GoodIn wsX0_record wsX0_stateAt := goodIn_r _ [10, 2, 3, 4, 5, 38, 39, 40, 41, 42] (by decide +kernel) (by decide +kernel)
set_option maxRecDepth 20000 in
theorem gX0_record_X0_stateAt : GoodIn wsX0_record (wsV RX0 31 RX0 yX0_stateAt wsX0_stateAt) := goodIn_app (goodIn_of _ (by decide +kernel)) ggX0_record_X0_stateAt
set_option maxRecDepth 20000 in
theorem ggX0_record_X2_copyFrom : GoodIn wsX0_record wsX2_copyFrom := goodIn_r _ [15, 16, 17, 18, 19, 20, 21, 22, 23, 24, 25, 26, 27, 28, 29, 30, 31, 32, 33, 34, 35, 36, 37, 43, 44, 45, 46, 47, 48, 49, 50] (by decide +kernel) (by decide +kernel)
set_option maxRecDepth 20000 in
theorem gX0_record_X2_copyFrom : GoodIn wsX0_record (wsV RX0 35 RX2 yX2_copyFrom wsX2_copyFrom) := goodIn_app (goodIn_of _ (by decide +kernel)) ggX0_record_X2_copyFrom
theorem dX0_record_0 : decode cX0_record 0 = .ok (.aload_n 0, 1) := by decide +kernel
theorem dX0_record_1 : decode cX0_record 1 = .ok (.getfield 27, 3) := by decide +kernel
theorem dX0_record_4 : decode cX0_record 4 = .ok (.iconst 4, 1) := by decide +kernel
theorem dX0_record_5 : decode cX0_record 5 = .ok (.if_icmp .lt 47, 3) := by decide +kernel
theorem dX0_record_8 : decode cX0_record 8 = .ok (.aload_n 0, 1) := by decide +kernel
theorem dX0_record_9 : decode cX0_record 9 = .ok (.getfield 12, 3) := by decide +kernel
theorem dX0_record_12 : decode cX0_record 12 = .ok (.astore_n 2, 1) := by decide +kernel
theorem dX0_record_13 : decode cX0_record 13 = .ok (.aload_n 0, 1) := by decide +kernel
theorem dX0_record_14 : decode cX0_record 14 = .ok (.aload_n 0, 1) := by decide +kernel
theorem dX0_record_15 : decode cX0_record 15 = .ok (.getfield 18, 3) := by decide +kernel
theorem dX0_record_18 : decode cX0_record 18 = .ok (.putfield 12, 3) := by decide +kernel
theorem dX0_record_21 : decode cX0_record 21 = .ok (.aload_n 0, 1) := by decide +kernel
theorem dX0_record_22 : decode cX0_record 22 = .ok (.aload_n 0, 1) := by decide +kernel
theorem dX0_record_23 : decode cX0_record 23 = .ok (.getfield 21, 3) := by decide +kernel
theorem dX0_record_26 : decode cX0_record 26 = .ok (.putfield 18, 3) := by decide +kernel
theorem dX0_record_29 : decode cX0_record 29 = .ok (.aload_n 0, 1) := by decide +kernel
theorem dX0_record_30 : decode cX0_record 30 = .ok (.aload_n 0, 1) := by decide +kernel
theorem dX0_record_31 : decode cX0_record 31 = .ok (.getfield 24, 3) := by decide +kernel
theorem dX0_record_34 : decode cX0_record 34 = .ok (.putfield 21, 3) := by decide +kernel
theorem dX0_record_37 : decode cX0_record 37 = .ok (.aload_n 0, 1) := by decide +kernel
theorem dX0_record_38 : decode cX0_record 38 = .ok (.aload_n 2, 1) := by decide +kernel
theorem dX0_record_39 : decode cX0_record 39 = .ok (.putfield 24, 3) := by decide +kernel
theorem dX0_record_42 : decode cX0_record 42 = .ok (.aload_n 0, 1) := by decide +kernel
theorem dX0_record_43 : decode cX0_record 43 = .ok (.dup, 1) := by decide +kernel
theorem dX0_record_44 : decode cX0_record 44 = .ok (.getfield 27, 3) := by decide +kernel
theorem dX0_record_47 : decode cX0_record 47 = .ok (.iconst 1, 1) := by decide +kernel
theorem dX0_record_48 : decode cX0_record 48 = .ok (.isub, 1) := by decide +kernel
theorem dX0_record_49 : decode cX0_record 49 = .ok (.putfield 27, 3) := by decide +kernel
theorem dX0_record_52 : decode cX0_record 52 = .ok (.aload_n 0, 1) := by decide +kernel
theorem dX0_record_53 : decode cX0_record 53 = .ok (.aload_n 0, 1) := by decide +kernel
theorem dX0_record_54 : decode cX0_record 54 = .ok (.getfield 27, 3) := by decide +kernel
theorem dX0_record_57 : decode cX0_record 57 = .ok (.invokevirtual 31, 3) := by decide +kernel
theorem dX0_record_60 : decode cX0_record 60 = .ok (.aload_n 1, 1) := by decide +kernel
theorem dX0_record_61 : decode cX0_record 61 = .ok (.invokevirtual 35, 3) := by decide +kernel
theorem dX0_record_64 : decode cX0_record 64 = .ok (.aload_n 0, 1) := by decide +kernel
theorem dX0_record_65 : decode cX0_record 65 = .ok (.dup, 1) := by decide +kernel
theorem dX0_record_66 : decode cX0_record 66 = .ok (.getfield 27, 3) := by decide +kernel
theorem dX0_record_69 : decode cX0_record 69 = .ok (.iconst 1, 1) := by decide +kernel
theorem dX0_record_70 : decode cX0_record 70 = .ok (.iadd, 1) := by decide +kernel
theorem dX0_record_71 : decode cX0_record 71 = .ok (.putfield 27, 3) := by decide +kernel
theorem dX0_record_74 : decode cX0_record 74 = .ok (.return_, 1) := by decide +kernel
set_option maxRecDepth 20000 in
theorem ggX0_goBack_X0_stateAt : GoodIn wsX0_goBack wsX0_stateAt := goodIn_r _ [6, 7, 8, 9, 10, 38, 39, 40, 41, 42] (by decide +kernel) (by decide +kernel)
set_option maxRecDepth 20000 in
theorem gX0_goBack_X0_stateAt : GoodIn wsX0_goBack (wsV RX0 31 RX0 yX0_stateAt wsX0_stateAt) := goodIn_app (goodIn_of _ (by decide +kernel)) ggX0_goBack_X0_stateAt
set_option maxRecDepth 20000 in
theorem ggX0_goBack_X2_copyFrom : GoodIn wsX0_goBack wsX2_copyFrom := goodIn_r _ [15, 16, 17, 18, 19, 20, 21, 22, 23, 24, 25, 26, 27, 28, 29, 30, 31, 32, 33, 34, 35, 36, 37, 43, 44, 45, 46, 47, 48, 49, 50] (by decide +kernel) (by decide +kernel)
set_option maxRecDepth 20000 in
theorem gX0_goBack_X2_copyFrom : GoodIn wsX0_goBack (wsV RX0 35 RX2 yX2_copyFrom wsX2_copyFrom) := goodIn_app (goodIn_of _ (by decide +kernel)) ggX0_goBack_X2_copyFrom
theorem dX0_goBack_0 : decode cX0_goBack 0 = .ok (.aload_n 0, 1) := by decide +kernel
theorem dX0_goBack_1 : decode cX0_goBack 1 = .ok (.getfield 27, 3) := by decide +kernel
theorem dX0_goBack_4 : decode cX0_goBack 4 = .ok (.ifCond .le 25, 3) := by decide +kernel
theorem dX0_goBack_7 : decode cX0_goBack 7 = .ok (.aload_n 0, 1) := by decide +kernel
theorem dX0_goBack_8 : decode cX0_goBack 8 = .ok (.dup, 1) := by decide +kernel
theorem dX0_goBack_9 : decode cX0_goBack 9 = .ok (.getfield 27, 3) := by decide +kernel
theorem dX0_goBack_12 : decode cX0_goBack 12 = .ok (.iconst 1, 1) := by decide +kernel
theorem dX0_goBack_13 : decode cX0_goBack 13 = .ok (.isub, 1) := by decide +kernel
theorem dX0_goBack_14 : decode cX0_goBack 14 = .ok (.putfield 27, 3) := by decide +kernel
theorem dX0_goBack_17 : decode cX0_goBack 17 = .ok (.aload_n 1, 1) := by decide +kernel
theorem dX0_goBack_18 : decode cX0_goBack 18 = .ok (.aload_n 0, 1) := by decide +kernel
theorem dX0_goBack_19 : decode cX0_goBack 19 = .ok (.aload_n 0, 1) := by decide +kernel
theorem dX0_goBack_20 : decode cX0_goBack 20 = .ok (.getfield 27, 3) := by decide +kernel
theorem dX0_goBack_23 : decode cX0_goBack 23 = .ok (.invokevirtual 31, 3) := by decide +kernel
theorem dX0_goBack_26 : decode cX0_goBack 26 = .ok (.invokevirtual 35, 3) := by decide +kernel
theorem dX0_goBack_29 : decode cX0_goBack 29 = .ok (.return_, 1) := by decide +kernel
theorem dX0_stateAt_0 : decode cX0_stateAt 0 = .ok (.iload_n 1, 1) := by decide +kernel
theorem dX0_stateAt_1 : decode cX0_stateAt 1 = .ok (.tableswitch 42 0 2 #[27, 32, 37], 27) := by decide +kernel
theorem dX0_stateAt_28 : decode cX0_stateAt 28 = .ok (.aload_n 0, 1) := by decide +kernel
theorem dX0_stateAt_29 : decode cX0_stateAt 29 = .ok (.getfield 12, 3) := by decide +kernel
theorem dX0_stateAt_32 : decode cX0_stateAt 32 = .ok (.areturn, 1) := by decide +kernel
theorem dX0_stateAt_33 : decode cX0_stateAt 33 = .ok (.aload_n 0, 1) := by decide +kernel
theorem dX0_stateAt_34 : decode cX0_stateAt 34 = .ok (.getfield 18, 3) := by decide +kernel
theorem dX0_stateAt_37 : decode cX0_stateAt 37 = .ok (.areturn, 1) := by decide +kernel
theorem dX0_stateAt_38 : decode cX0_stateAt 38 = .ok (.aload_n 0, 1) := by decide +kernel
theorem dX0_stateAt_39 : decode cX0_stateAt 39 = .ok (.getfield 21, 3) := by decide +kernel
theorem dX0_stateAt_42 : decode cX0_stateAt 42 = .ok (.areturn, 1) := by decide +kernel
theorem dX0_stateAt_43 : decode cX0_stateAt 43 = .ok (.aload_n 0, 1) := by decide +kernel
theorem dX0_stateAt_44 : decode cX0_stateAt 44 = .ok (.getfield 24, 3) := by decide +kernel
theorem dX0_stateAt_47 : decode cX0_stateAt 47 = .ok (.areturn, 1) := by decide +kernel
theorem dX1_init_0 : decode cX1_init 0 = .ok (.aload_n 0, 1) := by decide +kernel
theorem dX1_init_1 : decode cX1_init 1 = .ok (.invokespecial 3, 3) := by decide +kernel
theorem dX1_init_4 : decode cX1_init 4 = .ok (.aload_n 0, 1) := by decide +kernel
theorem dX1_init_5 : decode cX1_init 5 = .ok (.bipush 60, 2) := by decide +kernel
theorem dX1_init_7 : decode cX1_init 7 = .ok (.newarray .char, 2) := by decide +kernel
theorem dX1_init_9 : decode cX1_init 9 = .ok (.putfield 9, 3) := by decide +kernel
theorem dX1_init_12 : decode cX1_init 12 = .ok (.return_, 1) := by decide +kernel
theorem dX1_length_0 : decode cX1_length 0 = .ok (.aload_n 0, 1) := by decide +kernel
theorem dX1_length_1 : decode cX1_length 1 = .ok (.getfield 15, 3) := by decide +kernel
theorem dX1_length_4 : decode cX1_length 4 = .ok (.ireturn, 1) := by decide +kernel
theorem dX1_add_0 : decode cX1_add 0 = .ok (.aload_n 0, 1) := by decide +kernel
theorem dX1_add_1 : decode cX1_add 1 = .ok (.getfield 15, 3) := by decide +kernel
theorem dX1_add_4 : decode cX1_add 4 = .ok (.ifCond .lt 35, 3) := by decide +kernel
theorem dX1_add_7 : decode cX1_add 7 = .ok (.aload_n 0, 1) := by decide +kernel
theorem dX1_add_8 : decode cX1_add 8 = .ok (.getfield 15, 3) := by decide +kernel
theorem dX1_add_11 : decode cX1_add 11 = .ok (.aload_n 0, 1) := by decide +kernel
theorem dX1_add_12 : decode cX1_add 12 = .ok (.getfield 9, 3) := by decide +kernel
theorem dX1_add_15 : decode cX1_add 15 = .ok (.arraylength, 1) := by decide +kernel
theorem dX1_add_16 : decode cX1_add 16 = .ok (.if_icmp .ge 23, 3) := by decide +kernel
theorem dX1_add_19 : decode cX1_add 19 = .ok (.aload_n 0, 1) := by decide +kernel
theorem dX1_add_20 : decode cX1_add 20 = .ok (.getfield 9, 3) := by decide +kernel
theorem dX1_add_23 : decode cX1_add 23 = .ok (.aload_n 0, 1) := by decide +kernel
theorem dX1_add_24 : decode cX1_add 24 = .ok (.getfield 15, 3) := by decide +kernel
theorem dX1_add_27 : decode cX1_add 27 = .ok (.iload_n 1, 1) := by decide +kernel
theorem dX1_add_28 : decode cX1_add 28 = .ok (.castore, 1) := by decide +kernel
theorem dX1_add_29 : decode cX1_add 29 = .ok (.aload_n 0, 1) := by decide +kernel
theorem dX1_add_30 : decode cX1_add 30 = .ok (.dup, 1) := by decide +kernel
theorem dX1_add_31 : decode cX1_add 31 = .ok (.getfield 15, 3) := by decide +kernel
theorem dX1_add_34 : decode cX1_add 34 = .ok (.iconst 1, 1) := by decide +kernel
theorem dX1_add_35 : decode cX1_add 35 = .ok (.iadd, 1) := by decide +kernel
theorem dX1_add_36 : decode cX1_add 36 = .ok (.putfield 15, 3) := by decide +kernel
theorem dX1_add_39 : decode cX1_add 39 = .ok (.return_, 1) := by decide +kernel
theorem dX1_empty_0 : decode cX1_empty 0 = .ok (.aload_n 0, 1) := by decide +kernel
theorem dX1_empty_1 : decode cX1_empty 1 = .ok (.iconst 0, 1) := by decide +kernel
theorem dX1_empty_2 : decode cX1_empty 2 = .ok (.putfield 15, 3) := by decide +kernel
theorem dX1_empty_5 : decode cX1_empty 5 = .ok (.return_, 1) := by decide +kernel
theorem dX1_rewind_0 : decode cX1_rewind 0 = .ok (.aload_n 0, 1) := by decide +kernel
theorem dX1_rewind_1 : decode cX1_rewind 1 = .ok (.iconst 0, 1) := by decide +kernel
theorem dX1_rewind_2 : decode cX1_rewind 2 = .ok (.putfield 19, 3) := by decide +kernel
theorem dX1_rewind_5 : decode cX1_rewind 5 = .ok (.return_, 1) := by decide +kernel
theorem dX1_items_0 : decode cX1_items 0 = .ok (.iconst 1, 1) := by decide +kernel
theorem dX1_items_1 : decode cX1_items 1 = .ok (.istore_n 1, 1) := by decide +kernel
theorem dX1_items_2 : decode cX1_items 2 = .ok (.iconst 0, 1) := by decide +kernel
theorem dX1_items_3 : decode cX1_items 3 = .ok (.istore_n 2, 1) := by decide +kernel
theorem dX1_items_4 : decode cX1_items 4 = .ok (.iload_n 2, 1) := by decide +kernel
theorem dX1_items_5 : decode cX1_items 5 = .ok (.aload_n 0, 1) := by decide +kernel
theorem dX1_items_6 : decode cX1_items 6 = .ok (.getfield 15, 3) := by decide +kernel
theorem dX1_items_9 : decode cX1_items 9 = .ok (.if_icmp .ge 37, 3) := by decide +kernel
theorem dX1_items_12 : decode cX1_items 12 = .ok (.iload_n 2, 1) := by decide +kernel
theorem dX1_items_13 : decode cX1_items 13 = .ok (.aload_n 0, 1) := by decide +kernel
theorem dX1_items_14 : decode cX1_items 14 = .ok (.getfield 9, 3) := by decide +kernel
theorem dX1_items_17 : decode cX1_items 17 = .ok (.arraylength, 1) := by decide +kernel
theorem dX1_items_18 : decode cX1_items 18 = .ok (.if_icmp .ge 28, 3) := by decide +kernel
theorem dX1_items_21 : decode cX1_items 21 = .ok (.iload_n 1, 1) := by decide +kernel
theorem dX1_items_22 : decode cX1_items 22 = .ok (.aload_n 0, 1) := by decide +kernel
theorem dX1_items_23 : decode cX1_items 23 = .ok (.getfield 9, 3) := by decide +kernel
theorem dX1_items_26 : decode cX1_items 26 = .ok (.iload_n 2, 1) := by decide +kernel
theorem dX1_items_27 : decode cX1_items 27 = .ok (.caload, 1) := by decide +kernel
theorem dX1_items_28 : decode cX1_items 28 = .ok (.bipush 59, 2) := by decide +kernel
theorem dX1_items_30 : decode cX1_items 30 = .ok (.if_icmp .ne 7, 3) := by decide +kernel
theorem dX1_items_33 : decode cX1_items 33 = .ok (.iconst 1, 1) := by decide +kernel
theorem dX1_items_34 : decode cX1_items 34 = .ok (.goto 4, 3) := by decide +kernel
theorem dX1_items_37 : decode cX1_items 37 = .ok (.iconst 0, 1) := by decide +kernel
theorem dX1_items_38 : decode cX1_items 38 = .ok (.iadd, 1) := by decide +kernel
theorem dX1_items_39 : decode cX1_items 39 = .ok (.istore_n 1, 1) := by decide +kernel
theorem dX1_items_40 : decode cX1_items 40 = .ok (.iinc 2 1, 3) := by decide +kernel
theorem dX1_items_43 : decode cX1_items 43 = .ok (.goto (-39), 3) := by decide +kernel
theorem dX1_items_46 : decode cX1_items 46 = .ok (.iload_n 1, 1) := by decide +kernel
theorem dX1_items_47 : decode cX1_items 47 = .ok (.ireturn, 1) := by decide +kernel
set_option maxRecDepth 20000 in
theorem ggX1_faultAs_X1_rewind : GoodIn wsX1_faultAs wsX1_rewind := goodIn_r _ [7, 1, 59, 60, 61, 62, 63, 64, 65, 66, 67, 68, 69, 70, 71, 72] (by decide +kernel) (by decide +kernel)
set_option maxRecDepth 20000 in
theorem gX1_faultAs_X1_rewind : GoodIn wsX1_faultAs (wsV RX1 22 RX1 yX1_rewind wsX1_rewind) := goodIn_app (goodIn_of _ (by decide +kernel)) ggX1_faultAs_X1_rewind
set_option maxRecDepth 20000 in
theorem ggX1_faultAs_X1_items : GoodIn wsX1_faultAs wsX1_items := goodIn_r _ [11, 2, 12, 59, 60, 61, 62, 63, 64, 65, 66, 67, 68, 69, 70, 71, 72] (by decide +kernel) (by decide +kernel)
set_option maxRecDepth 20000 in
theorem gX1_faultAs_X1_items : GoodIn wsX1_faultAs (wsV RX1 25 RX1 yX1_items wsX1_items) := goodIn_app (goodIn_of _ (by decide +kernel)) ggX1_faultAs_X1_items
set_option maxRecDepth 20000 in
theorem ggX1_faultAs_X1_readZone : GoodIn wsX1_faultAs wsX1_readZone := goodIn_r _ [16, 17, 18, 19, 20, 21, 22, 23, 24, 25, 26, 27, 6, 28, 1, 29, 30, 31, 32, 2, 12, 33, 34, 35, 36, 37, 38, 39, 40, 41, 42, 43, 59, 60, 61, 62, 63, 64, 65, 66, 67, 68, 69, 70, 71, 72] (by decide +kernel) (by decide +kernel)
set_option maxRecDepth 20000 in
theorem gX1_faultAs_X1_readZone : GoodIn wsX1_faultAs (wsV RX1 29 RX1 yX1_readZone wsX1_readZone) := goodIn_app (goodIn_of _ (by decide +kernel)) ggX1_faultAs_X1_readZone
set_option maxRecDepth 20000 in
theorem ggX1_faultAs_X1_readDeed : GoodIn wsX1_faultAs wsX1_readDeed := goodIn_r _ [47, 48, 1, 29, 30, 31, 6, 32, 2, 12, 49, 50, 51, 52, 17, 53, 25, 26, 27, 28, 33, 34, 35, 36, 37, 38, 39, 54, 55, 56, 57, 58, 59, 60, 61, 62, 63, 64, 65, 66, 67, 68, 69, 70, 71, 72] (by decide +kernel) (by decide +kernel)
set_option maxRecDepth 20000 in
theorem gX1_faultAs_X1_readDeed : GoodIn wsX1_faultAs (wsV RX1 33 RX1 yX1_readDeed wsX1_readDeed) := goodIn_app (goodIn_of _ (by decide +kernel)) ggX1_faultAs_X1_readDeed
set_option maxRecDepth 20000 in
theorem ggX1_faultAs_X1_readSign : GoodIn wsX1_faultAs wsX1_readSign := goodIn_r _ [39, 1, 29, 30, 31, 6, 32, 2, 12, 59, 60, 61, 62, 63, 64, 65, 66, 67, 68, 69, 70, 71, 72] (by decide +kernel) (by decide +kernel)
set_option maxRecDepth 20000 in
theorem gX1_faultAs_X1_readSign : GoodIn wsX1_faultAs (wsV RX1 36 RX1 yX1_readSign wsX1_readSign) := goodIn_app (goodIn_of _ (by decide +kernel)) ggX1_faultAs_X1_readSign
theorem dX1_faultAs_0 : decode cX1_faultAs 0 = .ok (.aload_n 0, 1) := by decide +kernel
theorem dX1_faultAs_1 : decode cX1_faultAs 1 = .ok (.invokevirtual 22, 3) := by decide +kernel
theorem dX1_faultAs_4 : decode cX1_faultAs 4 = .ok (.aload_n 0, 1) := by decide +kernel
theorem dX1_faultAs_5 : decode cX1_faultAs 5 = .ok (.invokevirtual 25, 3) := by decide +kernel
theorem dX1_faultAs_8 : decode cX1_faultAs 8 = .ok (.istore_n 2, 1) := by decide +kernel
theorem dX1_faultAs_9 : decode cX1_faultAs 9 = .ok (.iconst 0, 1) := by decide +kernel
theorem dX1_faultAs_10 : decode cX1_faultAs 10 = .ok (.istore_n 3, 1) := by decide +kernel
theorem dX1_faultAs_11 : decode cX1_faultAs 11 = .ok (.iload_n 3, 1) := by decide +kernel
theorem dX1_faultAs_12 : decode cX1_faultAs 12 = .ok (.iload_n 2, 1) := by decide +kernel
theorem dX1_faultAs_13 : decode cX1_faultAs 13 = .ok (.if_icmp .ge 64, 3) := by decide +kernel
theorem dX1_faultAs_16 : decode cX1_faultAs 16 = .ok (.iload_n 1, 1) := by decide +kernel
theorem dX1_faultAs_17 : decode cX1_faultAs 17 = .ok (.ifCond .ne 10, 3) := by decide +kernel
theorem dX1_faultAs_20 : decode cX1_faultAs 20 = .ok (.aload_n 0, 1) := by decide +kernel
theorem dX1_faultAs_21 : decode cX1_faultAs 21 = .ok (.invokevirtual 29, 3) := by decide +kernel
theorem dX1_faultAs_24 : decode cX1_faultAs 24 = .ok (.goto 7, 3) := by decide +kernel
theorem dX1_faultAs_27 : decode cX1_faultAs 27 = .ok (.aload_n 0, 1) := by decide +kernel
theorem dX1_faultAs_28 : decode cX1_faultAs 28 = .ok (.invokevirtual 33, 3) := by decide +kernel
theorem dX1_faultAs_31 : decode cX1_faultAs 31 = .ok (.istore 4, 2) := by decide +kernel
theorem dX1_faultAs_33 : decode cX1_faultAs 33 = .ok (.iload 4, 2) := by decide +kernel
theorem dX1_faultAs_35 : decode cX1_faultAs 35 = .ok (.ifCond .eq 17, 3) := by decide +kernel
theorem dX1_faultAs_38 : decode cX1_faultAs 38 = .ok (.aload_n 0, 1) := by decide +kernel
theorem dX1_faultAs_39 : decode cX1_faultAs 39 = .ok (.getfield 19, 3) := by decide +kernel
theorem dX1_faultAs_42 : decode cX1_faultAs 42 = .ok (.aload_n 0, 1) := by decide +kernel
theorem dX1_faultAs_43 : decode cX1_faultAs 43 = .ok (.getfield 15, 3) := by decide +kernel
theorem dX1_faultAs_46 : decode cX1_faultAs 46 = .ok (.if_icmp .lt 6, 3) := by decide +kernel
theorem dX1_faultAs_49 : decode cX1_faultAs 49 = .ok (.bipush (-4), 2) := by decide +kernel
theorem dX1_faultAs_51 : decode cX1_faultAs 51 = .ok (.ireturn, 1) := by decide +kernel
theorem dX1_faultAs_52 : decode cX1_faultAs 52 = .ok (.iload 4, 2) := by decide +kernel
theorem dX1_faultAs_54 : decode cX1_faultAs 54 = .ok (.ifCond .eq 12, 3) := by decide +kernel
theorem dX1_faultAs_57 : decode cX1_faultAs 57 = .ok (.aload_n 0, 1) := by decide +kernel
theorem dX1_faultAs_58 : decode cX1_faultAs 58 = .ok (.bipush 59, 2) := by decide +kernel
theorem dX1_faultAs_60 : decode cX1_faultAs 60 = .ok (.invokevirtual 36, 3) := by decide +kernel
theorem dX1_faultAs_63 : decode cX1_faultAs 63 = .ok (.ifCond .ne 8, 3) := by decide +kernel
theorem dX1_faultAs_66 : decode cX1_faultAs 66 = .ok (.aload_n 0, 1) := by decide +kernel
theorem dX1_faultAs_67 : decode cX1_faultAs 67 = .ok (.getfield 19, 3) := by decide +kernel
theorem dX1_faultAs_70 : decode cX1_faultAs 70 = .ok (.ireturn, 1) := by decide +kernel
theorem dX1_faultAs_71 : decode cX1_faultAs 71 = .ok (.iinc 3 1, 3) := by decide +kernel
theorem dX1_faultAs_74 : decode cX1_faultAs 74 = .ok (.goto (-63), 3) := by decide +kernel
theorem dX1_faultAs_77 : decode cX1_faultAs 77 = .ok (.aload_n 0, 1) := by decide +kernel
theorem dX1_faultAs_78 : decode cX1_faultAs 78 = .ok (.getfield 19, 3) := by decide +kernel
theorem dX1_faultAs_81 : decode cX1_faultAs 81 = .ok (.ireturn, 1) := by decide +kernel
set_option maxRecDepth 20000 in
theorem ggX1_readSign_X1_sign : GoodIn wsX1_readSign wsX1_sign := goodIn_r _ [6, 1, 7, 8, 9, 10, 11, 12, 13, 14, 15, 16, 17, 18, 19, 20, 21, 22] (by decide +kernel) (by decide +kernel)
set_option maxRecDepth 20000 in
theorem gX1_readSign_X1_sign : GoodIn wsX1_readSign (wsV RX1 40 RX1 yX1_sign wsX1_sign) := goodIn_app (goodIn_of _ (by decide +kernel)) ggX1_readSign_X1_sign
theorem dX1_readSign_0 : decode cX1_readSign 0 = .ok (.aload_n 0, 1) := by decide +kernel
theorem dX1_readSign_1 : decode cX1_readSign 1 = .ok (.invokevirtual 40, 3) := by decide +kernel
theorem dX1_readSign_4 : decode cX1_readSign 4 = .ok (.iload_n 1, 1) := by decide +kernel
theorem dX1_readSign_5 : decode cX1_readSign 5 = .ok (.if_icmp .ne 7, 3) := by decide +kernel
theorem dX1_readSign_8 : decode cX1_readSign 8 = .ok (.iconst 1, 1) := by decide +kernel
theorem dX1_readSign_9 : decode cX1_readSign 9 = .ok (.goto 4, 3) := by decide +kernel
theorem dX1_readSign_12 : decode cX1_readSign 12 = .ok (.iconst 0, 1) := by decide +kernel
theorem dX1_readSign_13 : decode cX1_readSign 13 = .ok (.istore_n 2, 1) := by decide +kernel
theorem dX1_readSign_14 : decode cX1_readSign 14 = .ok (.aload_n 0, 1) := by decide +kernel
theorem dX1_readSign_15 : decode cX1_readSign 15 = .ok (.dup, 1) := by decide +kernel
theorem dX1_readSign_16 : decode cX1_readSign 16 = .ok (.getfield 19, 3) := by decide +kernel
theorem dX1_readSign_19 : decode cX1_readSign 19 = .ok (.iload_n 2, 1) := by decide +kernel
theorem dX1_readSign_20 : decode cX1_readSign 20 = .ok (.ifCond .eq 7, 3) := by decide +kernel
theorem dX1_readSign_23 : decode cX1_readSign 23 = .ok (.iconst 1, 1) := by decide +kernel
theorem dX1_readSign_24 : decode cX1_readSign 24 = .ok (.goto 4, 3) := by decide +kernel
theorem dX1_readSign_27 : decode cX1_readSign 27 = .ok (.iconst 0, 1) := by decide +kernel
theorem dX1_readSign_28 : decode cX1_readSign 28 = .ok (.iadd, 1) := by decide +kernel
theorem dX1_readSign_29 : decode cX1_readSign 29 = .ok (.putfield 19, 3) := by decide +kernel
theorem dX1_readSign_32 : decode cX1_readSign 32 = .ok (.iload_n 2, 1) := by decide +kernel
theorem dX1_readSign_33 : decode cX1_readSign 33 = .ok (.ireturn, 1) := by decide +kernel
set_option maxRecDepth 20000 in
theorem ggX1_readZone_X1_readNumber : GoodIn wsX1_readZone wsX1_readNumber := goodIn_r _ [13, 1, 14, 15, 16, 17, 12, 18, 19, 20, 21, 22, 23, 32, 33, 34, 35, 36, 37, 38, 39, 40, 41, 42, 43, 44, 45] (by decide +kernel) (by decide +kernel)
set_option maxRecDepth 20000 in
theorem gX1_readZone_X1_readNumber : GoodIn wsX1_readZone (wsV RX1 43 RX1 yX1_readNumber wsX1_readNumber) := goodIn_app (goodIn_of _ (by decide +kernel)) ggX1_readZone_X1_readNumber
set_option maxRecDepth 20000 in
theorem ggX1_readZone_X1_readSign : GoodIn wsX1_readZone wsX1_readSign := goodIn_r _ [27, 14, 15, 16, 17, 12, 18, 19, 20, 32, 33, 34, 35, 36, 37, 38, 39, 40, 41, 42, 43, 44, 45] (by decide +kernel) (by decide +kernel)
set_option maxRecDepth 20000 in
theorem gX1_readZone_X1_readSign : GoodIn wsX1_readZone (wsV RX1 36 RX1 yX1_readSign wsX1_readSign) := goodIn_app (goodIn_of _ (by decide +kernel)) ggX1_readZone_X1_readSign
set_option maxRecDepth 20000 in
theorem ggX1_readZone_X1_readMark : GoodIn wsX1_readZone wsX1_readMark := goodIn_r _ [31, 1, 24, 25, 26, 12, 27, 14, 15, 16, 17, 18, 19, 20, 9, 10, 11, 13, 21, 22, 23, 32, 33, 34, 35, 36, 37, 38, 39, 40, 41, 42, 43, 44, 45] (by decide +kernel) (by decide +kernel)
set_option maxRecDepth 20000 in
theorem gX1_readZone_X1_readMark : GoodIn wsX1_readZone (wsV RX1 65 RX1 yX1_readMark wsX1_readMark) := goodIn_app (goodIn_of _ (by decide +kernel)) ggX1_readZone_X1_readMark
theorem dX1_readZone_0 : decode cX1_readZone 0 = .ok (.aload_n 0, 1) := by decide +kernel
theorem dX1_readZone_1 : decode cX1_readZone 1 = .ok (.iconst 0, 1) := by decide +kernel
theorem dX1_readZone_2 : decode cX1_readZone 2 = .ok (.bipush 35, 2) := by decide +kernel
theorem dX1_readZone_4 : decode cX1_readZone 4 = .ok (.invokevirtual 43, 3) := by decide +kernel
theorem dX1_readZone_7 : decode cX1_readZone 7 = .ok (.ifCond .ne 5, 3) := by decide +kernel
theorem dX1_readZone_10 : decode cX1_readZone 10 = .ok (.iconst 0, 1) := by decide +kernel
theorem dX1_readZone_11 : decode cX1_readZone 11 = .ok (.ireturn, 1) := by decide +kernel
theorem dX1_readZone_12 : decode cX1_readZone 12 = .ok (.aload_n 0, 1) := by decide +kernel
theorem dX1_readZone_13 : decode cX1_readZone 13 = .ok (.aload_n 0, 1) := by decide +kernel
theorem dX1_readZone_14 : decode cX1_readZone 14 = .ok (.getfield 47, 3) := by decide +kernel
theorem dX1_readZone_17 : decode cX1_readZone 17 = .ok (.putfield 50, 3) := by decide +kernel
theorem dX1_readZone_20 : decode cX1_readZone 20 = .ok (.aload_n 0, 1) := by decide +kernel
theorem dX1_readZone_21 : decode cX1_readZone 21 = .ok (.bipush 45, 2) := by decide +kernel
theorem dX1_readZone_23 : decode cX1_readZone 23 = .ok (.invokevirtual 36, 3) := by decide +kernel
theorem dX1_readZone_26 : decode cX1_readZone 26 = .ok (.ifCond .eq 16, 3) := by decide +kernel
theorem dX1_readZone_29 : decode cX1_readZone 29 = .ok (.aload_n 0, 1) := by decide +kernel
theorem dX1_readZone_30 : decode cX1_readZone 30 = .ok (.aload_n 0, 1) := by decide +kernel
theorem dX1_readZone_31 : decode cX1_readZone 31 = .ok (.getfield 50, 3) := by decide +kernel
theorem dX1_readZone_34 : decode cX1_readZone 34 = .ok (.bipush 35, 2) := by decide +kernel
theorem dX1_readZone_36 : decode cX1_readZone 36 = .ok (.invokevirtual 43, 3) := by decide +kernel
theorem dX1_readZone_39 : decode cX1_readZone 39 = .ok (.ifCond .ne 5, 3) := by decide +kernel
theorem dX1_readZone_42 : decode cX1_readZone 42 = .ok (.iconst 0, 1) := by decide +kernel
theorem dX1_readZone_43 : decode cX1_readZone 43 = .ok (.ireturn, 1) := by decide +kernel
theorem dX1_readZone_44 : decode cX1_readZone 44 = .ok (.aload_n 0, 1) := by decide +kernel
theorem dX1_readZone_45 : decode cX1_readZone 45 = .ok (.aload_n 0, 1) := by decide +kernel
theorem dX1_readZone_46 : decode cX1_readZone 46 = .ok (.getfield 47, 3) := by decide +kernel
theorem dX1_readZone_49 : decode cX1_readZone 49 = .ok (.putfield 53, 3) := by decide +kernel
theorem dX1_readZone_52 : decode cX1_readZone 52 = .ok (.aload_n 0, 1) := by decide +kernel
theorem dX1_readZone_53 : decode cX1_readZone 53 = .ok (.bipush 44, 2) := by decide +kernel
theorem dX1_readZone_55 : decode cX1_readZone 55 = .ok (.invokevirtual 36, 3) := by decide +kernel
theorem dX1_readZone_58 : decode cX1_readZone 58 = .ok (.ifCond .eq 13, 3) := by decide +kernel
theorem dX1_readZone_61 : decode cX1_readZone 61 = .ok (.aload_n 0, 1) := by decide +kernel
theorem dX1_readZone_62 : decode cX1_readZone 62 = .ok (.iconst 1, 1) := by decide +kernel
theorem dX1_readZone_63 : decode cX1_readZone 63 = .ok (.bipush 9, 2) := by decide +kernel
theorem dX1_readZone_65 : decode cX1_readZone 65 = .ok (.invokevirtual 43, 3) := by decide +kernel
theorem dX1_readZone_68 : decode cX1_readZone 68 = .ok (.ifCond .ne 5, 3) := by decide +kernel
theorem dX1_readZone_71 : decode cX1_readZone 71 = .ok (.iconst 0, 1) := by decide +kernel
theorem dX1_readZone_72 : decode cX1_readZone 72 = .ok (.ireturn, 1) := by decide +kernel
theorem dX1_readZone_73 : decode cX1_readZone 73 = .ok (.aload_n 0, 1) := by decide +kernel
theorem dX1_readZone_74 : decode cX1_readZone 74 = .ok (.aload_n 0, 1) := by decide +kernel
theorem dX1_readZone_75 : decode cX1_readZone 75 = .ok (.getfield 47, 3) := by decide +kernel
theorem dX1_readZone_78 : decode cX1_readZone 78 = .ok (.putfield 56, 3) := by decide +kernel
theorem dX1_readZone_81 : decode cX1_readZone 81 = .ok (.aload_n 0, 1) := by decide +kernel
theorem dX1_readZone_82 : decode cX1_readZone 82 = .ok (.bipush 45, 2) := by decide +kernel
theorem dX1_readZone_84 : decode cX1_readZone 84 = .ok (.invokevirtual 36, 3) := by decide +kernel
theorem dX1_readZone_87 : decode cX1_readZone 87 = .ok (.ifCond .eq 16, 3) := by decide +kernel
theorem dX1_readZone_90 : decode cX1_readZone 90 = .ok (.aload_n 0, 1) := by decide +kernel
theorem dX1_readZone_91 : decode cX1_readZone 91 = .ok (.aload_n 0, 1) := by decide +kernel
theorem dX1_readZone_92 : decode cX1_readZone 92 = .ok (.getfield 56, 3) := by decide +kernel
theorem dX1_readZone_95 : decode cX1_readZone 95 = .ok (.bipush 9, 2) := by decide +kernel
theorem dX1_readZone_97 : decode cX1_readZone 97 = .ok (.invokevirtual 43, 3) := by decide +kernel
theorem dX1_readZone_100 : decode cX1_readZone 100 = .ok (.ifCond .ne 5, 3) := by decide +kernel
theorem dX1_readZone_103 : decode cX1_readZone 103 = .ok (.iconst 0, 1) := by decide +kernel
theorem dX1_readZone_104 : decode cX1_readZone 104 = .ok (.ireturn, 1) := by decide +kernel
theorem dX1_readZone_105 : decode cX1_readZone 105 = .ok (.aload_n 0, 1) := by decide +kernel
theorem dX1_readZone_106 : decode cX1_readZone 106 = .ok (.aload_n 0, 1) := by decide +kernel
theorem dX1_readZone_107 : decode cX1_readZone 107 = .ok (.getfield 47, 3) := by decide +kernel
theorem dX1_readZone_110 : decode cX1_readZone 110 = .ok (.putfield 59, 3) := by decide +kernel
theorem dX1_readZone_113 : decode cX1_readZone 113 = .ok (.aload_n 0, 1) := by decide +kernel
theorem dX1_readZone_114 : decode cX1_readZone 114 = .ok (.bipush 44, 2) := by decide +kernel
theorem dX1_readZone_116 : decode cX1_readZone 116 = .ok (.invokevirtual 36, 3) := by decide +kernel
theorem dX1_readZone_119 : decode cX1_readZone 119 = .ok (.ifCond .eq 13, 3) := by decide +kernel
theorem dX1_readZone_122 : decode cX1_readZone 122 = .ok (.aload_n 0, 1) := by decide +kernel
theorem dX1_readZone_123 : decode cX1_readZone 123 = .ok (.iconst 1, 1) := by decide +kernel
theorem dX1_readZone_124 : decode cX1_readZone 124 = .ok (.bipush 60, 2) := by decide +kernel
theorem dX1_readZone_126 : decode cX1_readZone 126 = .ok (.invokevirtual 43, 3) := by decide +kernel
theorem dX1_readZone_129 : decode cX1_readZone 129 = .ok (.ifCond .ne 5, 3) := by decide +kernel
theorem dX1_readZone_132 : decode cX1_readZone 132 = .ok (.iconst 0, 1) := by decide +kernel
theorem dX1_readZone_133 : decode cX1_readZone 133 = .ok (.ireturn, 1) := by decide +kernel
theorem dX1_readZone_134 : decode cX1_readZone 134 = .ok (.aload_n 0, 1) := by decide +kernel
theorem dX1_readZone_135 : decode cX1_readZone 135 = .ok (.aload_n 0, 1) := by decide +kernel
theorem dX1_readZone_136 : decode cX1_readZone 136 = .ok (.getfield 47, 3) := by decide +kernel
theorem dX1_readZone_139 : decode cX1_readZone 139 = .ok (.putfield 62, 3) := by decide +kernel
theorem dX1_readZone_142 : decode cX1_readZone 142 = .ok (.aload_n 0, 1) := by decide +kernel
theorem dX1_readZone_143 : decode cX1_readZone 143 = .ok (.bipush 103, 2) := by decide +kernel
theorem dX1_readZone_145 : decode cX1_readZone 145 = .ok (.iconst 3, 1) := by decide +kernel
theorem dX1_readZone_146 : decode cX1_readZone 146 = .ok (.invokevirtual 65, 3) := by decide +kernel
theorem dX1_readZone_149 : decode cX1_readZone 149 = .ok (.ifCond .ne 5, 3) := by decide +kernel
theorem dX1_readZone_152 : decode cX1_readZone 152 = .ok (.iconst 0, 1) := by decide +kernel
theorem dX1_readZone_153 : decode cX1_readZone 153 = .ok (.ireturn, 1) := by decide +kernel
theorem dX1_readZone_154 : decode cX1_readZone 154 = .ok (.aload_n 0, 1) := by decide +kernel
theorem dX1_readZone_155 : decode cX1_readZone 155 = .ok (.aload_n 0, 1) := by decide +kernel
theorem dX1_readZone_156 : decode cX1_readZone 156 = .ok (.getfield 47, 3) := by decide +kernel
theorem dX1_readZone_159 : decode cX1_readZone 159 = .ok (.putfield 68, 3) := by decide +kernel
theorem dX1_readZone_162 : decode cX1_readZone 162 = .ok (.aload_n 0, 1) := by decide +kernel
theorem dX1_readZone_163 : decode cX1_readZone 163 = .ok (.bipush 114, 2) := by decide +kernel
theorem dX1_readZone_165 : decode cX1_readZone 165 = .ok (.iconst 4, 1) := by decide +kernel
theorem dX1_readZone_166 : decode cX1_readZone 166 = .ok (.invokevirtual 65, 3) := by decide +kernel
theorem dX1_readZone_169 : decode cX1_readZone 169 = .ok (.istore_n 1, 1) := by decide +kernel
theorem dX1_readZone_170 : decode cX1_readZone 170 = .ok (.aload_n 0, 1) := by decide +kernel
theorem dX1_readZone_171 : decode cX1_readZone 171 = .ok (.aload_n 0, 1) := by decide +kernel
theorem dX1_readZone_172 : decode cX1_readZone 172 = .ok (.getfield 47, 3) := by decide +kernel
theorem dX1_readZone_175 : decode cX1_readZone 175 = .ok (.putfield 71, 3) := by decide +kernel
theorem dX1_readZone_178 : decode cX1_readZone 178 = .ok (.iload_n 1, 1) := by decide +kernel
theorem dX1_readZone_179 : decode cX1_readZone 179 = .ok (.ireturn, 1) := by decide +kernel
set_option maxRecDepth 20000 in
theorem ggX1_readMark_X1_readSign : GoodIn wsX1_readMark wsX1_readSign := goodIn_r _ [6, 7, 8, 9, 10, 5, 11, 12, 13, 21, 22, 23, 24, 25, 26, 27, 28, 29, 30, 31, 32, 33, 34] (by decide +kernel) (by decide +kernel)
set_option maxRecDepth 20000 in
theorem gX1_readMark_X1_readSign : GoodIn wsX1_readMark (wsV RX1 36 RX1 yX1_readSign wsX1_readSign) := goodIn_app (goodIn_of _ (by decide +kernel)) ggX1_readMark_X1_readSign
set_option maxRecDepth 20000 in
theorem ggX1_readMark_X1_readNumber : GoodIn wsX1_readMark wsX1_readNumber := goodIn_r _ [17, 1, 7, 8, 9, 10, 5, 11, 12, 13, 18, 19, 20, 21, 22, 23, 24, 25, 26, 27, 28, 29, 30, 31, 32, 33, 34] (by decide +kernel) (by decide +kernel)
set_option maxRecDepth 20000 in
theorem gX1_readMark_X1_readNumber : GoodIn wsX1_readMark (wsV RX1 43 RX1 yX1_readNumber wsX1_readNumber) := goodIn_app (goodIn_of _ (by decide +kernel)) ggX1_readMark_X1_readNumber
theorem dX1_readMark_0 : decode cX1_readMark 0 = .ok (.aload_n 0, 1) := by decide +kernel
theorem dX1_readMark_1 : decode cX1_readMark 1 = .ok (.iconst 0, 1) := by decide +kernel
theorem dX1_readMark_2 : decode cX1_readMark 2 = .ok (.putfield 47, 3) := by decide +kernel
theorem dX1_readMark_5 : decode cX1_readMark 5 = .ok (.aload_n 0, 1) := by decide +kernel
theorem dX1_readMark_6 : decode cX1_readMark 6 = .ok (.iload_n 1, 1) := by decide +kernel
theorem dX1_readMark_7 : decode cX1_readMark 7 = .ok (.invokevirtual 36, 3) := by decide +kernel
theorem dX1_readMark_10 : decode cX1_readMark 10 = .ok (.ifCond .eq 12, 3) := by decide +kernel
theorem dX1_readMark_13 : decode cX1_readMark 13 = .ok (.aload_n 0, 1) := by decide +kernel
theorem dX1_readMark_14 : decode cX1_readMark 14 = .ok (.iconst 1, 1) := by decide +kernel
theorem dX1_readMark_15 : decode cX1_readMark 15 = .ok (.iload_n 2, 1) := by decide +kernel
theorem dX1_readMark_16 : decode cX1_readMark 16 = .ok (.invokevirtual 43, 3) := by decide +kernel
theorem dX1_readMark_19 : decode cX1_readMark 19 = .ok (.ifCond .eq 7, 3) := by decide +kernel
theorem dX1_readMark_22 : decode cX1_readMark 22 = .ok (.iconst 1, 1) := by decide +kernel
theorem dX1_readMark_23 : decode cX1_readMark 23 = .ok (.goto 4, 3) := by decide +kernel
theorem dX1_readMark_26 : decode cX1_readMark 26 = .ok (.iconst 0, 1) := by decide +kernel
theorem dX1_readMark_27 : decode cX1_readMark 27 = .ok (.ireturn, 1) := by decide +kernel
set_option maxRecDepth 20000 in
theorem ggX1_readDeed_X1_sign : GoodIn wsX1_readDeed wsX1_sign := goodIn_r _ [7, 2, 8, 9, 32, 33, 34, 35, 36, 37, 38, 39, 40, 41, 42, 43, 44, 45] (by decide +kernel) (by decide +kernel)
set_option maxRecDepth 20000 in
theorem gX1_readDeed_X1_sign : GoodIn wsX1_readDeed (wsV RX1 40 RX1 yX1_sign wsX1_sign) := goodIn_app (goodIn_of _ (by decide +kernel)) ggX1_readDeed_X1_sign
set_option maxRecDepth 20000 in
theorem ggX1_readDeed_X1_readDeedKey : GoodIn wsX1_readDeed wsX1_readDeedKey := goodIn_r _ [13, 14, 15, 16, 17, 18, 6, 19, 2, 3, 4, 5, 7, 8, 9, 20, 21, 22, 32, 33, 34, 35, 36, 37, 38, 39, 40, 41, 42, 43, 44, 45] (by decide +kernel) (by decide +kernel)
set_option maxRecDepth 20000 in
theorem gX1_readDeed_X1_readDeedKey : GoodIn wsX1_readDeed (wsV RX1 77 RX1 yX1_readDeedKey wsX1_readDeedKey) := goodIn_app (goodIn_of _ (by decide +kernel)) ggX1_readDeed_X1_readDeedKey
set_option maxRecDepth 20000 in
theorem ggX1_readDeed_X1_readSign : GoodIn wsX1_readDeed wsX1_readSign := goodIn_r _ [26, 2, 3, 4, 5, 6, 7, 8, 9, 32, 33, 34, 35, 36, 37, 38, 39, 40, 41, 42, 43, 44, 45] (by decide +kernel) (by decide +kernel)
set_option maxRecDepth 20000 in
theorem gX1_readDeed_X1_readSign : GoodIn wsX1_readDeed (wsV RX1 36 RX1 yX1_readSign wsX1_readSign) := goodIn_app (goodIn_of _ (by decide +kernel)) ggX1_readDeed_X1_readSign
set_option maxRecDepth 20000 in
theorem ggX1_readDeed_X1_readAmount : GoodIn wsX1_readDeed wsX1_readAmount := goodIn_r _ [30, 14, 31, 16, 17, 18, 6, 19, 2, 3, 4, 5, 7, 8, 9, 20, 21, 22, 32, 33, 34, 35, 36, 37, 38, 39, 40, 41, 42, 43, 44, 45] (by decide +kernel) (by decide +kernel)
set_option maxRecDepth 20000 in
theorem gX1_readDeed_X1_readAmount : GoodIn wsX1_readDeed (wsV RX1 80 RX1 yX1_readAmount wsX1_readAmount) := goodIn_app (goodIn_of _ (by decide +kernel)) ggX1_readDeed_X1_readAmount
theorem dX1_readDeed_0 : decode cX1_readDeed 0 = .ok (.aload_n 0, 1) := by decide +kernel
theorem dX1_readDeed_1 : decode cX1_readDeed 1 = .ok (.aload_n 0, 1) := by decide +kernel
theorem dX1_readDeed_2 : decode cX1_readDeed 2 = .ok (.invokevirtual 40, 3) := by decide +kernel
theorem dX1_readDeed_5 : decode cX1_readDeed 5 = .ok (.putfield 74, 3) := by decide +kernel
theorem dX1_readDeed_8 : decode cX1_readDeed 8 = .ok (.aload_n 0, 1) := by decide +kernel
theorem dX1_readDeed_9 : decode cX1_readDeed 9 = .ok (.getfield 74, 3) := by decide +kernel
theorem dX1_readDeed_12 : decode cX1_readDeed 12 = .ok (.tableswitch 129 110 116 #[44, 85, 100, 129, 129, 129, 112], 44) := by decide +kernel
theorem dX1_readDeed_56 : decode cX1_readDeed 56 = .ok (.aload_n 0, 1) := by decide +kernel
theorem dX1_readDeed_57 : decode cX1_readDeed 57 = .ok (.dup, 1) := by decide +kernel
theorem dX1_readDeed_58 : decode cX1_readDeed 58 = .ok (.getfield 19, 3) := by decide +kernel
theorem dX1_readDeed_61 : decode cX1_readDeed 61 = .ok (.iconst 1, 1) := by decide +kernel
theorem dX1_readDeed_62 : decode cX1_readDeed 62 = .ok (.iadd, 1) := by decide +kernel
theorem dX1_readDeed_63 : decode cX1_readDeed 63 = .ok (.putfield 19, 3) := by decide +kernel
theorem dX1_readDeed_66 : decode cX1_readDeed 66 = .ok (.aload_n 0, 1) := by decide +kernel
theorem dX1_readDeed_67 : decode cX1_readDeed 67 = .ok (.invokevirtual 77, 3) := by decide +kernel
theorem dX1_readDeed_70 : decode cX1_readDeed 70 = .ok (.ifCond .eq 25, 3) := by decide +kernel
theorem dX1_readDeed_73 : decode cX1_readDeed 73 = .ok (.aload_n 0, 1) := by decide +kernel
theorem dX1_readDeed_74 : decode cX1_readDeed 74 = .ok (.bipush 46, 2) := by decide +kernel
theorem dX1_readDeed_76 : decode cX1_readDeed 76 = .ok (.invokevirtual 36, 3) := by decide +kernel
theorem dX1_readDeed_79 : decode cX1_readDeed 79 = .ok (.ifCond .eq 16, 3) := by decide +kernel
theorem dX1_readDeed_82 : decode cX1_readDeed 82 = .ok (.aload_n 0, 1) := by decide +kernel
theorem dX1_readDeed_83 : decode cX1_readDeed 83 = .ok (.bipush 9, 2) := by decide +kernel
theorem dX1_readDeed_85 : decode cX1_readDeed 85 = .ok (.invokevirtual 80, 3) := by decide +kernel
theorem dX1_readDeed_88 : decode cX1_readDeed 88 = .ok (.ifCond .eq 7, 3) := by decide +kernel
theorem dX1_readDeed_91 : decode cX1_readDeed 91 = .ok (.iconst 1, 1) := by decide +kernel
theorem dX1_readDeed_92 : decode cX1_readDeed 92 = .ok (.goto 4, 3) := by decide +kernel
theorem dX1_readDeed_95 : decode cX1_readDeed 95 = .ok (.iconst 0, 1) := by decide +kernel
theorem dX1_readDeed_96 : decode cX1_readDeed 96 = .ok (.ireturn, 1) := by decide +kernel
theorem dX1_readDeed_97 : decode cX1_readDeed 97 = .ok (.aload_n 0, 1) := by decide +kernel
theorem dX1_readDeed_98 : decode cX1_readDeed 98 = .ok (.dup, 1) := by decide +kernel
theorem dX1_readDeed_99 : decode cX1_readDeed 99 = .ok (.getfield 19, 3) := by decide +kernel
theorem dX1_readDeed_102 : decode cX1_readDeed 102 = .ok (.iconst 1, 1) := by decide +kernel
theorem dX1_readDeed_103 : decode cX1_readDeed 103 = .ok (.iadd, 1) := by decide +kernel
theorem dX1_readDeed_104 : decode cX1_readDeed 104 = .ok (.putfield 19, 3) := by decide +kernel
theorem dX1_readDeed_107 : decode cX1_readDeed 107 = .ok (.aload_n 0, 1) := by decide +kernel
theorem dX1_readDeed_108 : decode cX1_readDeed 108 = .ok (.invokevirtual 77, 3) := by decide +kernel
theorem dX1_readDeed_111 : decode cX1_readDeed 111 = .ok (.ireturn, 1) := by decide +kernel
theorem dX1_readDeed_112 : decode cX1_readDeed 112 = .ok (.aload_n 0, 1) := by decide +kernel
theorem dX1_readDeed_113 : decode cX1_readDeed 113 = .ok (.dup, 1) := by decide +kernel
theorem dX1_readDeed_114 : decode cX1_readDeed 114 = .ok (.getfield 19, 3) := by decide +kernel
theorem dX1_readDeed_117 : decode cX1_readDeed 117 = .ok (.iconst 1, 1) := by decide +kernel
theorem dX1_readDeed_118 : decode cX1_readDeed 118 = .ok (.iadd, 1) := by decide +kernel
theorem dX1_readDeed_119 : decode cX1_readDeed 119 = .ok (.putfield 19, 3) := by decide +kernel
theorem dX1_readDeed_122 : decode cX1_readDeed 122 = .ok (.iconst 1, 1) := by decide +kernel
theorem dX1_readDeed_123 : decode cX1_readDeed 123 = .ok (.ireturn, 1) := by decide +kernel
theorem dX1_readDeed_124 : decode cX1_readDeed 124 = .ok (.aload_n 0, 1) := by decide +kernel
theorem dX1_readDeed_125 : decode cX1_readDeed 125 = .ok (.dup, 1) := by decide +kernel
theorem dX1_readDeed_126 : decode cX1_readDeed 126 = .ok (.getfield 19, 3) := by decide +kernel
theorem dX1_readDeed_129 : decode cX1_readDeed 129 = .ok (.iconst 1, 1) := by decide +kernel
theorem dX1_readDeed_130 : decode cX1_readDeed 130 = .ok (.iadd, 1) := by decide +kernel
theorem dX1_readDeed_131 : decode cX1_readDeed 131 = .ok (.putfield 19, 3) := by decide +kernel
theorem dX1_readDeed_134 : decode cX1_readDeed 134 = .ok (.aload_n 0, 1) := by decide +kernel
theorem dX1_readDeed_135 : decode cX1_readDeed 135 = .ok (.bipush 99, 2) := by decide +kernel
theorem dX1_readDeed_137 : decode cX1_readDeed 137 = .ok (.invokevirtual 80, 3) := by decide +kernel
theorem dX1_readDeed_140 : decode cX1_readDeed 140 = .ok (.ireturn, 1) := by decide +kernel
theorem dX1_readDeed_141 : decode cX1_readDeed 141 = .ok (.iconst 0, 1) := by decide +kernel
theorem dX1_readDeed_142 : decode cX1_readDeed 142 = .ok (.ireturn, 1) := by decide +kernel
set_option maxRecDepth 20000 in
theorem ggX1_readDeedKey_X1_readNumber : GoodIn wsX1_readDeedKey wsX1_readNumber := goodIn_r _ [7, 1, 8, 9, 10, 11, 6, 12, 13, 14, 15, 16, 17, 18, 19, 20, 21, 22, 23, 24, 25, 26, 27, 28, 29, 30, 31] (by decide +kernel) (by decide +kernel)
set_option maxRecDepth 20000 in
theorem gX1_readDeedKey_X1_readNumber : GoodIn wsX1_readDeedKey (wsV RX1 43 RX1 yX1_readNumber wsX1_readNumber) := goodIn_app (goodIn_of _ (by decide +kernel)) ggX1_readDeedKey_X1_readNumber
theorem dX1_readDeedKey_0 : decode cX1_readDeedKey 0 = .ok (.aload_n 0, 1) := by decide +kernel
theorem dX1_readDeedKey_1 : decode cX1_readDeedKey 1 = .ok (.iconst 0, 1) := by decide +kernel
theorem dX1_readDeedKey_2 : decode cX1_readDeedKey 2 = .ok (.bipush 35, 2) := by decide +kernel
theorem dX1_readDeedKey_4 : decode cX1_readDeedKey 4 = .ok (.invokevirtual 43, 3) := by decide +kernel
theorem dX1_readDeedKey_7 : decode cX1_readDeedKey 7 = .ok (.istore_n 1, 1) := by decide +kernel
theorem dX1_readDeedKey_8 : decode cX1_readDeedKey 8 = .ok (.aload_n 0, 1) := by decide +kernel
theorem dX1_readDeedKey_9 : decode cX1_readDeedKey 9 = .ok (.aload_n 0, 1) := by decide +kernel
theorem dX1_readDeedKey_10 : decode cX1_readDeedKey 10 = .ok (.getfield 47, 3) := by decide +kernel
theorem dX1_readDeedKey_13 : decode cX1_readDeedKey 13 = .ok (.putfield 83, 3) := by decide +kernel
theorem dX1_readDeedKey_16 : decode cX1_readDeedKey 16 = .ok (.iload_n 1, 1) := by decide +kernel
theorem dX1_readDeedKey_17 : decode cX1_readDeedKey 17 = .ok (.ireturn, 1) := by decide +kernel
set_option maxRecDepth 20000 in
theorem ggX1_readAmount_X1_readNumber : GoodIn wsX1_readAmount wsX1_readNumber := goodIn_r _ [7, 1, 8, 9, 10, 11, 6, 12, 13, 14, 15, 16, 17, 18, 19, 20, 21, 22, 23, 24, 25, 26, 27, 28, 29, 30, 31] (by decide +kernel) (by decide +kernel)
set_option maxRecDepth 20000 in
theorem gX1_readAmount_X1_readNumber : GoodIn wsX1_readAmount (wsV RX1 43 RX1 yX1_readNumber wsX1_readNumber) := goodIn_app (goodIn_of _ (by decide +kernel)) ggX1_readAmount_X1_readNumber
theorem dX1_readAmount_0 : decode cX1_readAmount 0 = .ok (.aload_n 0, 1) := by decide +kernel
theorem dX1_readAmount_1 : decode cX1_readAmount 1 = .ok (.iconst 1, 1) := by decide +kernel
theorem dX1_readAmount_2 : decode cX1_readAmount 2 = .ok (.iload_n 1, 1) := by decide +kernel
theorem dX1_readAmount_3 : decode cX1_readAmount 3 = .ok (.invokevirtual 43, 3) := by decide +kernel
theorem dX1_readAmount_6 : decode cX1_readAmount 6 = .ok (.istore_n 2, 1) := by decide +kernel
theorem dX1_readAmount_7 : decode cX1_readAmount 7 = .ok (.aload_n 0, 1) := by decide +kernel
theorem dX1_readAmount_8 : decode cX1_readAmount 8 = .ok (.aload_n 0, 1) := by decide +kernel
theorem dX1_readAmount_9 : decode cX1_readAmount 9 = .ok (.getfield 47, 3) := by decide +kernel
theorem dX1_readAmount_12 : decode cX1_readAmount 12 = .ok (.putfield 86, 3) := by decide +kernel
theorem dX1_readAmount_15 : decode cX1_readAmount 15 = .ok (.iload_n 2, 1) := by decide +kernel
theorem dX1_readAmount_16 : decode cX1_readAmount 16 = .ok (.ireturn, 1) := by decide +kernel
set_option maxRecDepth 20000 in
theorem ggX1_readNumber_X1_sign : GoodIn wsX1_readNumber wsX1_sign := goodIn_r _ [7, 2, 8, 9, 13, 14, 15, 16, 17, 18, 19, 20, 21, 22, 23, 24, 25, 26] (by decide +kernel) (by decide +kernel)
set_option maxRecDepth 20000 in
theorem gX1_readNumber_X1_sign : GoodIn wsX1_readNumber (wsV RX1 40 RX1 yX1_sign wsX1_sign) := goodIn_app (goodIn_of _ (by decide +kernel)) ggX1_readNumber_X1_sign
set_option maxRecDepth 20000 in
theorem ggX1_readNumber_X1_canBegin : GoodIn wsX1_readNumber wsX1_canBegin := goodIn_r _ [12] (by decide +kernel) (by decide +kernel)
set_option maxRecDepth 20000 in
theorem gX1_readNumber_X1_canBegin : GoodIn wsX1_readNumber (va_wsS RX1 89 yX1_canBegin wsX1_canBegin) := goodIn_app (goodIn_of _ (by decide +kernel)) ggX1_readNumber_X1_canBegin
theorem dX1_readNumber_0 : decode cX1_readNumber 0 = .ok (.aload_n 0, 1) := by decide +kernel
theorem dX1_readNumber_1 : decode cX1_readNumber 1 = .ok (.iconst 0, 1) := by decide +kernel
theorem dX1_readNumber_2 : decode cX1_readNumber 2 = .ok (.putfield 47, 3) := by decide +kernel
theorem dX1_readNumber_5 : decode cX1_readNumber 5 = .ok (.iconst 0, 1) := by decide +kernel
theorem dX1_readNumber_6 : decode cX1_readNumber 6 = .ok (.istore_n 3, 1) := by decide +kernel
theorem dX1_readNumber_7 : decode cX1_readNumber 7 = .ok (.iconst 0, 1) := by decide +kernel
theorem dX1_readNumber_8 : decode cX1_readNumber 8 = .ok (.istore 4, 2) := by decide +kernel
theorem dX1_readNumber_10 : decode cX1_readNumber 10 = .ok (.iload 4, 2) := by decide +kernel
theorem dX1_readNumber_12 : decode cX1_readNumber 12 = .ok (.iconst 2, 1) := by decide +kernel
theorem dX1_readNumber_13 : decode cX1_readNumber 13 = .ok (.if_icmp .ge 98, 3) := by decide +kernel
theorem dX1_readNumber_16 : decode cX1_readNumber 16 = .ok (.aload_n 0, 1) := by decide +kernel
theorem dX1_readNumber_17 : decode cX1_readNumber 17 = .ok (.invokevirtual 40, 3) := by decide +kernel
theorem dX1_readNumber_20 : decode cX1_readNumber 20 = .ok (.istore 5, 2) := by decide +kernel
theorem dX1_readNumber_22 : decode cX1_readNumber 22 = .ok (.bipush 10, 2) := by decide +kernel
theorem dX1_readNumber_24 : decode cX1_readNumber 24 = .ok (.aload_n 0, 1) := by decide +kernel
theorem dX1_readNumber_25 : decode cX1_readNumber 25 = .ok (.getfield 47, 3) := by decide +kernel
theorem dX1_readNumber_28 : decode cX1_readNumber 28 = .ok (.imul, 1) := by decide +kernel
theorem dX1_readNumber_29 : decode cX1_readNumber 29 = .ok (.iload 5, 2) := by decide +kernel
theorem dX1_readNumber_31 : decode cX1_readNumber 31 = .ok (.iadd, 1) := by decide +kernel
theorem dX1_readNumber_32 : decode cX1_readNumber 32 = .ok (.bipush 48, 2) := by decide +kernel
theorem dX1_readNumber_34 : decode cX1_readNumber 34 = .ok (.isub, 1) := by decide +kernel
theorem dX1_readNumber_35 : decode cX1_readNumber 35 = .ok (.istore 6, 2) := by decide +kernel
theorem dX1_readNumber_37 : decode cX1_readNumber 37 = .ok (.iload_n 3, 1) := by decide +kernel
theorem dX1_readNumber_38 : decode cX1_readNumber 38 = .ok (.ifCond .eq 14, 3) := by decide +kernel
theorem dX1_readNumber_41 : decode cX1_readNumber 41 = .ok (.aload_n 0, 1) := by decide +kernel
theorem dX1_readNumber_42 : decode cX1_readNumber 42 = .ok (.getfield 47, 3) := by decide +kernel
theorem dX1_readNumber_45 : decode cX1_readNumber 45 = .ok (.ifCond .ne 7, 3) := by decide +kernel
theorem dX1_readNumber_48 : decode cX1_readNumber 48 = .ok (.iconst 1, 1) := by decide +kernel
theorem dX1_readNumber_49 : decode cX1_readNumber 49 = .ok (.goto 4, 3) := by decide +kernel
theorem dX1_readNumber_52 : decode cX1_readNumber 52 = .ok (.iconst 0, 1) := by decide +kernel
theorem dX1_readNumber_53 : decode cX1_readNumber 53 = .ok (.istore 7, 2) := by decide +kernel
theorem dX1_readNumber_55 : decode cX1_readNumber 55 = .ok (.iload 5, 2) := by decide +kernel
theorem dX1_readNumber_57 : decode cX1_readNumber 57 = .ok (.bipush 48, 2) := by decide +kernel
theorem dX1_readNumber_59 : decode cX1_readNumber 59 = .ok (.if_icmp .lt 52, 3) := by decide +kernel
theorem dX1_readNumber_62 : decode cX1_readNumber 62 = .ok (.iload 5, 2) := by decide +kernel
theorem dX1_readNumber_64 : decode cX1_readNumber 64 = .ok (.bipush 57, 2) := by decide +kernel
theorem dX1_readNumber_66 : decode cX1_readNumber 66 = .ok (.if_icmp .gt 45, 3) := by decide +kernel
theorem dX1_readNumber_69 : decode cX1_readNumber 69 = .ok (.iload 7, 2) := by decide +kernel
theorem dX1_readNumber_71 : decode cX1_readNumber 71 = .ok (.ifCond .ne 40, 3) := by decide +kernel
theorem dX1_readNumber_74 : decode cX1_readNumber 74 = .ok (.iload 6, 2) := by decide +kernel
theorem dX1_readNumber_76 : decode cX1_readNumber 76 = .ok (.iload_n 1, 1) := by decide +kernel
theorem dX1_readNumber_77 : decode cX1_readNumber 77 = .ok (.iload_n 2, 1) := by decide +kernel
theorem dX1_readNumber_78 : decode cX1_readNumber 78 = .ok (.invokestatic 89, 3) := by decide +kernel
theorem dX1_readNumber_81 : decode cX1_readNumber 81 = .ok (.ifCond .ne 6, 3) := by decide +kernel
theorem dX1_readNumber_84 : decode cX1_readNumber 84 = .ok (.goto 27, 3) := by decide +kernel
theorem dX1_readNumber_87 : decode cX1_readNumber 87 = .ok (.aload_n 0, 1) := by decide +kernel
theorem dX1_readNumber_88 : decode cX1_readNumber 88 = .ok (.iload 6, 2) := by decide +kernel
theorem dX1_readNumber_90 : decode cX1_readNumber 90 = .ok (.putfield 47, 3) := by decide +kernel
theorem dX1_readNumber_93 : decode cX1_readNumber 93 = .ok (.iconst 1, 1) := by decide +kernel
theorem dX1_readNumber_94 : decode cX1_readNumber 94 = .ok (.istore_n 3, 1) := by decide +kernel
theorem dX1_readNumber_95 : decode cX1_readNumber 95 = .ok (.aload_n 0, 1) := by decide +kernel
theorem dX1_readNumber_96 : decode cX1_readNumber 96 = .ok (.dup, 1) := by decide +kernel
theorem dX1_readNumber_97 : decode cX1_readNumber 97 = .ok (.getfield 19, 3) := by decide +kernel
theorem dX1_readNumber_100 : decode cX1_readNumber 100 = .ok (.iconst 1, 1) := by decide +kernel
theorem dX1_readNumber_101 : decode cX1_readNumber 101 = .ok (.iadd, 1) := by decide +kernel
theorem dX1_readNumber_102 : decode cX1_readNumber 102 = .ok (.putfield 19, 3) := by decide +kernel
theorem dX1_readNumber_105 : decode cX1_readNumber 105 = .ok (.iinc 4 1, 3) := by decide +kernel
theorem dX1_readNumber_108 : decode cX1_readNumber 108 = .ok (.goto (-98), 3) := by decide +kernel
theorem dX1_readNumber_111 : decode cX1_readNumber 111 = .ok (.iload_n 3, 1) := by decide +kernel
theorem dX1_readNumber_112 : decode cX1_readNumber 112 = .ok (.ifCond .eq 23, 3) := by decide +kernel
theorem dX1_readNumber_115 : decode cX1_readNumber 115 = .ok (.aload_n 0, 1) := by decide +kernel
theorem dX1_readNumber_116 : decode cX1_readNumber 116 = .ok (.getfield 47, 3) := by decide +kernel
theorem dX1_readNumber_119 : decode cX1_readNumber 119 = .ok (.iload_n 1, 1) := by decide +kernel
theorem dX1_readNumber_120 : decode cX1_readNumber 120 = .ok (.if_icmp .lt 15, 3) := by decide +kernel
theorem dX1_readNumber_123 : decode cX1_readNumber 123 = .ok (.aload_n 0, 1) := by decide +kernel
theorem dX1_readNumber_124 : decode cX1_readNumber 124 = .ok (.getfield 47, 3) := by decide +kernel
theorem dX1_readNumber_127 : decode cX1_readNumber 127 = .ok (.iload_n 2, 1) := by decide +kernel
theorem dX1_readNumber_128 : decode cX1_readNumber 128 = .ok (.if_icmp .gt 7, 3) := by decide +kernel
theorem dX1_readNumber_131 : decode cX1_readNumber 131 = .ok (.iconst 1, 1) := by decide +kernel
theorem dX1_readNumber_132 : decode cX1_readNumber 132 = .ok (.goto 4, 3) := by decide +kernel
theorem dX1_readNumber_135 : decode cX1_readNumber 135 = .ok (.iconst 0, 1) := by decide +kernel
theorem dX1_readNumber_136 : decode cX1_readNumber 136 = .ok (.ireturn, 1) := by decide +kernel
theorem dX1_canBegin_0 : decode cX1_canBegin 0 = .ok (.iload_n 0, 1) := by decide +kernel
theorem dX1_canBegin_1 : decode cX1_canBegin 1 = .ok (.iload_n 1, 1) := by decide +kernel
theorem dX1_canBegin_2 : decode cX1_canBegin 2 = .ok (.if_icmp .lt 12, 3) := by decide +kernel
theorem dX1_canBegin_5 : decode cX1_canBegin 5 = .ok (.iload_n 0, 1) := by decide +kernel
theorem dX1_canBegin_6 : decode cX1_canBegin 6 = .ok (.iload_n 2, 1) := by decide +kernel
theorem dX1_canBegin_7 : decode cX1_canBegin 7 = .ok (.if_icmp .gt 7, 3) := by decide +kernel
theorem dX1_canBegin_10 : decode cX1_canBegin 10 = .ok (.iconst 1, 1) := by decide +kernel
theorem dX1_canBegin_11 : decode cX1_canBegin 11 = .ok (.goto 4, 3) := by decide +kernel
theorem dX1_canBegin_14 : decode cX1_canBegin 14 = .ok (.iconst 0, 1) := by decide +kernel
theorem dX1_canBegin_15 : decode cX1_canBegin 15 = .ok (.istore_n 3, 1) := by decide +kernel
theorem dX1_canBegin_16 : decode cX1_canBegin 16 = .ok (.iload_n 0, 1) := by decide +kernel
theorem dX1_canBegin_17 : decode cX1_canBegin 17 = .ok (.ifCond .le 26, 3) := by decide +kernel
theorem dX1_canBegin_20 : decode cX1_canBegin 20 = .ok (.bipush 10, 2) := by decide +kernel
theorem dX1_canBegin_22 : decode cX1_canBegin 22 = .ok (.iload_n 0, 1) := by decide +kernel
theorem dX1_canBegin_23 : decode cX1_canBegin 23 = .ok (.imul, 1) := by decide +kernel
theorem dX1_canBegin_24 : decode cX1_canBegin 24 = .ok (.iload_n 2, 1) := by decide +kernel
theorem dX1_canBegin_25 : decode cX1_canBegin 25 = .ok (.if_icmp .gt 18, 3) := by decide +kernel
theorem dX1_canBegin_28 : decode cX1_canBegin 28 = .ok (.bipush 10, 2) := by decide +kernel
theorem dX1_canBegin_30 : decode cX1_canBegin 30 = .ok (.iload_n 0, 1) := by decide +kernel
theorem dX1_canBegin_31 : decode cX1_canBegin 31 = .ok (.imul, 1) := by decide +kernel
theorem dX1_canBegin_32 : decode cX1_canBegin 32 = .ok (.bipush 9, 2) := by decide +kernel
theorem dX1_canBegin_34 : decode cX1_canBegin 34 = .ok (.iadd, 1) := by decide +kernel
theorem dX1_canBegin_35 : decode cX1_canBegin 35 = .ok (.iload_n 1, 1) := by decide +kernel
theorem dX1_canBegin_36 : decode cX1_canBegin 36 = .ok (.if_icmp .lt 7, 3) := by decide +kernel
theorem dX1_canBegin_39 : decode cX1_canBegin 39 = .ok (.iconst 1, 1) := by decide +kernel
theorem dX1_canBegin_40 : decode cX1_canBegin 40 = .ok (.goto 4, 3) := by decide +kernel
theorem dX1_canBegin_43 : decode cX1_canBegin 43 = .ok (.iconst 0, 1) := by decide +kernel
theorem dX1_canBegin_44 : decode cX1_canBegin 44 = .ok (.istore 4, 2) := by decide +kernel
theorem dX1_canBegin_46 : decode cX1_canBegin 46 = .ok (.iload_n 3, 1) := by decide +kernel
theorem dX1_canBegin_47 : decode cX1_canBegin 47 = .ok (.ifCond .ne 8, 3) := by decide +kernel
theorem dX1_canBegin_50 : decode cX1_canBegin 50 = .ok (.iload 4, 2) := by decide +kernel
theorem dX1_canBegin_52 : decode cX1_canBegin 52 = .ok (.ifCond .eq 7, 3) := by decide +kernel
theorem dX1_canBegin_55 : decode cX1_canBegin 55 = .ok (.iconst 1, 1) := by decide +kernel
theorem dX1_canBegin_56 : decode cX1_canBegin 56 = .ok (.goto 4, 3) := by decide +kernel
theorem dX1_canBegin_59 : decode cX1_canBegin 59 = .ok (.iconst 0, 1) := by decide +kernel
theorem dX1_canBegin_60 : decode cX1_canBegin 60 = .ok (.ireturn, 1) := by decide +kernel
theorem dX1_sign_0 : decode cX1_sign 0 = .ok (.aload_n 0, 1) := by decide +kernel
theorem dX1_sign_1 : decode cX1_sign 1 = .ok (.getfield 19, 3) := by decide +kernel
theorem dX1_sign_4 : decode cX1_sign 4 = .ok (.ifCond .lt 38, 3) := by decide +kernel
theorem dX1_sign_7 : decode cX1_sign 7 = .ok (.aload_n 0, 1) := by decide +kernel
theorem dX1_sign_8 : decode cX1_sign 8 = .ok (.getfield 19, 3) := by decide +kernel
theorem dX1_sign_11 : decode cX1_sign 11 = .ok (.aload_n 0, 1) := by decide +kernel
theorem dX1_sign_12 : decode cX1_sign 12 = .ok (.getfield 15, 3) := by decide +kernel
theorem dX1_sign_15 : decode cX1_sign 15 = .ok (.if_icmp .ge 27, 3) := by decide +kernel
theorem dX1_sign_18 : decode cX1_sign 18 = .ok (.aload_n 0, 1) := by decide +kernel
theorem dX1_sign_19 : decode cX1_sign 19 = .ok (.getfield 19, 3) := by decide +kernel
theorem dX1_sign_22 : decode cX1_sign 22 = .ok (.aload_n 0, 1) := by decide +kernel
theorem dX1_sign_23 : decode cX1_sign 23 = .ok (.getfield 9, 3) := by decide +kernel
theorem dX1_sign_26 : decode cX1_sign 26 = .ok (.arraylength, 1) := by decide +kernel
theorem dX1_sign_27 : decode cX1_sign 27 = .ok (.if_icmp .ge 15, 3) := by decide +kernel
theorem dX1_sign_30 : decode cX1_sign 30 = .ok (.aload_n 0, 1) := by decide +kernel
theorem dX1_sign_31 : decode cX1_sign 31 = .ok (.getfield 9, 3) := by decide +kernel
theorem dX1_sign_34 : decode cX1_sign 34 = .ok (.aload_n 0, 1) := by decide +kernel
theorem dX1_sign_35 : decode cX1_sign 35 = .ok (.getfield 19, 3) := by decide +kernel
theorem dX1_sign_38 : decode cX1_sign 38 = .ok (.caload, 1) := by decide +kernel
theorem dX1_sign_39 : decode cX1_sign 39 = .ok (.goto 4, 3) := by decide +kernel
theorem dX1_sign_42 : decode cX1_sign 42 = .ok (.iconst 0, 1) := by decide +kernel
theorem dX1_sign_43 : decode cX1_sign 43 = .ok (.ireturn, 1) := by decide +kernel
set_option maxRecDepth 20000 in
theorem ggX2_init_X4_init : GoodIn wsX2_init wsX4_init := goodIn_r _ [13, 14, 2, 3, 15, 9, 16, 22, 23, 24] (by decide +kernel) (by decide +kernel)
set_option maxRecDepth 20000 in
theorem gX2_init_X4_init : GoodIn wsX2_init (wsX4_init) := ggX2_init_X4_init
set_option maxRecDepth 20000 in
theorem ggX2_init_X2_putNumber : GoodIn wsX2_init wsX2_putNumber := goodIn_r _ [21, 10, 25, 26, 27, 28, 29] (by decide +kernel) (by decide +kernel)
set_option maxRecDepth 20000 in
theorem gX2_init_X2_putNumber : GoodIn wsX2_init (wsV RX2 27 RX2 yX2_putNumber wsX2_putNumber) := goodIn_app (goodIn_of _ (by decide +kernel)) ggX2_init_X2_putNumber
theorem dX2_init_0 : decode cX2_init 0 = .ok (.aload_n 0, 1) := by decide +kernel
theorem dX2_init_1 : decode cX2_init 1 = .ok (.invokespecial 3, 3) := by decide +kernel
theorem dX2_init_4 : decode cX2_init 4 = .ok (.aload_n 0, 1) := by decide +kernel
theorem dX2_init_5 : decode cX2_init 5 = .ok (.new 9, 3) := by decide +kernel
theorem dX2_init_8 : decode cX2_init 8 = .ok (.dup, 1) := by decide +kernel
theorem dX2_init_9 : decode cX2_init 9 = .ok (.bipush 10, 2) := by decide +kernel
theorem dX2_init_11 : decode cX2_init 11 = .ok (.bipush 7, 2) := by decide +kernel
theorem dX2_init_13 : decode cX2_init 13 = .ok (.invokespecial 11, 3) := by decide +kernel
theorem dX2_init_16 : decode cX2_init 16 = .ok (.putfield 14, 3) := by decide +kernel
theorem dX2_init_19 : decode cX2_init 19 = .ok (.aload_n 0, 1) := by decide +kernel
theorem dX2_init_20 : decode cX2_init 20 = .ok (.new 9, 3) := by decide +kernel
theorem dX2_init_23 : decode cX2_init 23 = .ok (.dup, 1) := by decide +kernel
theorem dX2_init_24 : decode cX2_init 24 = .ok (.bipush 8, 2) := by decide +kernel
theorem dX2_init_26 : decode cX2_init 26 = .ok (.bipush 7, 2) := by decide +kernel
theorem dX2_init_28 : decode cX2_init 28 = .ok (.invokespecial 11, 3) := by decide +kernel
theorem dX2_init_31 : decode cX2_init 31 = .ok (.putfield 20, 3) := by decide +kernel
theorem dX2_init_34 : decode cX2_init 34 = .ok (.aload_n 0, 1) := by decide +kernel
theorem dX2_init_35 : decode cX2_init 35 = .ok (.bipush 13, 2) := by decide +kernel
theorem dX2_init_37 : decode cX2_init 37 = .ok (.newarray .int, 2) := by decide +kernel
theorem dX2_init_39 : decode cX2_init 39 = .ok (.putfield 23, 3) := by decide +kernel
theorem dX2_init_42 : decode cX2_init 42 = .ok (.aload_n 0, 1) := by decide +kernel
theorem dX2_init_43 : decode cX2_init 43 = .ok (.bipush 6, 2) := by decide +kernel
theorem dX2_init_45 : decode cX2_init 45 = .ok (.bipush 6, 2) := by decide +kernel
theorem dX2_init_47 : decode cX2_init 47 = .ok (.invokevirtual 27, 3) := by decide +kernel
theorem dX2_init_50 : decode cX2_init 50 = .ok (.aload_n 0, 1) := by decide +kernel
theorem dX2_init_51 : decode cX2_init 51 = .ok (.bipush 7, 2) := by decide +kernel
theorem dX2_init_53 : decode cX2_init 53 = .ok (.iconst 0, 1) := by decide +kernel
theorem dX2_init_54 : decode cX2_init 54 = .ok (.invokevirtual 27, 3) := by decide +kernel
theorem dX2_init_57 : decode cX2_init 57 = .ok (.aload_n 0, 1) := by decide +kernel
theorem dX2_init_58 : decode cX2_init 58 = .ok (.bipush 8, 2) := by decide +kernel
theorem dX2_init_60 : decode cX2_init 60 = .ok (.bipush 10, 2) := by decide +kernel
theorem dX2_init_62 : decode cX2_init 62 = .ok (.invokevirtual 27, 3) := by decide +kernel
theorem dX2_init_65 : decode cX2_init 65 = .ok (.return_, 1) := by decide +kernel
set_option maxRecDepth 20000 in
theorem ggX2_copyFrom_X4_copyFrom : GoodIn wsX2_copyFrom wsX4_copyFrom := goodIn_r _ [18, 19, 20, 5, 6, 7, 21, 9, 10, 11, 22, 28, 29, 30] (by decide +kernel) (by decide +kernel)
set_option maxRecDepth 20000 in
theorem gX2_copyFrom_X4_copyFrom : GoodIn wsX2_copyFrom (wsV RX2 30 RX4 yX4_copyFrom wsX4_copyFrom) := goodIn_app (goodIn_of _ (by decide +kernel)) ggX2_copyFrom_X4_copyFrom
theorem dX2_copyFrom_0 : decode cX2_copyFrom 0 = .ok (.aload_n 0, 1) := by decide +kernel
theorem dX2_copyFrom_1 : decode cX2_copyFrom 1 = .ok (.getfield 14, 3) := by decide +kernel
theorem dX2_copyFrom_4 : decode cX2_copyFrom 4 = .ok (.aload_n 1, 1) := by decide +kernel
theorem dX2_copyFrom_5 : decode cX2_copyFrom 5 = .ok (.getfield 14, 3) := by decide +kernel
theorem dX2_copyFrom_8 : decode cX2_copyFrom 8 = .ok (.invokevirtual 30, 3) := by decide +kernel
theorem dX2_copyFrom_11 : decode cX2_copyFrom 11 = .ok (.aload_n 0, 1) := by decide +kernel
theorem dX2_copyFrom_12 : decode cX2_copyFrom 12 = .ok (.getfield 20, 3) := by decide +kernel
theorem dX2_copyFrom_15 : decode cX2_copyFrom 15 = .ok (.aload_n 1, 1) := by decide +kernel
theorem dX2_copyFrom_16 : decode cX2_copyFrom 16 = .ok (.getfield 20, 3) := by decide +kernel
theorem dX2_copyFrom_19 : decode cX2_copyFrom 19 = .ok (.invokevirtual 30, 3) := by decide +kernel
theorem dX2_copyFrom_22 : decode cX2_copyFrom 22 = .ok (.aload_n 1, 1) := by decide +kernel
theorem dX2_copyFrom_23 : decode cX2_copyFrom 23 = .ok (.getfield 23, 3) := by decide +kernel
theorem dX2_copyFrom_26 : decode cX2_copyFrom 26 = .ok (.iconst 0, 1) := by decide +kernel
theorem dX2_copyFrom_27 : decode cX2_copyFrom 27 = .ok (.aload_n 0, 1) := by decide +kernel
theorem dX2_copyFrom_28 : decode cX2_copyFrom 28 = .ok (.getfield 23, 3) := by decide +kernel
theorem dX2_copyFrom_31 : decode cX2_copyFrom 31 = .ok (.iconst 0, 1) := by decide +kernel
theorem dX2_copyFrom_32 : decode cX2_copyFrom 32 = .ok (.aload_n 0, 1) := by decide +kernel
theorem dX2_copyFrom_33 : decode cX2_copyFrom 33 = .ok (.getfield 23, 3) := by decide +kernel
theorem dX2_copyFrom_36 : decode cX2_copyFrom 36 = .ok (.arraylength, 1) := by decide +kernel
theorem dX2_copyFrom_37 : decode cX2_copyFrom 37 = .ok (.aload_n 1, 1) := by decide +kernel
theorem dX2_copyFrom_38 : decode cX2_copyFrom 38 = .ok (.getfield 23, 3) := by decide +kernel
theorem dX2_copyFrom_41 : decode cX2_copyFrom 41 = .ok (.arraylength, 1) := by decide +kernel
theorem dX2_copyFrom_42 : decode cX2_copyFrom 42 = .ok (.invokestatic 34, 3) := by decide +kernel
theorem dX2_copyFrom_45 : decode cX2_copyFrom 45 = .ok (.invokestatic 40, 3) := by decide +kernel
theorem dX2_copyFrom_48 : decode cX2_copyFrom 48 = .ok (.aload_n 0, 1) := by decide +kernel
theorem dX2_copyFrom_49 : decode cX2_copyFrom 49 = .ok (.aload_n 1, 1) := by decide +kernel
theorem dX2_copyFrom_50 : decode cX2_copyFrom 50 = .ok (.getfield 46, 3) := by decide +kernel
theorem dX2_copyFrom_53 : decode cX2_copyFrom 53 = .ok (.putfield 46, 3) := by decide +kernel
theorem dX2_copyFrom_56 : decode cX2_copyFrom 56 = .ok (.aload_n 0, 1) := by decide +kernel
theorem dX2_copyFrom_57 : decode cX2_copyFrom 57 = .ok (.aload_n 1, 1) := by decide +kernel
theorem dX2_copyFrom_58 : decode cX2_copyFrom 58 = .ok (.getfield 50, 3) := by decide +kernel
theorem dX2_copyFrom_61 : decode cX2_copyFrom 61 = .ok (.putfield 50, 3) := by decide +kernel
theorem dX2_copyFrom_64 : decode cX2_copyFrom 64 = .ok (.return_, 1) := by decide +kernel
theorem dX2_number_0 : decode cX2_number 0 = .ok (.iload_n 1, 1) := by decide +kernel
theorem dX2_number_1 : decode cX2_number 1 = .ok (.ifCond .lt 21, 3) := by decide +kernel
theorem dX2_number_4 : decode cX2_number 4 = .ok (.iload_n 1, 1) := by decide +kernel
theorem dX2_number_5 : decode cX2_number 5 = .ok (.aload_n 0, 1) := by decide +kernel
theorem dX2_number_6 : decode cX2_number 6 = .ok (.getfield 23, 3) := by decide +kernel
theorem dX2_number_9 : decode cX2_number 9 = .ok (.arraylength, 1) := by decide +kernel
theorem dX2_number_10 : decode cX2_number 10 = .ok (.if_icmp .ge 12, 3) := by decide +kernel
theorem dX2_number_13 : decode cX2_number 13 = .ok (.aload_n 0, 1) := by decide +kernel
theorem dX2_number_14 : decode cX2_number 14 = .ok (.getfield 23, 3) := by decide +kernel
theorem dX2_number_17 : decode cX2_number 17 = .ok (.iload_n 1, 1) := by decide +kernel
theorem dX2_number_18 : decode cX2_number 18 = .ok (.iaload, 1) := by decide +kernel
theorem dX2_number_19 : decode cX2_number 19 = .ok (.goto 4, 3) := by decide +kernel
theorem dX2_number_22 : decode cX2_number 22 = .ok (.iconst 0, 1) := by decide +kernel
theorem dX2_number_23 : decode cX2_number 23 = .ok (.ireturn, 1) := by decide +kernel
theorem dX2_putNumber_0 : decode cX2_putNumber 0 = .ok (.iload_n 1, 1) := by decide +kernel
theorem dX2_putNumber_1 : decode cX2_putNumber 1 = .ok (.ifCond .lt 19, 3) := by decide +kernel
theorem dX2_putNumber_4 : decode cX2_putNumber 4 = .ok (.iload_n 1, 1) := by decide +kernel
theorem dX2_putNumber_5 : decode cX2_putNumber 5 = .ok (.aload_n 0, 1) := by decide +kernel
theorem dX2_putNumber_6 : decode cX2_putNumber 6 = .ok (.getfield 23, 3) := by decide +kernel
theorem dX2_putNumber_9 : decode cX2_putNumber 9 = .ok (.arraylength, 1) := by decide +kernel
theorem dX2_putNumber_10 : decode cX2_putNumber 10 = .ok (.if_icmp .ge 10, 3) := by decide +kernel
theorem dX2_putNumber_13 : decode cX2_putNumber 13 = .ok (.aload_n 0, 1) := by decide +kernel
theorem dX2_putNumber_14 : decode cX2_putNumber 14 = .ok (.getfield 23, 3) := by decide +kernel
theorem dX2_putNumber_17 : decode cX2_putNumber 17 = .ok (.iload_n 1, 1) := by decide +kernel
theorem dX2_putNumber_18 : decode cX2_putNumber 18 = .ok (.iload_n 2, 1) := by decide +kernel
theorem dX2_putNumber_19 : decode cX2_putNumber 19 = .ok (.iastore, 1) := by decide +kernel
theorem dX2_putNumber_20 : decode cX2_putNumber 20 = .ok (.return_, 1) := by decide +kernel
set_option maxRecDepth 20000 in
theorem ggX2_grow_X2_number : GoodIn wsX2_grow wsX2_number := goodIn_r _ [5, 6, 11, 12, 13, 14, 15] (by decide +kernel) (by decide +kernel)
set_option maxRecDepth 20000 in
theorem gX2_grow_X2_number : GoodIn wsX2_grow (wsV RX2 54 RX2 yX2_number wsX2_number) := goodIn_app (goodIn_of _ (by decide +kernel)) ggX2_grow_X2_number
set_option maxRecDepth 20000 in
theorem ggX2_grow_X2_putNumber : GoodIn wsX2_grow wsX2_putNumber := goodIn_r _ [10, 6, 11, 12, 13, 14, 15] (by decide +kernel) (by decide +kernel)
set_option maxRecDepth 20000 in
theorem gX2_grow_X2_putNumber : GoodIn wsX2_grow (wsV RX2 27 RX2 yX2_putNumber wsX2_putNumber) := goodIn_app (goodIn_of _ (by decide +kernel)) ggX2_grow_X2_putNumber
theorem dX2_grow_0 : decode cX2_grow 0 = .ok (.aload_n 0, 1) := by decide +kernel
theorem dX2_grow_1 : decode cX2_grow 1 = .ok (.iload_n 1, 1) := by decide +kernel
theorem dX2_grow_2 : decode cX2_grow 2 = .ok (.aload_n 0, 1) := by decide +kernel
theorem dX2_grow_3 : decode cX2_grow 3 = .ok (.iload_n 1, 1) := by decide +kernel
theorem dX2_grow_4 : decode cX2_grow 4 = .ok (.invokevirtual 54, 3) := by decide +kernel
theorem dX2_grow_7 : decode cX2_grow 7 = .ok (.iload_n 2, 1) := by decide +kernel
theorem dX2_grow_8 : decode cX2_grow 8 = .ok (.iadd, 1) := by decide +kernel
theorem dX2_grow_9 : decode cX2_grow 9 = .ok (.invokevirtual 27, 3) := by decide +kernel
theorem dX2_grow_12 : decode cX2_grow 12 = .ok (.return_, 1) := by decide +kernel
set_option maxRecDepth 20000 in
theorem ggX2_addZone_X4_addRow : GoodIn wsX2_addZone wsX4_addRow := goodIn_r _ [6, 7, 8, 9, 24, 25, 26] (by decide +kernel) (by decide +kernel)
set_option maxRecDepth 20000 in
theorem gX2_addZone_X4_addRow : GoodIn wsX2_addZone (wsV RX2 58 RX4 yX4_addRow wsX4_addRow) := goodIn_app (goodIn_of _ (by decide +kernel)) ggX2_addZone_X4_addRow
set_option maxRecDepth 20000 in
theorem ggX2_addZone_X4_put : GoodIn wsX2_addZone wsX4_put := goodIn_r _ [13, 7, 8, 9, 24, 25, 26] (by decide +kernel) (by decide +kernel)
set_option maxRecDepth 20000 in
theorem gX2_addZone_X4_put : GoodIn wsX2_addZone (wsV RX2 62 RX4 yX4_put wsX4_put) := goodIn_app (goodIn_of _ (by decide +kernel)) ggX2_addZone_X4_put
set_option maxRecDepth 20000 in
theorem ggX2_addZone_X2_shapeZone : GoodIn wsX2_addZone wsX2_shapeZone := goodIn_r _ [18, 1, 10, 11, 12, 5, 13, 7, 8, 9, 19, 20, 21, 22, 23, 24, 25, 26] (by decide +kernel) (by decide +kernel)
set_option maxRecDepth 20000 in
theorem gX2_addZone_X2_shapeZone : GoodIn wsX2_addZone (wsV RX2 66 RX2 yX2_shapeZone wsX2_shapeZone) := goodIn_app (goodIn_of _ (by decide +kernel)) ggX2_addZone_X2_shapeZone
theorem dX2_addZone_0 : decode cX2_addZone 0 = .ok (.aload_n 0, 1) := by decide +kernel
theorem dX2_addZone_1 : decode cX2_addZone 1 = .ok (.getfield 14, 3) := by decide +kernel
theorem dX2_addZone_4 : decode cX2_addZone 4 = .ok (.invokevirtual 58, 3) := by decide +kernel
theorem dX2_addZone_7 : decode cX2_addZone 7 = .ok (.istore 5, 2) := by decide +kernel
theorem dX2_addZone_9 : decode cX2_addZone 9 = .ok (.aload_n 0, 1) := by decide +kernel
theorem dX2_addZone_10 : decode cX2_addZone 10 = .ok (.getfield 14, 3) := by decide +kernel
theorem dX2_addZone_13 : decode cX2_addZone 13 = .ok (.iload 5, 2) := by decide +kernel
theorem dX2_addZone_15 : decode cX2_addZone 15 = .ok (.iconst 0, 1) := by decide +kernel
theorem dX2_addZone_16 : decode cX2_addZone 16 = .ok (.iload_n 1, 1) := by decide +kernel
theorem dX2_addZone_17 : decode cX2_addZone 17 = .ok (.invokevirtual 62, 3) := by decide +kernel
theorem dX2_addZone_20 : decode cX2_addZone 20 = .ok (.aload_n 0, 1) := by decide +kernel
theorem dX2_addZone_21 : decode cX2_addZone 21 = .ok (.getfield 14, 3) := by decide +kernel
theorem dX2_addZone_24 : decode cX2_addZone 24 = .ok (.iload 5, 2) := by decide +kernel
theorem dX2_addZone_26 : decode cX2_addZone 26 = .ok (.iconst 1, 1) := by decide +kernel
theorem dX2_addZone_27 : decode cX2_addZone 27 = .ok (.iload_n 2, 1) := by decide +kernel
theorem dX2_addZone_28 : decode cX2_addZone 28 = .ok (.invokevirtual 62, 3) := by decide +kernel
theorem dX2_addZone_31 : decode cX2_addZone 31 = .ok (.aload_n 0, 1) := by decide +kernel
theorem dX2_addZone_32 : decode cX2_addZone 32 = .ok (.getfield 14, 3) := by decide +kernel
theorem dX2_addZone_35 : decode cX2_addZone 35 = .ok (.iload 5, 2) := by decide +kernel
theorem dX2_addZone_37 : decode cX2_addZone 37 = .ok (.iconst 2, 1) := by decide +kernel
theorem dX2_addZone_38 : decode cX2_addZone 38 = .ok (.iload_n 3, 1) := by decide +kernel
theorem dX2_addZone_39 : decode cX2_addZone 39 = .ok (.invokevirtual 62, 3) := by decide +kernel
theorem dX2_addZone_42 : decode cX2_addZone 42 = .ok (.aload_n 0, 1) := by decide +kernel
theorem dX2_addZone_43 : decode cX2_addZone 43 = .ok (.getfield 14, 3) := by decide +kernel
theorem dX2_addZone_46 : decode cX2_addZone 46 = .ok (.iload 5, 2) := by decide +kernel
theorem dX2_addZone_48 : decode cX2_addZone 48 = .ok (.iconst 3, 1) := by decide +kernel
theorem dX2_addZone_49 : decode cX2_addZone 49 = .ok (.iload 4, 2) := by decide +kernel
theorem dX2_addZone_51 : decode cX2_addZone 51 = .ok (.invokevirtual 62, 3) := by decide +kernel
theorem dX2_addZone_54 : decode cX2_addZone 54 = .ok (.aload_n 0, 1) := by decide +kernel
theorem dX2_addZone_55 : decode cX2_addZone 55 = .ok (.iload 5, 2) := by decide +kernel
theorem dX2_addZone_57 : decode cX2_addZone 57 = .ok (.iconst 0, 1) := by decide +kernel
theorem dX2_addZone_58 : decode cX2_addZone 58 = .ok (.iconst 0, 1) := by decide +kernel
theorem dX2_addZone_59 : decode cX2_addZone 59 = .ok (.bipush 60, 2) := by decide +kernel
theorem dX2_addZone_61 : decode cX2_addZone 61 = .ok (.invokevirtual 66, 3) := by decide +kernel
theorem dX2_addZone_64 : decode cX2_addZone 64 = .ok (.iload 5, 2) := by decide +kernel
theorem dX2_addZone_66 : decode cX2_addZone 66 = .ok (.ireturn, 1) := by decide +kernel
set_option maxRecDepth 20000 in
theorem ggX2_shapeZone_X4_put : GoodIn wsX2_shapeZone wsX4_put := goodIn_r _ [6, 7, 8, 9, 15, 16, 17] (by decide +kernel) (by decide +kernel)
set_option maxRecDepth 20000 in
theorem gX2_shapeZone_X4_put : GoodIn wsX2_shapeZone (wsV RX2 62 RX4 yX4_put wsX4_put) := goodIn_app (goodIn_of _ (by decide +kernel)) ggX2_shapeZone_X4_put
theorem dX2_shapeZone_0 : decode cX2_shapeZone 0 = .ok (.aload_n 0, 1) := by decide +kernel
theorem dX2_shapeZone_1 : decode cX2_shapeZone 1 = .ok (.getfield 14, 3) := by decide +kernel
theorem dX2_shapeZone_4 : decode cX2_shapeZone 4 = .ok (.iload_n 1, 1) := by decide +kernel
theorem dX2_shapeZone_5 : decode cX2_shapeZone 5 = .ok (.iconst 4, 1) := by decide +kernel
theorem dX2_shapeZone_6 : decode cX2_shapeZone 6 = .ok (.iload_n 2, 1) := by decide +kernel
theorem dX2_shapeZone_7 : decode cX2_shapeZone 7 = .ok (.invokevirtual 62, 3) := by decide +kernel
theorem dX2_shapeZone_10 : decode cX2_shapeZone 10 = .ok (.aload_n 0, 1) := by decide +kernel
theorem dX2_shapeZone_11 : decode cX2_shapeZone 11 = .ok (.getfield 14, 3) := by decide +kernel
theorem dX2_shapeZone_14 : decode cX2_shapeZone 14 = .ok (.iload_n 1, 1) := by decide +kernel
theorem dX2_shapeZone_15 : decode cX2_shapeZone 15 = .ok (.iconst 5, 1) := by decide +kernel
theorem dX2_shapeZone_16 : decode cX2_shapeZone 16 = .ok (.iload_n 3, 1) := by decide +kernel
theorem dX2_shapeZone_17 : decode cX2_shapeZone 17 = .ok (.invokevirtual 62, 3) := by decide +kernel
theorem dX2_shapeZone_20 : decode cX2_shapeZone 20 = .ok (.aload_n 0, 1) := by decide +kernel
theorem dX2_shapeZone_21 : decode cX2_shapeZone 21 = .ok (.getfield 14, 3) := by decide +kernel
theorem dX2_shapeZone_24 : decode cX2_shapeZone 24 = .ok (.iload_n 1, 1) := by decide +kernel
theorem dX2_shapeZone_25 : decode cX2_shapeZone 25 = .ok (.bipush 6, 2) := by decide +kernel
theorem dX2_shapeZone_27 : decode cX2_shapeZone 27 = .ok (.iload 4, 2) := by decide +kernel
theorem dX2_shapeZone_29 : decode cX2_shapeZone 29 = .ok (.invokevirtual 62, 3) := by decide +kernel
theorem dX2_shapeZone_32 : decode cX2_shapeZone 32 = .ok (.return_, 1) := by decide +kernel
set_option maxRecDepth 20000 in
theorem ggX2_dropZone_X4_rows : GoodIn wsX2_dropZone wsX4_rows := goodIn_r _ [7, 8, 46, 47, 48] (by decide +kernel) (by decide +kernel)
set_option maxRecDepth 20000 in
theorem gX2_dropZone_X4_rows : GoodIn wsX2_dropZone (wsV RX2 70 RX4 yX4_rows wsX4_rows) := goodIn_app (goodIn_of _ (by decide +kernel)) ggX2_dropZone_X4_rows
set_option maxRecDepth 20000 in
theorem ggX2_dropZone_X4_get : GoodIn wsX2_dropZone wsX4_get := goodIn_r _ [12, 8, 13, 14, 46, 47, 48] (by decide +kernel) (by decide +kernel)
set_option maxRecDepth 20000 in
theorem gX2_dropZone_X4_get : GoodIn wsX2_dropZone (wsV RX2 73 RX4 yX4_get wsX4_get) := goodIn_app (goodIn_of _ (by decide +kernel)) ggX2_dropZone_X4_get
set_option maxRecDepth 20000 in
theorem ggX2_dropZone_X4_removeRow : GoodIn wsX2_dropZone wsX4_removeRow := goodIn_r _ [18, 13, 14, 8, 19, 20, 21, 6, 22, 46, 47, 48] (by decide +kernel) (by decide +kernel)
set_option maxRecDepth 20000 in
theorem gX2_dropZone_X4_removeRow : GoodIn wsX2_dropZone (wsV RX2 76 RX4 yX4_removeRow wsX4_removeRow) := goodIn_app (goodIn_of _ (by decide +kernel)) ggX2_dropZone_X4_removeRow
set_option maxRecDepth 20000 in
theorem ggX2_dropZone_X4_put : GoodIn wsX2_dropZone wsX4_put := goodIn_r _ [26, 8, 13, 14, 46, 47, 48] (by decide +kernel) (by decide +kernel)
set_option maxRecDepth 20000 in
theorem gX2_dropZone_X4_put : GoodIn wsX2_dropZone (wsV RX2 62 RX4 yX4_put wsX4_put) := goodIn_app (goodIn_of _ (by decide +kernel)) ggX2_dropZone_X4_put
set_option maxRecDepth 20000 in
theorem ggX2_dropZone_X2_grow : GoodIn wsX2_dropZone wsX2_grow := goodIn_r _ [31, 32, 33, 34, 30, 35, 36, 37, 38, 39, 40, 41, 42, 43, 44, 45] (by decide +kernel) (by decide +kernel)
set_option maxRecDepth 20000 in
theorem gX2_dropZone_X2_grow : GoodIn wsX2_dropZone (wsV RX2 80 RX2 yX2_grow wsX2_grow) := goodIn_app (goodIn_of _ (by decide +kernel)) ggX2_dropZone_X2_grow
theorem dX2_dropZone_0 : decode cX2_dropZone 0 = .ok (.iconst 0, 1) := by decide +kernel
theorem dX2_dropZone_1 : decode cX2_dropZone 1 = .ok (.istore_n 2, 1) := by decide +kernel
theorem dX2_dropZone_2 : decode cX2_dropZone 2 = .ok (.aload_n 0, 1) := by decide +kernel
theorem dX2_dropZone_3 : decode cX2_dropZone 3 = .ok (.getfield 20, 3) := by decide +kernel
theorem dX2_dropZone_6 : decode cX2_dropZone 6 = .ok (.invokevirtual 70, 3) := by decide +kernel
theorem dX2_dropZone_9 : decode cX2_dropZone 9 = .ok (.iconst 1, 1) := by decide +kernel
theorem dX2_dropZone_10 : decode cX2_dropZone 10 = .ok (.isub, 1) := by decide +kernel
theorem dX2_dropZone_11 : decode cX2_dropZone 11 = .ok (.istore_n 3, 1) := by decide +kernel
theorem dX2_dropZone_12 : decode cX2_dropZone 12 = .ok (.iload_n 3, 1) := by decide +kernel
theorem dX2_dropZone_13 : decode cX2_dropZone 13 = .ok (.ifCond .lt 59, 3) := by decide +kernel
theorem dX2_dropZone_16 : decode cX2_dropZone 16 = .ok (.aload_n 0, 1) := by decide +kernel
theorem dX2_dropZone_17 : decode cX2_dropZone 17 = .ok (.getfield 20, 3) := by decide +kernel
theorem dX2_dropZone_20 : decode cX2_dropZone 20 = .ok (.iload_n 3, 1) := by decide +kernel
theorem dX2_dropZone_21 : decode cX2_dropZone 21 = .ok (.iconst 0, 1) := by decide +kernel
theorem dX2_dropZone_22 : decode cX2_dropZone 22 = .ok (.invokevirtual 73, 3) := by decide +kernel
theorem dX2_dropZone_25 : decode cX2_dropZone 25 = .ok (.istore 4, 2) := by decide +kernel
theorem dX2_dropZone_27 : decode cX2_dropZone 27 = .ok (.iload 4, 2) := by decide +kernel
theorem dX2_dropZone_29 : decode cX2_dropZone 29 = .ok (.iload_n 1, 1) := by decide +kernel
theorem dX2_dropZone_30 : decode cX2_dropZone 30 = .ok (.if_icmp .ne 17, 3) := by decide +kernel
theorem dX2_dropZone_33 : decode cX2_dropZone 33 = .ok (.aload_n 0, 1) := by decide +kernel
theorem dX2_dropZone_34 : decode cX2_dropZone 34 = .ok (.getfield 20, 3) := by decide +kernel
theorem dX2_dropZone_37 : decode cX2_dropZone 37 = .ok (.iload_n 3, 1) := by decide +kernel
theorem dX2_dropZone_38 : decode cX2_dropZone 38 = .ok (.invokevirtual 76, 3) := by decide +kernel
theorem dX2_dropZone_41 : decode cX2_dropZone 41 = .ok (.iinc 2 1, 3) := by decide +kernel
theorem dX2_dropZone_44 : decode cX2_dropZone 44 = .ok (.goto 22, 3) := by decide +kernel
theorem dX2_dropZone_47 : decode cX2_dropZone 47 = .ok (.iload 4, 2) := by decide +kernel
theorem dX2_dropZone_49 : decode cX2_dropZone 49 = .ok (.iload_n 1, 1) := by decide +kernel
theorem dX2_dropZone_50 : decode cX2_dropZone 50 = .ok (.if_icmp .le 16, 3) := by decide +kernel
theorem dX2_dropZone_53 : decode cX2_dropZone 53 = .ok (.aload_n 0, 1) := by decide +kernel
theorem dX2_dropZone_54 : decode cX2_dropZone 54 = .ok (.getfield 20, 3) := by decide +kernel
theorem dX2_dropZone_57 : decode cX2_dropZone 57 = .ok (.iload_n 3, 1) := by decide +kernel
theorem dX2_dropZone_58 : decode cX2_dropZone 58 = .ok (.iconst 0, 1) := by decide +kernel
theorem dX2_dropZone_59 : decode cX2_dropZone 59 = .ok (.iload 4, 2) := by decide +kernel
theorem dX2_dropZone_61 : decode cX2_dropZone 61 = .ok (.iconst 1, 1) := by decide +kernel
theorem dX2_dropZone_62 : decode cX2_dropZone 62 = .ok (.isub, 1) := by decide +kernel
theorem dX2_dropZone_63 : decode cX2_dropZone 63 = .ok (.invokevirtual 62, 3) := by decide +kernel
theorem dX2_dropZone_66 : decode cX2_dropZone 66 = .ok (.iinc 3 (-1), 3) := by decide +kernel
theorem dX2_dropZone_69 : decode cX2_dropZone 69 = .ok (.goto (-57), 3) := by decide +kernel
theorem dX2_dropZone_72 : decode cX2_dropZone 72 = .ok (.aload_n 0, 1) := by decide +kernel
theorem dX2_dropZone_73 : decode cX2_dropZone 73 = .ok (.getfield 14, 3) := by decide +kernel
theorem dX2_dropZone_76 : decode cX2_dropZone 76 = .ok (.iload_n 1, 1) := by decide +kernel
theorem dX2_dropZone_77 : decode cX2_dropZone 77 = .ok (.invokevirtual 76, 3) := by decide +kernel
theorem dX2_dropZone_80 : decode cX2_dropZone 80 = .ok (.aload_n 0, 1) := by decide +kernel
theorem dX2_dropZone_81 : decode cX2_dropZone 81 = .ok (.iconst 5, 1) := by decide +kernel
theorem dX2_dropZone_82 : decode cX2_dropZone 82 = .ok (.iload_n 2, 1) := by decide +kernel
theorem dX2_dropZone_83 : decode cX2_dropZone 83 = .ok (.invokevirtual 80, 3) := by decide +kernel
theorem dX2_dropZone_86 : decode cX2_dropZone 86 = .ok (.iload_n 2, 1) := by decide +kernel
theorem dX2_dropZone_87 : decode cX2_dropZone 87 = .ok (.ireturn, 1) := by decide +kernel
set_option maxRecDepth 20000 in
theorem ggX2_matches_X4_get : GoodIn wsX2_matches wsX4_get := goodIn_r _ [6, 7, 8, 9, 15, 16, 17] (by decide +kernel) (by decide +kernel)
set_option maxRecDepth 20000 in
theorem gX2_matches_X4_get : GoodIn wsX2_matches (wsV RX2 73 RX4 yX4_get wsX4_get) := goodIn_app (goodIn_of _ (by decide +kernel)) ggX2_matches_X4_get
theorem dX2_matches_0 : decode cX2_matches 0 = .ok (.iload_n 2, 1) := by decide +kernel
theorem dX2_matches_1 : decode cX2_matches 1 = .ok (.aload_n 0, 1) := by decide +kernel
theorem dX2_matches_2 : decode cX2_matches 2 = .ok (.getfield 14, 3) := by decide +kernel
theorem dX2_matches_5 : decode cX2_matches 5 = .ok (.iload_n 1, 1) := by decide +kernel
theorem dX2_matches_6 : decode cX2_matches 6 = .ok (.iconst 0, 1) := by decide +kernel
theorem dX2_matches_7 : decode cX2_matches 7 = .ok (.invokevirtual 73, 3) := by decide +kernel
theorem dX2_matches_10 : decode cX2_matches 10 = .ok (.if_icmp .lt 46, 3) := by decide +kernel
theorem dX2_matches_13 : decode cX2_matches 13 = .ok (.iload_n 2, 1) := by decide +kernel
theorem dX2_matches_14 : decode cX2_matches 14 = .ok (.aload_n 0, 1) := by decide +kernel
theorem dX2_matches_15 : decode cX2_matches 15 = .ok (.getfield 14, 3) := by decide +kernel
theorem dX2_matches_18 : decode cX2_matches 18 = .ok (.iload_n 1, 1) := by decide +kernel
theorem dX2_matches_19 : decode cX2_matches 19 = .ok (.iconst 1, 1) := by decide +kernel
theorem dX2_matches_20 : decode cX2_matches 20 = .ok (.invokevirtual 73, 3) := by decide +kernel
theorem dX2_matches_23 : decode cX2_matches 23 = .ok (.if_icmp .gt 33, 3) := by decide +kernel
theorem dX2_matches_26 : decode cX2_matches 26 = .ok (.iload_n 3, 1) := by decide +kernel
theorem dX2_matches_27 : decode cX2_matches 27 = .ok (.aload_n 0, 1) := by decide +kernel
theorem dX2_matches_28 : decode cX2_matches 28 = .ok (.getfield 14, 3) := by decide +kernel
theorem dX2_matches_31 : decode cX2_matches 31 = .ok (.iload_n 1, 1) := by decide +kernel
theorem dX2_matches_32 : decode cX2_matches 32 = .ok (.iconst 2, 1) := by decide +kernel
theorem dX2_matches_33 : decode cX2_matches 33 = .ok (.invokevirtual 73, 3) := by decide +kernel
theorem dX2_matches_36 : decode cX2_matches 36 = .ok (.if_icmp .lt 20, 3) := by decide +kernel
theorem dX2_matches_39 : decode cX2_matches 39 = .ok (.iload_n 3, 1) := by decide +kernel
theorem dX2_matches_40 : decode cX2_matches 40 = .ok (.aload_n 0, 1) := by decide +kernel
theorem dX2_matches_41 : decode cX2_matches 41 = .ok (.getfield 14, 3) := by decide +kernel
theorem dX2_matches_44 : decode cX2_matches 44 = .ok (.iload_n 1, 1) := by decide +kernel
theorem dX2_matches_45 : decode cX2_matches 45 = .ok (.iconst 3, 1) := by decide +kernel
theorem dX2_matches_46 : decode cX2_matches 46 = .ok (.invokevirtual 73, 3) := by decide +kernel
theorem dX2_matches_49 : decode cX2_matches 49 = .ok (.if_icmp .gt 7, 3) := by decide +kernel
theorem dX2_matches_52 : decode cX2_matches 52 = .ok (.iconst 1, 1) := by decide +kernel
theorem dX2_matches_53 : decode cX2_matches 53 = .ok (.goto 4, 3) := by decide +kernel
theorem dX2_matches_56 : decode cX2_matches 56 = .ok (.iconst 0, 1) := by decide +kernel
theorem dX2_matches_57 : decode cX2_matches 57 = .ok (.ireturn, 1) := by decide +kernel
set_option maxRecDepth 20000 in
theorem ggX2_matching_X4_rows : GoodIn wsX2_matching wsX4_rows := goodIn_r _ [6, 7, 24, 25, 26] (by decide +kernel) (by decide +kernel)
set_option maxRecDepth 20000 in
theorem gX2_matching_X4_rows : GoodIn wsX2_matching (wsV RX2 70 RX4 yX4_rows wsX4_rows) := goodIn_app (goodIn_of _ (by decide +kernel)) ggX2_matching_X4_rows
set_option maxRecDepth 20000 in
theorem ggX2_matching_X2_matches : GoodIn wsX2_matching wsX2_matches := goodIn_r _ [12, 1, 13, 14, 15, 5, 16, 7, 17, 18, 19, 20, 21, 22, 23, 24, 25, 26] (by decide +kernel) (by decide +kernel)
set_option maxRecDepth 20000 in
theorem gX2_matching_X2_matches : GoodIn wsX2_matching (wsV RX2 83 RX2 yX2_matches wsX2_matches) := goodIn_app (goodIn_of _ (by decide +kernel)) ggX2_matching_X2_matches
theorem dX2_matching_0 : decode cX2_matching 0 = .ok (.iconst 0, 1) := by decide +kernel
theorem dX2_matching_1 : decode cX2_matching 1 = .ok (.istore_n 3, 1) := by decide +kernel
theorem dX2_matching_2 : decode cX2_matching 2 = .ok (.iconst 0, 1) := by decide +kernel
theorem dX2_matching_3 : decode cX2_matching 3 = .ok (.istore 4, 2) := by decide +kernel
theorem dX2_matching_5 : decode cX2_matching 5 = .ok (.iload 4, 2) := by decide +kernel
theorem dX2_matching_7 : decode cX2_matching 7 = .ok (.aload_n 0, 1) := by decide +kernel
theorem dX2_matching_8 : decode cX2_matching 8 = .ok (.getfield 14, 3) := by decide +kernel
theorem dX2_matching_11 : decode cX2_matching 11 = .ok (.invokevirtual 70, 3) := by decide +kernel
theorem dX2_matching_14 : decode cX2_matching 14 = .ok (.if_icmp .ge 23, 3) := by decide +kernel
theorem dX2_matching_17 : decode cX2_matching 17 = .ok (.aload_n 0, 1) := by decide +kernel
theorem dX2_matching_18 : decode cX2_matching 18 = .ok (.iload 4, 2) := by decide +kernel
theorem dX2_matching_20 : decode cX2_matching 20 = .ok (.iload_n 1, 1) := by decide +kernel
theorem dX2_matching_21 : decode cX2_matching 21 = .ok (.iload_n 2, 1) := by decide +kernel
theorem dX2_matching_22 : decode cX2_matching 22 = .ok (.invokevirtual 83, 3) := by decide +kernel
theorem dX2_matching_25 : decode cX2_matching 25 = .ok (.ifCond .eq 6, 3) := by decide +kernel
theorem dX2_matching_28 : decode cX2_matching 28 = .ok (.iinc 3 1, 3) := by decide +kernel
theorem dX2_matching_31 : decode cX2_matching 31 = .ok (.iinc 4 1, 3) := by decide +kernel
theorem dX2_matching_34 : decode cX2_matching 34 = .ok (.goto (-29), 3) := by decide +kernel
theorem dX2_matching_37 : decode cX2_matching 37 = .ok (.iload_n 3, 1) := by decide +kernel
theorem dX2_matching_38 : decode cX2_matching 38 = .ok (.ireturn, 1) := by decide +kernel
set_option maxRecDepth 20000 in
theorem ggX2_sounds_X2_matches : GoodIn wsX2_sounds wsX2_matches := goodIn_r _ [6, 1, 7, 8, 9, 10, 11, 12, 13, 14, 24, 25, 26, 27, 28, 29, 30, 31] (by decide +kernel) (by decide +kernel)
set_option maxRecDepth 20000 in
theorem gX2_sounds_X2_matches : GoodIn wsX2_sounds (wsV RX2 83 RX2 yX2_matches wsX2_matches) := goodIn_app (goodIn_of _ (by decide +kernel)) ggX2_sounds_X2_matches
set_option maxRecDepth 20000 in
theorem ggX2_sounds_X4_get : GoodIn wsX2_sounds wsX4_get := goodIn_r _ [11, 12, 13, 14, 29, 30, 31] (by decide +kernel) (by decide +kernel)
set_option maxRecDepth 20000 in
theorem gX2_sounds_X4_get : GoodIn wsX2_sounds (wsV RX2 73 RX4 yX4_get wsX4_get) := goodIn_app (goodIn_of _ (by decide +kernel)) ggX2_sounds_X4_get
set_option maxRecDepth 20000 in
theorem ggX2_sounds_X4_rows : GoodIn wsX2_sounds wsX4_rows := goodIn_r _ [18, 12, 29, 30, 31] (by decide +kernel) (by decide +kernel)
set_option maxRecDepth 20000 in
theorem gX2_sounds_X4_rows : GoodIn wsX2_sounds (wsV RX2 70 RX4 yX4_rows wsX4_rows) := goodIn_app (goodIn_of _ (by decide +kernel)) ggX2_sounds_X4_rows
set_option maxRecDepth 20000 in
theorem ggX2_sounds_X2_number : GoodIn wsX2_sounds wsX2_number := goodIn_r _ [22, 23, 24, 25, 26, 27, 28] (by decide +kernel) (by decide +kernel)
set_option maxRecDepth 20000 in
theorem gX2_sounds_X2_number : GoodIn wsX2_sounds (wsV RX2 54 RX2 yX2_number wsX2_number) := goodIn_app (goodIn_of _ (by decide +kernel)) ggX2_sounds_X2_number
theorem dX2_sounds_0 : decode cX2_sounds 0 = .ok (.aload_n 0, 1) := by decide +kernel
theorem dX2_sounds_1 : decode cX2_sounds 1 = .ok (.iload_n 1, 1) := by decide +kernel
theorem dX2_sounds_2 : decode cX2_sounds 2 = .ok (.iload_n 2, 1) := by decide +kernel
theorem dX2_sounds_3 : decode cX2_sounds 3 = .ok (.iload_n 3, 1) := by decide +kernel
theorem dX2_sounds_4 : decode cX2_sounds 4 = .ok (.invokevirtual 83, 3) := by decide +kernel
theorem dX2_sounds_7 : decode cX2_sounds 7 = .ok (.ifCond .ne 5, 3) := by decide +kernel
theorem dX2_sounds_10 : decode cX2_sounds 10 = .ok (.iconst 0, 1) := by decide +kernel
theorem dX2_sounds_11 : decode cX2_sounds 11 = .ok (.ireturn, 1) := by decide +kernel
theorem dX2_sounds_12 : decode cX2_sounds 12 = .ok (.aload_n 0, 1) := by decide +kernel
theorem dX2_sounds_13 : decode cX2_sounds 13 = .ok (.getfield 14, 3) := by decide +kernel
theorem dX2_sounds_16 : decode cX2_sounds 16 = .ok (.iload_n 1, 1) := by decide +kernel
theorem dX2_sounds_17 : decode cX2_sounds 17 = .ok (.iconst 5, 1) := by decide +kernel
theorem dX2_sounds_18 : decode cX2_sounds 18 = .ok (.invokevirtual 73, 3) := by decide +kernel
theorem dX2_sounds_21 : decode cX2_sounds 21 = .ok (.istore 4, 2) := by decide +kernel
theorem dX2_sounds_23 : decode cX2_sounds 23 = .ok (.iload 4, 2) := by decide +kernel
theorem dX2_sounds_25 : decode cX2_sounds 25 = .ok (.ifCond .ne 5, 3) := by decide +kernel
theorem dX2_sounds_28 : decode cX2_sounds 28 = .ok (.iconst 1, 1) := by decide +kernel
theorem dX2_sounds_29 : decode cX2_sounds 29 = .ok (.ireturn, 1) := by decide +kernel
theorem dX2_sounds_30 : decode cX2_sounds 30 = .ok (.iconst 0, 1) := by decide +kernel
theorem dX2_sounds_31 : decode cX2_sounds 31 = .ok (.istore 5, 2) := by decide +kernel
theorem dX2_sounds_33 : decode cX2_sounds 33 = .ok (.iconst 0, 1) := by decide +kernel
theorem dX2_sounds_34 : decode cX2_sounds 34 = .ok (.istore 6, 2) := by decide +kernel
theorem dX2_sounds_36 : decode cX2_sounds 36 = .ok (.iconst 0, 1) := by decide +kernel
theorem dX2_sounds_37 : decode cX2_sounds 37 = .ok (.istore 7, 2) := by decide +kernel
theorem dX2_sounds_39 : decode cX2_sounds 39 = .ok (.iload 7, 2) := by decide +kernel
theorem dX2_sounds_41 : decode cX2_sounds 41 = .ok (.aload_n 0, 1) := by decide +kernel
theorem dX2_sounds_42 : decode cX2_sounds 42 = .ok (.getfield 14, 3) := by decide +kernel
theorem dX2_sounds_45 : decode cX2_sounds 45 = .ok (.invokevirtual 70, 3) := by decide +kernel
theorem dX2_sounds_48 : decode cX2_sounds 48 = .ok (.if_icmp .ge 54, 3) := by decide +kernel
theorem dX2_sounds_51 : decode cX2_sounds 51 = .ok (.aload_n 0, 1) := by decide +kernel
theorem dX2_sounds_52 : decode cX2_sounds 52 = .ok (.getfield 14, 3) := by decide +kernel
theorem dX2_sounds_55 : decode cX2_sounds 55 = .ok (.iload 7, 2) := by decide +kernel
theorem dX2_sounds_57 : decode cX2_sounds 57 = .ok (.iconst 5, 1) := by decide +kernel
theorem dX2_sounds_58 : decode cX2_sounds 58 = .ok (.invokevirtual 73, 3) := by decide +kernel
theorem dX2_sounds_61 : decode cX2_sounds 61 = .ok (.iload 4, 2) := by decide +kernel
theorem dX2_sounds_63 : decode cX2_sounds 63 = .ok (.if_icmp .ne 33, 3) := by decide +kernel
theorem dX2_sounds_66 : decode cX2_sounds 66 = .ok (.aload_n 0, 1) := by decide +kernel
theorem dX2_sounds_67 : decode cX2_sounds 67 = .ok (.iload 7, 2) := by decide +kernel
theorem dX2_sounds_69 : decode cX2_sounds 69 = .ok (.iload_n 2, 1) := by decide +kernel
theorem dX2_sounds_70 : decode cX2_sounds 70 = .ok (.iload_n 3, 1) := by decide +kernel
theorem dX2_sounds_71 : decode cX2_sounds 71 = .ok (.invokevirtual 83, 3) := by decide +kernel
theorem dX2_sounds_74 : decode cX2_sounds 74 = .ok (.ifCond .eq 22, 3) := by decide +kernel
theorem dX2_sounds_77 : decode cX2_sounds 77 = .ok (.iinc 5 1, 3) := by decide +kernel
theorem dX2_sounds_80 : decode cX2_sounds 80 = .ok (.iload 6, 2) := by decide +kernel
theorem dX2_sounds_82 : decode cX2_sounds 82 = .ok (.iload 7, 2) := by decide +kernel
theorem dX2_sounds_84 : decode cX2_sounds 84 = .ok (.iload_n 1, 1) := by decide +kernel
theorem dX2_sounds_85 : decode cX2_sounds 85 = .ok (.if_icmp .ge 7, 3) := by decide +kernel
theorem dX2_sounds_88 : decode cX2_sounds 88 = .ok (.iconst 1, 1) := by decide +kernel
theorem dX2_sounds_89 : decode cX2_sounds 89 = .ok (.goto 4, 3) := by decide +kernel
theorem dX2_sounds_92 : decode cX2_sounds 92 = .ok (.iconst 0, 1) := by decide +kernel
theorem dX2_sounds_93 : decode cX2_sounds 93 = .ok (.iadd, 1) := by decide +kernel
theorem dX2_sounds_94 : decode cX2_sounds 94 = .ok (.istore 6, 2) := by decide +kernel
theorem dX2_sounds_96 : decode cX2_sounds 96 = .ok (.iinc 7 1, 3) := by decide +kernel
theorem dX2_sounds_99 : decode cX2_sounds 99 = .ok (.goto (-60), 3) := by decide +kernel
theorem dX2_sounds_102 : decode cX2_sounds 102 = .ok (.iload 5, 2) := by decide +kernel
theorem dX2_sounds_104 : decode cX2_sounds 104 = .ok (.ifCond .le 26, 3) := by decide +kernel
theorem dX2_sounds_107 : decode cX2_sounds 107 = .ok (.iload 6, 2) := by decide +kernel
theorem dX2_sounds_109 : decode cX2_sounds 109 = .ok (.aload_n 0, 1) := by decide +kernel
theorem dX2_sounds_110 : decode cX2_sounds 110 = .ok (.bipush 9, 2) := by decide +kernel
theorem dX2_sounds_112 : decode cX2_sounds 112 = .ok (.iload 4, 2) := by decide +kernel
theorem dX2_sounds_114 : decode cX2_sounds 114 = .ok (.iadd, 1) := by decide +kernel
theorem dX2_sounds_115 : decode cX2_sounds 115 = .ok (.iconst 1, 1) := by decide +kernel
theorem dX2_sounds_116 : decode cX2_sounds 116 = .ok (.isub, 1) := by decide +kernel
theorem dX2_sounds_117 : decode cX2_sounds 117 = .ok (.invokevirtual 54, 3) := by decide +kernel
theorem dX2_sounds_120 : decode cX2_sounds 120 = .ok (.iload 5, 2) := by decide +kernel
theorem dX2_sounds_122 : decode cX2_sounds 122 = .ok (.irem, 1) := by decide +kernel
theorem dX2_sounds_123 : decode cX2_sounds 123 = .ok (.if_icmp .ne 7, 3) := by decide +kernel
theorem dX2_sounds_126 : decode cX2_sounds 126 = .ok (.iconst 1, 1) := by decide +kernel
theorem dX2_sounds_127 : decode cX2_sounds 127 = .ok (.goto 4, 3) := by decide +kernel
theorem dX2_sounds_130 : decode cX2_sounds 130 = .ok (.iconst 0, 1) := by decide +kernel
theorem dX2_sounds_131 : decode cX2_sounds 131 = .ok (.ireturn, 1) := by decide +kernel
set_option maxRecDepth 20000 in
theorem ggX2_sounding_X4_rows : GoodIn wsX2_sounding wsX4_rows := goodIn_r _ [6, 7, 33, 34, 35] (by decide +kernel) (by decide +kernel)
set_option maxRecDepth 20000 in
theorem gX2_sounding_X4_rows : GoodIn wsX2_sounding (wsV RX2 70 RX4 yX4_rows wsX4_rows) := goodIn_app (goodIn_of _ (by decide +kernel)) ggX2_sounding_X4_rows
set_option maxRecDepth 20000 in
theorem ggX2_sounding_X2_sounds : GoodIn wsX2_sounding wsX2_sounds := goodIn_r _ [12, 1, 13, 14, 15, 11, 16, 17, 18, 19, 5, 20, 7, 21, 22, 2, 3, 4, 6, 23, 24, 25, 26, 27, 28, 29, 30, 31, 32, 33, 34, 35] (by decide +kernel) (by decide +kernel)
set_option maxRecDepth 20000 in
theorem gX2_sounding_X2_sounds : GoodIn wsX2_sounding (wsV RX2 87 RX2 yX2_sounds wsX2_sounds) := goodIn_app (goodIn_of _ (by decide +kernel)) ggX2_sounding_X2_sounds
theorem dX2_sounding_0 : decode cX2_sounding 0 = .ok (.iconst 0, 1) := by decide +kernel
theorem dX2_sounding_1 : decode cX2_sounding 1 = .ok (.istore_n 3, 1) := by decide +kernel
theorem dX2_sounding_2 : decode cX2_sounding 2 = .ok (.iconst 0, 1) := by decide +kernel
theorem dX2_sounding_3 : decode cX2_sounding 3 = .ok (.istore 4, 2) := by decide +kernel
theorem dX2_sounding_5 : decode cX2_sounding 5 = .ok (.iload 4, 2) := by decide +kernel
theorem dX2_sounding_7 : decode cX2_sounding 7 = .ok (.aload_n 0, 1) := by decide +kernel
theorem dX2_sounding_8 : decode cX2_sounding 8 = .ok (.getfield 14, 3) := by decide +kernel
theorem dX2_sounding_11 : decode cX2_sounding 11 = .ok (.invokevirtual 70, 3) := by decide +kernel
theorem dX2_sounding_14 : decode cX2_sounding 14 = .ok (.if_icmp .ge 23, 3) := by decide +kernel
theorem dX2_sounding_17 : decode cX2_sounding 17 = .ok (.aload_n 0, 1) := by decide +kernel
theorem dX2_sounding_18 : decode cX2_sounding 18 = .ok (.iload 4, 2) := by decide +kernel
theorem dX2_sounding_20 : decode cX2_sounding 20 = .ok (.iload_n 1, 1) := by decide +kernel
theorem dX2_sounding_21 : decode cX2_sounding 21 = .ok (.iload_n 2, 1) := by decide +kernel
theorem dX2_sounding_22 : decode cX2_sounding 22 = .ok (.invokevirtual 87, 3) := by decide +kernel
theorem dX2_sounding_25 : decode cX2_sounding 25 = .ok (.ifCond .eq 6, 3) := by decide +kernel
theorem dX2_sounding_28 : decode cX2_sounding 28 = .ok (.iinc 3 1, 3) := by decide +kernel
theorem dX2_sounding_31 : decode cX2_sounding 31 = .ok (.iinc 4 1, 3) := by decide +kernel
theorem dX2_sounding_34 : decode cX2_sounding 34 = .ok (.goto (-29), 3) := by decide +kernel
theorem dX2_sounding_37 : decode cX2_sounding 37 = .ok (.iload_n 3, 1) := by decide +kernel
theorem dX2_sounding_38 : decode cX2_sounding 38 = .ok (.ireturn, 1) := by decide +kernel
set_option maxRecDepth 20000 in
theorem ggX2_firstSounding_X4_rows : GoodIn wsX2_firstSounding wsX4_rows := goodIn_r _ [6, 7, 33, 34, 35] (by decide +kernel) (by decide +kernel)
set_option maxRecDepth 20000 in
theorem gX2_firstSounding_X4_rows : GoodIn wsX2_firstSounding (wsV RX2 70 RX4 yX4_rows wsX4_rows) := goodIn_app (goodIn_of _ (by decide +kernel)) ggX2_firstSounding_X4_rows
set_option maxRecDepth 20000 in
theorem ggX2_firstSounding_X2_sounds : GoodIn wsX2_firstSounding wsX2_sounds := goodIn_r _ [12, 1, 13, 14, 15, 11, 16, 17, 18, 19, 5, 20, 7, 21, 22, 2, 3, 4, 6, 23, 24, 25, 26, 27, 28, 29, 30, 31, 32, 33, 34, 35] (by decide +kernel) (by decide +kernel)
set_option maxRecDepth 20000 in
theorem gX2_firstSounding_X2_sounds : GoodIn wsX2_firstSounding (wsV RX2 87 RX2 yX2_sounds wsX2_sounds) := goodIn_app (goodIn_of _ (by decide +kernel)) ggX2_firstSounding_X2_sounds
theorem dX2_firstSounding_0 : decode cX2_firstSounding 0 = .ok (.iconst 0, 1) := by decide +kernel
theorem dX2_firstSounding_1 : decode cX2_firstSounding 1 = .ok (.istore_n 3, 1) := by decide +kernel
theorem dX2_firstSounding_2 : decode cX2_firstSounding 2 = .ok (.iload_n 3, 1) := by decide +kernel
theorem dX2_firstSounding_3 : decode cX2_firstSounding 3 = .ok (.aload_n 0, 1) := by decide +kernel
theorem dX2_firstSounding_4 : decode cX2_firstSounding 4 = .ok (.getfield 14, 3) := by decide +kernel
theorem dX2_firstSounding_7 : decode cX2_firstSounding 7 = .ok (.invokevirtual 70, 3) := by decide +kernel
theorem dX2_firstSounding_10 : decode cX2_firstSounding 10 = .ok (.if_icmp .ge 21, 3) := by decide +kernel
theorem dX2_firstSounding_13 : decode cX2_firstSounding 13 = .ok (.aload_n 0, 1) := by decide +kernel
theorem dX2_firstSounding_14 : decode cX2_firstSounding 14 = .ok (.iload_n 3, 1) := by decide +kernel
theorem dX2_firstSounding_15 : decode cX2_firstSounding 15 = .ok (.iload_n 1, 1) := by decide +kernel
theorem dX2_firstSounding_16 : decode cX2_firstSounding 16 = .ok (.iload_n 2, 1) := by decide +kernel
theorem dX2_firstSounding_17 : decode cX2_firstSounding 17 = .ok (.invokevirtual 87, 3) := by decide +kernel
theorem dX2_firstSounding_20 : decode cX2_firstSounding 20 = .ok (.ifCond .eq 5, 3) := by decide +kernel
theorem dX2_firstSounding_23 : decode cX2_firstSounding 23 = .ok (.iload_n 3, 1) := by decide +kernel
theorem dX2_firstSounding_24 : decode cX2_firstSounding 24 = .ok (.ireturn, 1) := by decide +kernel
theorem dX2_firstSounding_25 : decode cX2_firstSounding 25 = .ok (.iinc 3 1, 3) := by decide +kernel
theorem dX2_firstSounding_28 : decode cX2_firstSounding 28 = .ok (.goto (-26), 3) := by decide +kernel
theorem dX2_firstSounding_31 : decode cX2_firstSounding 31 = .ok (.bipush (-4), 2) := by decide +kernel
theorem dX2_firstSounding_33 : decode cX2_firstSounding 33 = .ok (.ireturn, 1) := by decide +kernel
set_option maxRecDepth 20000 in
theorem ggX2_canSound_X4_get : GoodIn wsX2_canSound wsX4_get := goodIn_r _ [6, 7, 8, 9, 33, 34, 35] (by decide +kernel) (by decide +kernel)
set_option maxRecDepth 20000 in
theorem gX2_canSound_X4_get : GoodIn wsX2_canSound (wsV RX2 73 RX4 yX4_get wsX4_get) := goodIn_app (goodIn_of _ (by decide +kernel)) ggX2_canSound_X4_get
set_option maxRecDepth 20000 in
theorem ggX2_canSound_X2_sounds : GoodIn wsX2_canSound wsX2_sounds := goodIn_r _ [14, 1, 15, 16, 17, 13, 18, 2, 3, 4, 5, 6, 7, 8, 9, 19, 20, 21, 22, 23, 24, 25, 26, 27, 28, 29, 30, 31, 32, 33, 34, 35] (by decide +kernel) (by decide +kernel)
set_option maxRecDepth 20000 in
theorem gX2_canSound_X2_sounds : GoodIn wsX2_canSound (wsV RX2 87 RX2 yX2_sounds wsX2_sounds) := goodIn_app (goodIn_of _ (by decide +kernel)) ggX2_canSound_X2_sounds
theorem dX2_canSound_0 : decode cX2_canSound 0 = .ok (.aload_n 0, 1) := by decide +kernel
theorem dX2_canSound_1 : decode cX2_canSound 1 = .ok (.getfield 14, 3) := by decide +kernel
theorem dX2_canSound_4 : decode cX2_canSound 4 = .ok (.iload_n 1, 1) := by decide +kernel
theorem dX2_canSound_5 : decode cX2_canSound 5 = .ok (.iconst 0, 1) := by decide +kernel
theorem dX2_canSound_6 : decode cX2_canSound 6 = .ok (.invokevirtual 73, 3) := by decide +kernel
theorem dX2_canSound_9 : decode cX2_canSound 9 = .ok (.istore_n 2, 1) := by decide +kernel
theorem dX2_canSound_10 : decode cX2_canSound 10 = .ok (.iload_n 2, 1) := by decide +kernel
theorem dX2_canSound_11 : decode cX2_canSound 11 = .ok (.aload_n 0, 1) := by decide +kernel
theorem dX2_canSound_12 : decode cX2_canSound 12 = .ok (.getfield 14, 3) := by decide +kernel
theorem dX2_canSound_15 : decode cX2_canSound 15 = .ok (.iload_n 1, 1) := by decide +kernel
theorem dX2_canSound_16 : decode cX2_canSound 16 = .ok (.iconst 1, 1) := by decide +kernel
theorem dX2_canSound_17 : decode cX2_canSound 17 = .ok (.invokevirtual 73, 3) := by decide +kernel
theorem dX2_canSound_20 : decode cX2_canSound 20 = .ok (.if_icmp .gt 50, 3) := by decide +kernel
theorem dX2_canSound_23 : decode cX2_canSound 23 = .ok (.aload_n 0, 1) := by decide +kernel
theorem dX2_canSound_24 : decode cX2_canSound 24 = .ok (.getfield 14, 3) := by decide +kernel
theorem dX2_canSound_27 : decode cX2_canSound 27 = .ok (.iload_n 1, 1) := by decide +kernel
theorem dX2_canSound_28 : decode cX2_canSound 28 = .ok (.iconst 2, 1) := by decide +kernel
theorem dX2_canSound_29 : decode cX2_canSound 29 = .ok (.invokevirtual 73, 3) := by decide +kernel
theorem dX2_canSound_32 : decode cX2_canSound 32 = .ok (.istore_n 3, 1) := by decide +kernel
theorem dX2_canSound_33 : decode cX2_canSound 33 = .ok (.iload_n 3, 1) := by decide +kernel
theorem dX2_canSound_34 : decode cX2_canSound 34 = .ok (.aload_n 0, 1) := by decide +kernel
theorem dX2_canSound_35 : decode cX2_canSound 35 = .ok (.getfield 14, 3) := by decide +kernel
theorem dX2_canSound_38 : decode cX2_canSound 38 = .ok (.iload_n 1, 1) := by decide +kernel
theorem dX2_canSound_39 : decode cX2_canSound 39 = .ok (.iconst 3, 1) := by decide +kernel
theorem dX2_canSound_40 : decode cX2_canSound 40 = .ok (.invokevirtual 73, 3) := by decide +kernel
theorem dX2_canSound_43 : decode cX2_canSound 43 = .ok (.if_icmp .gt 21, 3) := by decide +kernel
theorem dX2_canSound_46 : decode cX2_canSound 46 = .ok (.aload_n 0, 1) := by decide +kernel
theorem dX2_canSound_47 : decode cX2_canSound 47 = .ok (.iload_n 1, 1) := by decide +kernel
theorem dX2_canSound_48 : decode cX2_canSound 48 = .ok (.iload_n 2, 1) := by decide +kernel
theorem dX2_canSound_49 : decode cX2_canSound 49 = .ok (.iload_n 3, 1) := by decide +kernel
theorem dX2_canSound_50 : decode cX2_canSound 50 = .ok (.invokevirtual 87, 3) := by decide +kernel
theorem dX2_canSound_53 : decode cX2_canSound 53 = .ok (.ifCond .eq 5, 3) := by decide +kernel
theorem dX2_canSound_56 : decode cX2_canSound 56 = .ok (.iconst 1, 1) := by decide +kernel
theorem dX2_canSound_57 : decode cX2_canSound 57 = .ok (.ireturn, 1) := by decide +kernel
theorem dX2_canSound_58 : decode cX2_canSound 58 = .ok (.iinc 3 1, 3) := by decide +kernel
theorem dX2_canSound_61 : decode cX2_canSound 61 = .ok (.goto (-28), 3) := by decide +kernel
theorem dX2_canSound_64 : decode cX2_canSound 64 = .ok (.iinc 2 1, 3) := by decide +kernel
theorem dX2_canSound_67 : decode cX2_canSound 67 = .ok (.goto (-57), 3) := by decide +kernel
theorem dX2_canSound_70 : decode cX2_canSound 70 = .ok (.iconst 0, 1) := by decide +kernel
theorem dX2_canSound_71 : decode cX2_canSound 71 = .ok (.ireturn, 1) := by decide +kernel
set_option maxRecDepth 20000 in
theorem ggX2_strike_X2_moveHeld : GoodIn wsX2_strike wsX2_moveHeld := goodIn_r _ [7, 8, 9, 10, 11, 12, 13, 14, 15, 16, 17, 18, 19, 20, 21, 22, 23, 24, 78, 79, 80, 81, 82, 83, 84, 85] (by decide +kernel) (by decide +kernel)
set_option maxRecDepth 20000 in
theorem gX2_strike_X2_moveHeld : GoodIn wsX2_strike (wsV RX2 90 RX2 yX2_moveHeld wsX2_moveHeld) := goodIn_app (goodIn_of _ (by decide +kernel)) ggX2_strike_X2_moveHeld
set_option maxRecDepth 20000 in
theorem ggX2_strike_X4_rows : GoodIn wsX2_strike wsX4_rows := goodIn_r _ [13, 14, 83, 84, 85] (by decide +kernel) (by decide +kernel)
set_option maxRecDepth 20000 in
theorem gX2_strike_X4_rows : GoodIn wsX2_strike (wsV RX2 70 RX4 yX4_rows wsX4_rows) := goodIn_app (goodIn_of _ (by decide +kernel)) ggX2_strike_X4_rows
set_option maxRecDepth 20000 in
theorem ggX2_strike_X2_sounds : GoodIn wsX2_strike wsX2_sounds := goodIn_r _ [28, 2, 29, 30, 31, 6, 32, 15, 16, 17, 12, 18, 14, 19, 20, 9, 10, 11, 13, 33, 34, 35, 36, 37, 78, 79, 80, 81, 82, 83, 84, 85] (by decide +kernel) (by decide +kernel)
set_option maxRecDepth 20000 in
theorem gX2_strike_X2_sounds : GoodIn wsX2_strike (wsV RX2 87 RX2 yX2_sounds wsX2_sounds) := goodIn_app (goodIn_of _ (by decide +kernel)) ggX2_strike_X2_sounds
set_option maxRecDepth 20000 in
theorem ggX2_strike_X2_begin : GoodIn wsX2_strike wsX2_begin := goodIn_r _ [41, 2, 8, 1, 15, 16, 17, 12, 18, 14, 19, 20, 42, 43, 44, 6, 45, 9, 10, 11, 13, 46, 47, 48, 49, 50, 51, 52, 53, 54, 55, 56, 57, 33, 34, 35, 36, 37, 58, 59, 60, 61, 62, 63, 64, 65, 66, 67, 68, 69, 70, 71, 72, 73, 21, 22, 23, 24, 78, 79, 80, 81, 82, 83, 84, 85] (by decide +kernel) (by decide +kernel)
set_option maxRecDepth 20000 in
theorem gX2_strike_X2_begin : GoodIn wsX2_strike (wsV RX2 93 RX2 yX2_begin wsX2_begin) := goodIn_app (goodIn_of _ (by decide +kernel)) ggX2_strike_X2_begin
set_option maxRecDepth 20000 in
theorem ggX2_strike_X2_passTurns : GoodIn wsX2_strike wsX2_passTurns := goodIn_r _ [77, 2, 9, 10, 11, 12, 13, 14, 15, 16, 17, 18, 19, 20, 29, 30, 31, 6, 32, 54, 55, 56, 57, 33, 34, 35, 36, 37, 58, 59, 60, 61, 78, 79, 80, 81, 82, 83, 84, 85] (by decide +kernel) (by decide +kernel)
set_option maxRecDepth 20000 in
theorem gX2_strike_X2_passTurns : GoodIn wsX2_strike (wsV RX2 96 RX2 yX2_passTurns wsX2_passTurns) := goodIn_app (goodIn_of _ (by decide +kernel)) ggX2_strike_X2_passTurns
theorem dX2_strike_0 : decode cX2_strike 0 = .ok (.aload_n 0, 1) := by decide +kernel
theorem dX2_strike_1 : decode cX2_strike 1 = .ok (.iload_n 1, 1) := by decide +kernel
theorem dX2_strike_2 : decode cX2_strike 2 = .ok (.iconst 2, 1) := by decide +kernel
theorem dX2_strike_3 : decode cX2_strike 3 = .ok (.invokevirtual 90, 3) := by decide +kernel
theorem dX2_strike_6 : decode cX2_strike 6 = .ok (.pop, 1) := by decide +kernel
theorem dX2_strike_7 : decode cX2_strike 7 = .ok (.aload_n 0, 1) := by decide +kernel
theorem dX2_strike_8 : decode cX2_strike 8 = .ok (.dup, 1) := by decide +kernel
theorem dX2_strike_9 : decode cX2_strike 9 = .ok (.getfield 50, 3) := by decide +kernel
theorem dX2_strike_12 : decode cX2_strike 12 = .ok (.iconst 1, 1) := by decide +kernel
theorem dX2_strike_13 : decode cX2_strike 13 = .ok (.iadd, 1) := by decide +kernel
theorem dX2_strike_14 : decode cX2_strike 14 = .ok (.putfield 50, 3) := by decide +kernel
theorem dX2_strike_17 : decode cX2_strike 17 = .ok (.iconst 0, 1) := by decide +kernel
theorem dX2_strike_18 : decode cX2_strike 18 = .ok (.istore_n 3, 1) := by decide +kernel
theorem dX2_strike_19 : decode cX2_strike 19 = .ok (.iconst 0, 1) := by decide +kernel
theorem dX2_strike_20 : decode cX2_strike 20 = .ok (.istore 4, 2) := by decide +kernel
theorem dX2_strike_22 : decode cX2_strike 22 = .ok (.iload 4, 2) := by decide +kernel
theorem dX2_strike_24 : decode cX2_strike 24 = .ok (.aload_n 0, 1) := by decide +kernel
theorem dX2_strike_25 : decode cX2_strike 25 = .ok (.getfield 14, 3) := by decide +kernel
theorem dX2_strike_28 : decode cX2_strike 28 = .ok (.invokevirtual 70, 3) := by decide +kernel
theorem dX2_strike_31 : decode cX2_strike 31 = .ok (.if_icmp .ge 31, 3) := by decide +kernel
theorem dX2_strike_34 : decode cX2_strike 34 = .ok (.aload_n 0, 1) := by decide +kernel
theorem dX2_strike_35 : decode cX2_strike 35 = .ok (.iload 4, 2) := by decide +kernel
theorem dX2_strike_37 : decode cX2_strike 37 = .ok (.iload_n 1, 1) := by decide +kernel
theorem dX2_strike_38 : decode cX2_strike 38 = .ok (.iload_n 2, 1) := by decide +kernel
theorem dX2_strike_39 : decode cX2_strike 39 = .ok (.invokevirtual 87, 3) := by decide +kernel
theorem dX2_strike_42 : decode cX2_strike 42 = .ok (.ifCond .eq 14, 3) := by decide +kernel
theorem dX2_strike_45 : decode cX2_strike 45 = .ok (.aload_n 0, 1) := by decide +kernel
theorem dX2_strike_46 : decode cX2_strike 46 = .ok (.iload 4, 2) := by decide +kernel
theorem dX2_strike_48 : decode cX2_strike 48 = .ok (.iload_n 1, 1) := by decide +kernel
theorem dX2_strike_49 : decode cX2_strike 49 = .ok (.iload_n 2, 1) := by decide +kernel
theorem dX2_strike_50 : decode cX2_strike 50 = .ok (.invokevirtual 93, 3) := by decide +kernel
theorem dX2_strike_53 : decode cX2_strike 53 = .ok (.iinc 3 1, 3) := by decide +kernel
theorem dX2_strike_56 : decode cX2_strike 56 = .ok (.iinc 4 1, 3) := by decide +kernel
theorem dX2_strike_59 : decode cX2_strike 59 = .ok (.goto (-37), 3) := by decide +kernel
theorem dX2_strike_62 : decode cX2_strike 62 = .ok (.aload_n 0, 1) := by decide +kernel
theorem dX2_strike_63 : decode cX2_strike 63 = .ok (.iload_n 1, 1) := by decide +kernel
theorem dX2_strike_64 : decode cX2_strike 64 = .ok (.iload_n 2, 1) := by decide +kernel
theorem dX2_strike_65 : decode cX2_strike 65 = .ok (.invokevirtual 96, 3) := by decide +kernel
theorem dX2_strike_68 : decode cX2_strike 68 = .ok (.iload_n 3, 1) := by decide +kernel
theorem dX2_strike_69 : decode cX2_strike 69 = .ok (.ireturn, 1) := by decide +kernel
set_option maxRecDepth 20000 in
theorem ggX2_passTurns_X4_rows : GoodIn wsX2_passTurns wsX4_rows := goodIn_r _ [6, 7, 37, 38, 39] (by decide +kernel) (by decide +kernel)
set_option maxRecDepth 20000 in
theorem gX2_passTurns_X4_rows : GoodIn wsX2_passTurns (wsV RX2 70 RX4 yX4_rows wsX4_rows) := goodIn_app (goodIn_of _ (by decide +kernel)) ggX2_passTurns_X4_rows
set_option maxRecDepth 20000 in
theorem ggX2_passTurns_X4_get : GoodIn wsX2_passTurns wsX4_get := goodIn_r _ [11, 7, 12, 13, 37, 38, 39] (by decide +kernel) (by decide +kernel)
set_option maxRecDepth 20000 in
theorem gX2_passTurns_X4_get : GoodIn wsX2_passTurns (wsV RX2 73 RX4 yX4_get wsX4_get) := goodIn_app (goodIn_of _ (by decide +kernel)) ggX2_passTurns_X4_get
set_option maxRecDepth 20000 in
theorem ggX2_passTurns_X2_matches : GoodIn wsX2_passTurns wsX2_matches := goodIn_r _ [18, 1, 8, 9, 10, 5, 11, 7, 12, 13, 32, 33, 34, 35, 36, 37, 38, 39] (by decide +kernel) (by decide +kernel)
set_option maxRecDepth 20000 in
theorem gX2_passTurns_X2_matches : GoodIn wsX2_passTurns (wsV RX2 83 RX2 yX2_matches wsX2_matches) := goodIn_app (goodIn_of _ (by decide +kernel)) ggX2_passTurns_X2_matches
set_option maxRecDepth 20000 in
theorem ggX2_passTurns_X2_grow : GoodIn wsX2_passTurns wsX2_grow := goodIn_r _ [22, 23, 24, 25, 17, 26, 27, 28, 29, 30, 31, 32, 33, 34, 35, 36] (by decide +kernel) (by decide +kernel)
set_option maxRecDepth 20000 in
theorem gX2_passTurns_X2_grow : GoodIn wsX2_passTurns (wsV RX2 80 RX2 yX2_grow wsX2_grow) := goodIn_app (goodIn_of _ (by decide +kernel)) ggX2_passTurns_X2_grow
theorem dX2_passTurns_0 : decode cX2_passTurns 0 = .ok (.iconst 1, 1) := by decide +kernel
theorem dX2_passTurns_1 : decode cX2_passTurns 1 = .ok (.istore_n 3, 1) := by decide +kernel
theorem dX2_passTurns_2 : decode cX2_passTurns 2 = .ok (.iload_n 3, 1) := by decide +kernel
theorem dX2_passTurns_3 : decode cX2_passTurns 3 = .ok (.iconst 4, 1) := by decide +kernel
theorem dX2_passTurns_4 : decode cX2_passTurns 4 = .ok (.if_icmp .gt 88, 3) := by decide +kernel
theorem dX2_passTurns_7 : decode cX2_passTurns 7 = .ok (.iconst 0, 1) := by decide +kernel
theorem dX2_passTurns_8 : decode cX2_passTurns 8 = .ok (.istore 4, 2) := by decide +kernel
theorem dX2_passTurns_10 : decode cX2_passTurns 10 = .ok (.iconst 0, 1) := by decide +kernel
theorem dX2_passTurns_11 : decode cX2_passTurns 11 = .ok (.istore 5, 2) := by decide +kernel
theorem dX2_passTurns_13 : decode cX2_passTurns 13 = .ok (.iload 5, 2) := by decide +kernel
theorem dX2_passTurns_15 : decode cX2_passTurns 15 = .ok (.aload_n 0, 1) := by decide +kernel
theorem dX2_passTurns_16 : decode cX2_passTurns 16 = .ok (.getfield 14, 3) := by decide +kernel
theorem dX2_passTurns_19 : decode cX2_passTurns 19 = .ok (.invokevirtual 70, 3) := by decide +kernel
theorem dX2_passTurns_22 : decode cX2_passTurns 22 = .ok (.if_icmp .ge 44, 3) := by decide +kernel
theorem dX2_passTurns_25 : decode cX2_passTurns 25 = .ok (.iload 4, 2) := by decide +kernel
theorem dX2_passTurns_27 : decode cX2_passTurns 27 = .ok (.aload_n 0, 1) := by decide +kernel
theorem dX2_passTurns_28 : decode cX2_passTurns 28 = .ok (.getfield 14, 3) := by decide +kernel
theorem dX2_passTurns_31 : decode cX2_passTurns 31 = .ok (.iload 5, 2) := by decide +kernel
theorem dX2_passTurns_33 : decode cX2_passTurns 33 = .ok (.iconst 5, 1) := by decide +kernel
theorem dX2_passTurns_34 : decode cX2_passTurns 34 = .ok (.invokevirtual 73, 3) := by decide +kernel
theorem dX2_passTurns_37 : decode cX2_passTurns 37 = .ok (.iload_n 3, 1) := by decide +kernel
theorem dX2_passTurns_38 : decode cX2_passTurns 38 = .ok (.if_icmp .ne 18, 3) := by decide +kernel
theorem dX2_passTurns_41 : decode cX2_passTurns 41 = .ok (.aload_n 0, 1) := by decide +kernel
theorem dX2_passTurns_42 : decode cX2_passTurns 42 = .ok (.iload 5, 2) := by decide +kernel
theorem dX2_passTurns_44 : decode cX2_passTurns 44 = .ok (.iload_n 1, 1) := by decide +kernel
theorem dX2_passTurns_45 : decode cX2_passTurns 45 = .ok (.iload_n 2, 1) := by decide +kernel
theorem dX2_passTurns_46 : decode cX2_passTurns 46 = .ok (.invokevirtual 83, 3) := by decide +kernel
theorem dX2_passTurns_49 : decode cX2_passTurns 49 = .ok (.ifCond .eq 7, 3) := by decide +kernel
theorem dX2_passTurns_52 : decode cX2_passTurns 52 = .ok (.iconst 1, 1) := by decide +kernel
theorem dX2_passTurns_53 : decode cX2_passTurns 53 = .ok (.goto 4, 3) := by decide +kernel
theorem dX2_passTurns_56 : decode cX2_passTurns 56 = .ok (.iconst 0, 1) := by decide +kernel
theorem dX2_passTurns_57 : decode cX2_passTurns 57 = .ok (.ior, 1) := by decide +kernel
theorem dX2_passTurns_58 : decode cX2_passTurns 58 = .ok (.istore 4, 2) := by decide +kernel
theorem dX2_passTurns_60 : decode cX2_passTurns 60 = .ok (.iinc 5 1, 3) := by decide +kernel
theorem dX2_passTurns_63 : decode cX2_passTurns 63 = .ok (.goto (-50), 3) := by decide +kernel
theorem dX2_passTurns_66 : decode cX2_passTurns 66 = .ok (.aload_n 0, 1) := by decide +kernel
theorem dX2_passTurns_67 : decode cX2_passTurns 67 = .ok (.bipush 9, 2) := by decide +kernel
theorem dX2_passTurns_69 : decode cX2_passTurns 69 = .ok (.iload_n 3, 1) := by decide +kernel
theorem dX2_passTurns_70 : decode cX2_passTurns 70 = .ok (.iadd, 1) := by decide +kernel
theorem dX2_passTurns_71 : decode cX2_passTurns 71 = .ok (.iconst 1, 1) := by decide +kernel
theorem dX2_passTurns_72 : decode cX2_passTurns 72 = .ok (.isub, 1) := by decide +kernel
theorem dX2_passTurns_73 : decode cX2_passTurns 73 = .ok (.iload 4, 2) := by decide +kernel
theorem dX2_passTurns_75 : decode cX2_passTurns 75 = .ok (.ifCond .eq 7, 3) := by decide +kernel
theorem dX2_passTurns_78 : decode cX2_passTurns 78 = .ok (.iconst 1, 1) := by decide +kernel
theorem dX2_passTurns_79 : decode cX2_passTurns 79 = .ok (.goto 4, 3) := by decide +kernel
theorem dX2_passTurns_82 : decode cX2_passTurns 82 = .ok (.iconst 0, 1) := by decide +kernel
theorem dX2_passTurns_83 : decode cX2_passTurns 83 = .ok (.invokevirtual 80, 3) := by decide +kernel
theorem dX2_passTurns_86 : decode cX2_passTurns 86 = .ok (.iinc 3 1, 3) := by decide +kernel
theorem dX2_passTurns_89 : decode cX2_passTurns 89 = .ok (.goto (-87), 3) := by decide +kernel
theorem dX2_passTurns_92 : decode cX2_passTurns 92 = .ok (.return_, 1) := by decide +kernel
set_option maxRecDepth 20000 in
theorem ggX2_begin_X4_get : GoodIn wsX2_begin wsX4_get := goodIn_r _ [8, 9, 10, 11, 63, 64, 65] (by decide +kernel) (by decide +kernel)
set_option maxRecDepth 20000 in
theorem gX2_begin_X4_get : GoodIn wsX2_begin (wsV RX2 73 RX4 yX4_get wsX4_get) := goodIn_app (goodIn_of _ (by decide +kernel)) ggX2_begin_X4_get
set_option maxRecDepth 20000 in
theorem ggX2_begin_X2_choke : GoodIn wsX2_begin wsX2_choke := goodIn_r _ [16, 2, 3, 1, 17, 18, 19, 7, 20, 9, 4, 5, 6, 8, 10, 11, 21, 22, 23, 24, 25, 26, 27, 28, 29, 30, 31, 15, 32, 33, 34, 35, 36, 37, 38, 39, 40, 41, 58, 59, 60, 61, 62, 63, 64, 65] (by decide +kernel) (by decide +kernel)
set_option maxRecDepth 20000 in
theorem gX2_begin_X2_choke : GoodIn wsX2_begin (wsV RX2 99 RX2 yX2_choke wsX2_choke) := goodIn_app (goodIn_of _ (by decide +kernel)) ggX2_begin_X2_choke
set_option maxRecDepth 20000 in
theorem ggX2_begin_X2_number : GoodIn wsX2_begin wsX2_number := goodIn_r _ [36, 37, 58, 59, 60, 61, 62] (by decide +kernel) (by decide +kernel)
set_option maxRecDepth 20000 in
theorem gX2_begin_X2_number : GoodIn wsX2_begin (wsV RX2 54 RX2 yX2_number wsX2_number) := goodIn_app (goodIn_of _ (by decide +kernel)) ggX2_begin_X2_number
set_option maxRecDepth 20000 in
theorem ggX2_begin_X2_stealDownTo : GoodIn wsX2_begin wsX2_stealDownTo := goodIn_r _ [45, 2, 17, 18, 19, 7, 20, 9, 46, 47, 48, 15, 49, 33, 34, 35, 36, 37, 4, 5, 6, 8, 10, 11, 21, 22, 23, 24, 25, 26, 27, 28, 29, 30, 31, 32, 38, 39, 40, 41, 58, 59, 60, 61, 62, 63, 64, 65] (by decide +kernel) (by decide +kernel)
set_option maxRecDepth 20000 in
theorem gX2_begin_X2_stealDownTo : GoodIn wsX2_begin (wsV RX2 102 RX2 yX2_stealDownTo wsX2_stealDownTo) := goodIn_app (goodIn_of _ (by decide +kernel)) ggX2_begin_X2_stealDownTo
set_option maxRecDepth 20000 in
theorem ggX2_begin_X4_addRow : GoodIn wsX2_begin wsX4_addRow := goodIn_r _ [53, 9, 10, 11, 63, 64, 65] (by decide +kernel) (by decide +kernel)
set_option maxRecDepth 20000 in
theorem gX2_begin_X4_addRow : GoodIn wsX2_begin (wsV RX2 58 RX4 yX4_addRow wsX4_addRow) := goodIn_app (goodIn_of _ (by decide +kernel)) ggX2_begin_X4_addRow
set_option maxRecDepth 20000 in
theorem ggX2_begin_X4_put : GoodIn wsX2_begin wsX4_put := goodIn_r _ [57, 9, 10, 11, 63, 64, 65] (by decide +kernel) (by decide +kernel)
set_option maxRecDepth 20000 in
theorem gX2_begin_X4_put : GoodIn wsX2_begin (wsV RX2 62 RX4 yX4_put wsX4_put) := goodIn_app (goodIn_of _ (by decide +kernel)) ggX2_begin_X4_put
set_option maxRecDepth 20000 in
theorem ggX2_begin_X2_grow : GoodIn wsX2_begin wsX2_grow := goodIn_r _ [32, 33, 34, 35, 15, 36, 37, 38, 39, 40, 41, 58, 59, 60, 61, 62] (by decide +kernel) (by decide +kernel)
set_option maxRecDepth 20000 in
theorem gX2_begin_X2_grow : GoodIn wsX2_begin (wsV RX2 80 RX2 yX2_grow wsX2_grow) := goodIn_app (goodIn_of _ (by decide +kernel)) ggX2_begin_X2_grow
theorem dX2_begin_0 : decode cX2_begin 0 = .ok (.aload_n 0, 1) := by decide +kernel
theorem dX2_begin_1 : decode cX2_begin 1 = .ok (.aload_n 0, 1) := by decide +kernel
theorem dX2_begin_2 : decode cX2_begin 2 = .ok (.getfield 14, 3) := by decide +kernel
theorem dX2_begin_5 : decode cX2_begin 5 = .ok (.iload_n 1, 1) := by decide +kernel
theorem dX2_begin_6 : decode cX2_begin 6 = .ok (.iconst 4, 1) := by decide +kernel
theorem dX2_begin_7 : decode cX2_begin 7 = .ok (.invokevirtual 73, 3) := by decide +kernel
theorem dX2_begin_10 : decode cX2_begin 10 = .ok (.invokevirtual 99, 3) := by decide +kernel
theorem dX2_begin_13 : decode cX2_begin 13 = .ok (.aload_n 0, 1) := by decide +kernel
theorem dX2_begin_14 : decode cX2_begin 14 = .ok (.aload_n 0, 1) := by decide +kernel
theorem dX2_begin_15 : decode cX2_begin 15 = .ok (.bipush 6, 2) := by decide +kernel
theorem dX2_begin_17 : decode cX2_begin 17 = .ok (.invokevirtual 54, 3) := by decide +kernel
theorem dX2_begin_20 : decode cX2_begin 20 = .ok (.iconst 1, 1) := by decide +kernel
theorem dX2_begin_21 : decode cX2_begin 21 = .ok (.isub, 1) := by decide +kernel
theorem dX2_begin_22 : decode cX2_begin 22 = .ok (.invokevirtual 102, 3) := by decide +kernel
theorem dX2_begin_25 : decode cX2_begin 25 = .ok (.aload_n 0, 1) := by decide +kernel
theorem dX2_begin_26 : decode cX2_begin 26 = .ok (.getfield 20, 3) := by decide +kernel
theorem dX2_begin_29 : decode cX2_begin 29 = .ok (.invokevirtual 58, 3) := by decide +kernel
theorem dX2_begin_32 : decode cX2_begin 32 = .ok (.istore 4, 2) := by decide +kernel
theorem dX2_begin_34 : decode cX2_begin 34 = .ok (.aload_n 0, 1) := by decide +kernel
theorem dX2_begin_35 : decode cX2_begin 35 = .ok (.getfield 20, 3) := by decide +kernel
theorem dX2_begin_38 : decode cX2_begin 38 = .ok (.iload 4, 2) := by decide +kernel
theorem dX2_begin_40 : decode cX2_begin 40 = .ok (.iconst 0, 1) := by decide +kernel
theorem dX2_begin_41 : decode cX2_begin 41 = .ok (.iload_n 1, 1) := by decide +kernel
theorem dX2_begin_42 : decode cX2_begin 42 = .ok (.invokevirtual 62, 3) := by decide +kernel
theorem dX2_begin_45 : decode cX2_begin 45 = .ok (.aload_n 0, 1) := by decide +kernel
theorem dX2_begin_46 : decode cX2_begin 46 = .ok (.getfield 20, 3) := by decide +kernel
theorem dX2_begin_49 : decode cX2_begin 49 = .ok (.iload 4, 2) := by decide +kernel
theorem dX2_begin_51 : decode cX2_begin 51 = .ok (.iconst 1, 1) := by decide +kernel
theorem dX2_begin_52 : decode cX2_begin 52 = .ok (.iload_n 2, 1) := by decide +kernel
theorem dX2_begin_53 : decode cX2_begin 53 = .ok (.invokevirtual 62, 3) := by decide +kernel
theorem dX2_begin_56 : decode cX2_begin 56 = .ok (.aload_n 0, 1) := by decide +kernel
theorem dX2_begin_57 : decode cX2_begin 57 = .ok (.getfield 20, 3) := by decide +kernel
theorem dX2_begin_60 : decode cX2_begin 60 = .ok (.iload 4, 2) := by decide +kernel
theorem dX2_begin_62 : decode cX2_begin 62 = .ok (.iconst 2, 1) := by decide +kernel
theorem dX2_begin_63 : decode cX2_begin 63 = .ok (.iload_n 3, 1) := by decide +kernel
theorem dX2_begin_64 : decode cX2_begin 64 = .ok (.invokevirtual 62, 3) := by decide +kernel
theorem dX2_begin_67 : decode cX2_begin 67 = .ok (.aload_n 0, 1) := by decide +kernel
theorem dX2_begin_68 : decode cX2_begin 68 = .ok (.getfield 20, 3) := by decide +kernel
theorem dX2_begin_71 : decode cX2_begin 71 = .ok (.iload 4, 2) := by decide +kernel
theorem dX2_begin_73 : decode cX2_begin 73 = .ok (.iconst 3, 1) := by decide +kernel
theorem dX2_begin_74 : decode cX2_begin 74 = .ok (.bipush 10, 2) := by decide +kernel
theorem dX2_begin_76 : decode cX2_begin 76 = .ok (.iload_n 3, 1) := by decide +kernel
theorem dX2_begin_77 : decode cX2_begin 77 = .ok (.imul, 1) := by decide +kernel
theorem dX2_begin_78 : decode cX2_begin 78 = .ok (.invokevirtual 62, 3) := by decide +kernel
theorem dX2_begin_81 : decode cX2_begin 81 = .ok (.aload_n 0, 1) := by decide +kernel
theorem dX2_begin_82 : decode cX2_begin 82 = .ok (.getfield 20, 3) := by decide +kernel
theorem dX2_begin_85 : decode cX2_begin 85 = .ok (.iload 4, 2) := by decide +kernel
theorem dX2_begin_87 : decode cX2_begin 87 = .ok (.iconst 4, 1) := by decide +kernel
theorem dX2_begin_88 : decode cX2_begin 88 = .ok (.iconst 0, 1) := by decide +kernel
theorem dX2_begin_89 : decode cX2_begin 89 = .ok (.invokevirtual 62, 3) := by decide +kernel
theorem dX2_begin_92 : decode cX2_begin 92 = .ok (.aload_n 0, 1) := by decide +kernel
theorem dX2_begin_93 : decode cX2_begin 93 = .ok (.getfield 20, 3) := by decide +kernel
theorem dX2_begin_96 : decode cX2_begin 96 = .ok (.iload 4, 2) := by decide +kernel
theorem dX2_begin_98 : decode cX2_begin 98 = .ok (.iconst 5, 1) := by decide +kernel
theorem dX2_begin_99 : decode cX2_begin 99 = .ok (.iconst 0, 1) := by decide +kernel
theorem dX2_begin_100 : decode cX2_begin 100 = .ok (.invokevirtual 62, 3) := by decide +kernel
theorem dX2_begin_103 : decode cX2_begin 103 = .ok (.aload_n 0, 1) := by decide +kernel
theorem dX2_begin_104 : decode cX2_begin 104 = .ok (.getfield 20, 3) := by decide +kernel
theorem dX2_begin_107 : decode cX2_begin 107 = .ok (.iload 4, 2) := by decide +kernel
theorem dX2_begin_109 : decode cX2_begin 109 = .ok (.bipush 6, 2) := by decide +kernel
theorem dX2_begin_111 : decode cX2_begin 111 = .ok (.aload_n 0, 1) := by decide +kernel
theorem dX2_begin_112 : decode cX2_begin 112 = .ok (.getfield 50, 3) := by decide +kernel
theorem dX2_begin_115 : decode cX2_begin 115 = .ok (.invokevirtual 62, 3) := by decide +kernel
theorem dX2_begin_118 : decode cX2_begin 118 = .ok (.aload_n 0, 1) := by decide +kernel
theorem dX2_begin_119 : decode cX2_begin 119 = .ok (.iconst 1, 1) := by decide +kernel
theorem dX2_begin_120 : decode cX2_begin 120 = .ok (.iconst 1, 1) := by decide +kernel
theorem dX2_begin_121 : decode cX2_begin 121 = .ok (.invokevirtual 80, 3) := by decide +kernel
theorem dX2_begin_124 : decode cX2_begin 124 = .ok (.return_, 1) := by decide +kernel
set_option maxRecDepth 20000 in
theorem ggX2_choke_X4_rows : GoodIn wsX2_choke wsX4_rows := goodIn_r _ [8, 9, 43, 44, 45] (by decide +kernel) (by decide +kernel)
set_option maxRecDepth 20000 in
theorem gX2_choke_X4_rows : GoodIn wsX2_choke (wsV RX2 70 RX4 yX4_rows wsX4_rows) := goodIn_app (goodIn_of _ (by decide +kernel)) ggX2_choke_X4_rows
set_option maxRecDepth 20000 in
theorem ggX2_choke_X4_get : GoodIn wsX2_choke wsX4_get := goodIn_r _ [13, 9, 14, 15, 43, 44, 45] (by decide +kernel) (by decide +kernel)
set_option maxRecDepth 20000 in
theorem gX2_choke_X4_get : GoodIn wsX2_choke (wsV RX2 73 RX4 yX4_get wsX4_get) := goodIn_app (goodIn_of _ (by decide +kernel)) ggX2_choke_X4_get
set_option maxRecDepth 20000 in
theorem ggX2_choke_X4_removeRow : GoodIn wsX2_choke wsX4_removeRow := goodIn_r _ [19, 14, 15, 9, 20, 21, 22, 7, 23, 43, 44, 45] (by decide +kernel) (by decide +kernel)
set_option maxRecDepth 20000 in
theorem gX2_choke_X4_removeRow : GoodIn wsX2_choke (wsV RX2 76 RX4 yX4_removeRow wsX4_removeRow) := goodIn_app (goodIn_of _ (by decide +kernel)) ggX2_choke_X4_removeRow
set_option maxRecDepth 20000 in
theorem ggX2_choke_X2_grow : GoodIn wsX2_choke wsX2_grow := goodIn_r _ [28, 29, 30, 31, 27, 32, 33, 34, 35, 36, 37, 38, 39, 40, 41, 42] (by decide +kernel) (by decide +kernel)
set_option maxRecDepth 20000 in
theorem gX2_choke_X2_grow : GoodIn wsX2_choke (wsV RX2 80 RX2 yX2_grow wsX2_grow) := goodIn_app (goodIn_of _ (by decide +kernel)) ggX2_choke_X2_grow
theorem dX2_choke_0 : decode cX2_choke 0 = .ok (.iload_n 1, 1) := by decide +kernel
theorem dX2_choke_1 : decode cX2_choke 1 = .ok (.ifCond .ne 4, 3) := by decide +kernel
theorem dX2_choke_4 : decode cX2_choke 4 = .ok (.return_, 1) := by decide +kernel
theorem dX2_choke_5 : decode cX2_choke 5 = .ok (.aload_n 0, 1) := by decide +kernel
theorem dX2_choke_6 : decode cX2_choke 6 = .ok (.getfield 20, 3) := by decide +kernel
theorem dX2_choke_9 : decode cX2_choke 9 = .ok (.invokevirtual 70, 3) := by decide +kernel
theorem dX2_choke_12 : decode cX2_choke 12 = .ok (.iconst 1, 1) := by decide +kernel
theorem dX2_choke_13 : decode cX2_choke 13 = .ok (.isub, 1) := by decide +kernel
theorem dX2_choke_14 : decode cX2_choke 14 = .ok (.istore_n 2, 1) := by decide +kernel
theorem dX2_choke_15 : decode cX2_choke 15 = .ok (.iload_n 2, 1) := by decide +kernel
theorem dX2_choke_16 : decode cX2_choke 16 = .ok (.ifCond .lt 71, 3) := by decide +kernel
theorem dX2_choke_19 : decode cX2_choke 19 = .ok (.aload_n 0, 1) := by decide +kernel
theorem dX2_choke_20 : decode cX2_choke 20 = .ok (.getfield 20, 3) := by decide +kernel
theorem dX2_choke_23 : decode cX2_choke 23 = .ok (.iload_n 2, 1) := by decide +kernel
theorem dX2_choke_24 : decode cX2_choke 24 = .ok (.bipush 6, 2) := by decide +kernel
theorem dX2_choke_26 : decode cX2_choke 26 = .ok (.invokevirtual 73, 3) := by decide +kernel
theorem dX2_choke_29 : decode cX2_choke 29 = .ok (.aload_n 0, 1) := by decide +kernel
theorem dX2_choke_30 : decode cX2_choke 30 = .ok (.getfield 50, 3) := by decide +kernel
theorem dX2_choke_33 : decode cX2_choke 33 = .ok (.if_icmp .eq 7, 3) := by decide +kernel
theorem dX2_choke_36 : decode cX2_choke 36 = .ok (.iconst 1, 1) := by decide +kernel
theorem dX2_choke_37 : decode cX2_choke 37 = .ok (.goto 4, 3) := by decide +kernel
theorem dX2_choke_40 : decode cX2_choke 40 = .ok (.iconst 0, 1) := by decide +kernel
theorem dX2_choke_41 : decode cX2_choke 41 = .ok (.istore_n 3, 1) := by decide +kernel
theorem dX2_choke_42 : decode cX2_choke 42 = .ok (.iload_n 3, 1) := by decide +kernel
theorem dX2_choke_43 : decode cX2_choke 43 = .ok (.ifCond .eq 38, 3) := by decide +kernel
theorem dX2_choke_46 : decode cX2_choke 46 = .ok (.aload_n 0, 1) := by decide +kernel
theorem dX2_choke_47 : decode cX2_choke 47 = .ok (.getfield 14, 3) := by decide +kernel
theorem dX2_choke_50 : decode cX2_choke 50 = .ok (.aload_n 0, 1) := by decide +kernel
theorem dX2_choke_51 : decode cX2_choke 51 = .ok (.getfield 20, 3) := by decide +kernel
theorem dX2_choke_54 : decode cX2_choke 54 = .ok (.iload_n 2, 1) := by decide +kernel
theorem dX2_choke_55 : decode cX2_choke 55 = .ok (.iconst 0, 1) := by decide +kernel
theorem dX2_choke_56 : decode cX2_choke 56 = .ok (.invokevirtual 73, 3) := by decide +kernel
theorem dX2_choke_59 : decode cX2_choke 59 = .ok (.iconst 4, 1) := by decide +kernel
theorem dX2_choke_60 : decode cX2_choke 60 = .ok (.invokevirtual 73, 3) := by decide +kernel
theorem dX2_choke_63 : decode cX2_choke 63 = .ok (.iload_n 1, 1) := by decide +kernel
theorem dX2_choke_64 : decode cX2_choke 64 = .ok (.if_icmp .ne 17, 3) := by decide +kernel
theorem dX2_choke_67 : decode cX2_choke 67 = .ok (.aload_n 0, 1) := by decide +kernel
theorem dX2_choke_68 : decode cX2_choke 68 = .ok (.getfield 20, 3) := by decide +kernel
theorem dX2_choke_71 : decode cX2_choke 71 = .ok (.iload_n 2, 1) := by decide +kernel
theorem dX2_choke_72 : decode cX2_choke 72 = .ok (.invokevirtual 76, 3) := by decide +kernel
theorem dX2_choke_75 : decode cX2_choke 75 = .ok (.aload_n 0, 1) := by decide +kernel
theorem dX2_choke_76 : decode cX2_choke 76 = .ok (.iconst 3, 1) := by decide +kernel
theorem dX2_choke_77 : decode cX2_choke 77 = .ok (.iconst 1, 1) := by decide +kernel
theorem dX2_choke_78 : decode cX2_choke 78 = .ok (.invokevirtual 80, 3) := by decide +kernel
theorem dX2_choke_81 : decode cX2_choke 81 = .ok (.iinc 2 (-1), 3) := by decide +kernel
theorem dX2_choke_84 : decode cX2_choke 84 = .ok (.goto (-69), 3) := by decide +kernel
theorem dX2_choke_87 : decode cX2_choke 87 = .ok (.return_, 1) := by decide +kernel
set_option maxRecDepth 20000 in
theorem ggX2_stealDownTo_X4_rows : GoodIn wsX2_stealDownTo wsX4_rows := goodIn_r _ [6, 7, 45, 46, 47] (by decide +kernel) (by decide +kernel)
set_option maxRecDepth 20000 in
theorem gX2_stealDownTo_X4_rows : GoodIn wsX2_stealDownTo (wsV RX2 70 RX4 yX4_rows wsX4_rows) := goodIn_app (goodIn_of _ (by decide +kernel)) ggX2_stealDownTo_X4_rows
set_option maxRecDepth 20000 in
theorem ggX2_stealDownTo_X2_stealRank : GoodIn wsX2_stealDownTo wsX2_stealRank := goodIn_r _ [12, 1, 13, 14, 15, 11, 16, 17, 18, 19, 20, 5, 21, 7, 22, 23, 40, 41, 42, 43, 44, 45, 46, 47] (by decide +kernel) (by decide +kernel)
set_option maxRecDepth 20000 in
theorem gX2_stealDownTo_X2_stealRank : GoodIn wsX2_stealDownTo (wsV RX2 105 RX2 yX2_stealRank wsX2_stealRank) := goodIn_app (goodIn_of _ (by decide +kernel)) ggX2_stealDownTo_X2_stealRank
set_option maxRecDepth 20000 in
theorem ggX2_stealDownTo_X4_removeRow : GoodIn wsX2_stealDownTo wsX4_removeRow := goodIn_r _ [27, 22, 23, 7, 28, 29, 30, 5, 31, 45, 46, 47] (by decide +kernel) (by decide +kernel)
set_option maxRecDepth 20000 in
theorem gX2_stealDownTo_X4_removeRow : GoodIn wsX2_stealDownTo (wsV RX2 76 RX4 yX4_removeRow wsX4_removeRow) := goodIn_app (goodIn_of _ (by decide +kernel)) ggX2_stealDownTo_X4_removeRow
set_option maxRecDepth 20000 in
theorem ggX2_stealDownTo_X2_grow : GoodIn wsX2_stealDownTo wsX2_grow := goodIn_r _ [35, 13, 14, 15, 11, 16, 17, 36, 37, 38, 39, 40, 41, 42, 43, 44] (by decide +kernel) (by decide +kernel)
set_option maxRecDepth 20000 in
theorem gX2_stealDownTo_X2_grow : GoodIn wsX2_stealDownTo (wsV RX2 80 RX2 yX2_grow wsX2_grow) := goodIn_app (goodIn_of _ (by decide +kernel)) ggX2_stealDownTo_X2_grow
theorem dX2_stealDownTo_0 : decode cX2_stealDownTo 0 = .ok (.aload_n 0, 1) := by decide +kernel
theorem dX2_stealDownTo_1 : decode cX2_stealDownTo 1 = .ok (.getfield 20, 3) := by decide +kernel
theorem dX2_stealDownTo_4 : decode cX2_stealDownTo 4 = .ok (.invokevirtual 70, 3) := by decide +kernel
theorem dX2_stealDownTo_7 : decode cX2_stealDownTo 7 = .ok (.istore_n 2, 1) := by decide +kernel
theorem dX2_stealDownTo_8 : decode cX2_stealDownTo 8 = .ok (.iload_n 2, 1) := by decide +kernel
theorem dX2_stealDownTo_9 : decode cX2_stealDownTo 9 = .ok (.iload_n 1, 1) := by decide +kernel
theorem dX2_stealDownTo_10 : decode cX2_stealDownTo 10 = .ok (.if_icmp .le 71, 3) := by decide +kernel
theorem dX2_stealDownTo_13 : decode cX2_stealDownTo 13 = .ok (.iload_n 2, 1) := by decide +kernel
theorem dX2_stealDownTo_14 : decode cX2_stealDownTo 14 = .ok (.ifCond .le 67, 3) := by decide +kernel
theorem dX2_stealDownTo_17 : decode cX2_stealDownTo 17 = .ok (.iconst 0, 1) := by decide +kernel
theorem dX2_stealDownTo_18 : decode cX2_stealDownTo 18 = .ok (.istore_n 3, 1) := by decide +kernel
theorem dX2_stealDownTo_19 : decode cX2_stealDownTo 19 = .ok (.iconst 1, 1) := by decide +kernel
theorem dX2_stealDownTo_20 : decode cX2_stealDownTo 20 = .ok (.istore 4, 2) := by decide +kernel
theorem dX2_stealDownTo_22 : decode cX2_stealDownTo 22 = .ok (.iload 4, 2) := by decide +kernel
theorem dX2_stealDownTo_24 : decode cX2_stealDownTo 24 = .ok (.aload_n 0, 1) := by decide +kernel
theorem dX2_stealDownTo_25 : decode cX2_stealDownTo 25 = .ok (.getfield 20, 3) := by decide +kernel
theorem dX2_stealDownTo_28 : decode cX2_stealDownTo 28 = .ok (.invokevirtual 70, 3) := by decide +kernel
theorem dX2_stealDownTo_31 : decode cX2_stealDownTo 31 = .ok (.if_icmp .ge 30, 3) := by decide +kernel
theorem dX2_stealDownTo_34 : decode cX2_stealDownTo 34 = .ok (.aload_n 0, 1) := by decide +kernel
theorem dX2_stealDownTo_35 : decode cX2_stealDownTo 35 = .ok (.iload 4, 2) := by decide +kernel
theorem dX2_stealDownTo_37 : decode cX2_stealDownTo 37 = .ok (.invokevirtual 105, 3) := by decide +kernel
theorem dX2_stealDownTo_40 : decode cX2_stealDownTo 40 = .ok (.aload_n 0, 1) := by decide +kernel
theorem dX2_stealDownTo_41 : decode cX2_stealDownTo 41 = .ok (.iload_n 3, 1) := by decide +kernel
theorem dX2_stealDownTo_42 : decode cX2_stealDownTo 42 = .ok (.invokevirtual 105, 3) := by decide +kernel
theorem dX2_stealDownTo_45 : decode cX2_stealDownTo 45 = .ok (.if_icmp .ge 8, 3) := by decide +kernel
theorem dX2_stealDownTo_48 : decode cX2_stealDownTo 48 = .ok (.iload 4, 2) := by decide +kernel
theorem dX2_stealDownTo_50 : decode cX2_stealDownTo 50 = .ok (.goto 4, 3) := by decide +kernel
theorem dX2_stealDownTo_53 : decode cX2_stealDownTo 53 = .ok (.iload_n 3, 1) := by decide +kernel
theorem dX2_stealDownTo_54 : decode cX2_stealDownTo 54 = .ok (.istore_n 3, 1) := by decide +kernel
theorem dX2_stealDownTo_55 : decode cX2_stealDownTo 55 = .ok (.iinc 4 1, 3) := by decide +kernel
theorem dX2_stealDownTo_58 : decode cX2_stealDownTo 58 = .ok (.goto (-36), 3) := by decide +kernel
theorem dX2_stealDownTo_61 : decode cX2_stealDownTo 61 = .ok (.aload_n 0, 1) := by decide +kernel
theorem dX2_stealDownTo_62 : decode cX2_stealDownTo 62 = .ok (.getfield 20, 3) := by decide +kernel
theorem dX2_stealDownTo_65 : decode cX2_stealDownTo 65 = .ok (.iload_n 3, 1) := by decide +kernel
theorem dX2_stealDownTo_66 : decode cX2_stealDownTo 66 = .ok (.invokevirtual 76, 3) := by decide +kernel
theorem dX2_stealDownTo_69 : decode cX2_stealDownTo 69 = .ok (.aload_n 0, 1) := by decide +kernel
theorem dX2_stealDownTo_70 : decode cX2_stealDownTo 70 = .ok (.iconst 4, 1) := by decide +kernel
theorem dX2_stealDownTo_71 : decode cX2_stealDownTo 71 = .ok (.iconst 1, 1) := by decide +kernel
theorem dX2_stealDownTo_72 : decode cX2_stealDownTo 72 = .ok (.invokevirtual 80, 3) := by decide +kernel
theorem dX2_stealDownTo_75 : decode cX2_stealDownTo 75 = .ok (.iinc 2 (-1), 3) := by decide +kernel
theorem dX2_stealDownTo_78 : decode cX2_stealDownTo 78 = .ok (.goto (-70), 3) := by decide +kernel
theorem dX2_stealDownTo_81 : decode cX2_stealDownTo 81 = .ok (.return_, 1) := by decide +kernel
set_option maxRecDepth 20000 in
theorem ggX2_stealPlace_X2_stealRank : GoodIn wsX2_stealPlace wsX2_stealRank := goodIn_r _ [6, 1, 7, 8, 9, 5, 10, 11, 12, 13, 14, 15, 16, 17, 18, 19, 24, 25, 26, 27, 28, 29, 30, 31] (by decide +kernel) (by decide +kernel)
set_option maxRecDepth 20000 in
theorem gX2_stealPlace_X2_stealRank : GoodIn wsX2_stealPlace (wsV RX2 105 RX2 yX2_stealRank wsX2_stealRank) := goodIn_app (goodIn_of _ (by decide +kernel)) ggX2_stealPlace_X2_stealRank
set_option maxRecDepth 20000 in
theorem ggX2_stealPlace_X4_rows : GoodIn wsX2_stealPlace wsX4_rows := goodIn_r _ [23, 17, 29, 30, 31] (by decide +kernel) (by decide +kernel)
set_option maxRecDepth 20000 in
theorem gX2_stealPlace_X4_rows : GoodIn wsX2_stealPlace (wsV RX2 70 RX4 yX4_rows wsX4_rows) := goodIn_app (goodIn_of _ (by decide +kernel)) ggX2_stealPlace_X4_rows
theorem dX2_stealPlace_0 : decode cX2_stealPlace 0 = .ok (.aload_n 0, 1) := by decide +kernel
theorem dX2_stealPlace_1 : decode cX2_stealPlace 1 = .ok (.iload_n 1, 1) := by decide +kernel
theorem dX2_stealPlace_2 : decode cX2_stealPlace 2 = .ok (.invokevirtual 105, 3) := by decide +kernel
theorem dX2_stealPlace_5 : decode cX2_stealPlace 5 = .ok (.istore_n 2, 1) := by decide +kernel
theorem dX2_stealPlace_6 : decode cX2_stealPlace 6 = .ok (.iconst 0, 1) := by decide +kernel
theorem dX2_stealPlace_7 : decode cX2_stealPlace 7 = .ok (.istore_n 3, 1) := by decide +kernel
theorem dX2_stealPlace_8 : decode cX2_stealPlace 8 = .ok (.iconst 0, 1) := by decide +kernel
theorem dX2_stealPlace_9 : decode cX2_stealPlace 9 = .ok (.istore 4, 2) := by decide +kernel
theorem dX2_stealPlace_11 : decode cX2_stealPlace 11 = .ok (.iload 4, 2) := by decide +kernel
theorem dX2_stealPlace_13 : decode cX2_stealPlace 13 = .ok (.aload_n 0, 1) := by decide +kernel
theorem dX2_stealPlace_14 : decode cX2_stealPlace 14 = .ok (.getfield 20, 3) := by decide +kernel
theorem dX2_stealPlace_17 : decode cX2_stealPlace 17 = .ok (.invokevirtual 70, 3) := by decide +kernel
theorem dX2_stealPlace_20 : decode cX2_stealPlace 20 = .ok (.if_icmp .ge 38, 3) := by decide +kernel
theorem dX2_stealPlace_23 : decode cX2_stealPlace 23 = .ok (.aload_n 0, 1) := by decide +kernel
theorem dX2_stealPlace_24 : decode cX2_stealPlace 24 = .ok (.iload 4, 2) := by decide +kernel
theorem dX2_stealPlace_26 : decode cX2_stealPlace 26 = .ok (.invokevirtual 105, 3) := by decide +kernel
theorem dX2_stealPlace_29 : decode cX2_stealPlace 29 = .ok (.istore 5, 2) := by decide +kernel
theorem dX2_stealPlace_31 : decode cX2_stealPlace 31 = .ok (.iload 5, 2) := by decide +kernel
theorem dX2_stealPlace_33 : decode cX2_stealPlace 33 = .ok (.iload_n 2, 1) := by decide +kernel
theorem dX2_stealPlace_34 : decode cX2_stealPlace 34 = .ok (.if_icmp .lt 15, 3) := by decide +kernel
theorem dX2_stealPlace_37 : decode cX2_stealPlace 37 = .ok (.iload 5, 2) := by decide +kernel
theorem dX2_stealPlace_39 : decode cX2_stealPlace 39 = .ok (.iload_n 2, 1) := by decide +kernel
theorem dX2_stealPlace_40 : decode cX2_stealPlace 40 = .ok (.if_icmp .ne 12, 3) := by decide +kernel
theorem dX2_stealPlace_43 : decode cX2_stealPlace 43 = .ok (.iload 4, 2) := by decide +kernel
theorem dX2_stealPlace_45 : decode cX2_stealPlace 45 = .ok (.iload_n 1, 1) := by decide +kernel
theorem dX2_stealPlace_46 : decode cX2_stealPlace 46 = .ok (.if_icmp .ge 6, 3) := by decide +kernel
theorem dX2_stealPlace_49 : decode cX2_stealPlace 49 = .ok (.iinc 3 1, 3) := by decide +kernel
theorem dX2_stealPlace_52 : decode cX2_stealPlace 52 = .ok (.iinc 4 1, 3) := by decide +kernel
theorem dX2_stealPlace_55 : decode cX2_stealPlace 55 = .ok (.goto (-44), 3) := by decide +kernel
theorem dX2_stealPlace_58 : decode cX2_stealPlace 58 = .ok (.iload_n 3, 1) := by decide +kernel
theorem dX2_stealPlace_59 : decode cX2_stealPlace 59 = .ok (.ireturn, 1) := by decide +kernel
set_option maxRecDepth 20000 in
theorem ggX2_stealRank_X2_number : GoodIn wsX2_stealRank wsX2_number := goodIn_r _ [6, 7, 16, 17, 18, 19, 20] (by decide +kernel) (by decide +kernel)
set_option maxRecDepth 20000 in
theorem gX2_stealRank_X2_number : GoodIn wsX2_stealRank (wsV RX2 54 RX2 yX2_number wsX2_number) := goodIn_app (goodIn_of _ (by decide +kernel)) ggX2_stealRank_X2_number
set_option maxRecDepth 20000 in
theorem ggX2_stealRank_X4_get : GoodIn wsX2_stealRank wsX4_get := goodIn_r _ [12, 13, 14, 15, 21, 22, 23] (by decide +kernel) (by decide +kernel)
set_option maxRecDepth 20000 in
theorem gX2_stealRank_X4_get : GoodIn wsX2_stealRank (wsV RX2 73 RX4 yX4_get wsX4_get) := goodIn_app (goodIn_of _ (by decide +kernel)) ggX2_stealRank_X4_get
theorem dX2_stealRank_0 : decode cX2_stealRank 0 = .ok (.aload_n 0, 1) := by decide +kernel
theorem dX2_stealRank_1 : decode cX2_stealRank 1 = .ok (.bipush 7, 2) := by decide +kernel
theorem dX2_stealRank_3 : decode cX2_stealRank 3 = .ok (.invokevirtual 54, 3) := by decide +kernel
theorem dX2_stealRank_6 : decode cX2_stealRank 6 = .ok (.lookupswitch 47 #[(0, 26), (1, 37)], 26) := by decide +kernel
theorem dX2_stealRank_32 : decode cX2_stealRank 32 = .ok (.aload_n 0, 1) := by decide +kernel
theorem dX2_stealRank_33 : decode cX2_stealRank 33 = .ok (.getfield 20, 3) := by decide +kernel
theorem dX2_stealRank_36 : decode cX2_stealRank 36 = .ok (.iload_n 1, 1) := by decide +kernel
theorem dX2_stealRank_37 : decode cX2_stealRank 37 = .ok (.iconst 4, 1) := by decide +kernel
theorem dX2_stealRank_38 : decode cX2_stealRank 38 = .ok (.invokevirtual 73, 3) := by decide +kernel
theorem dX2_stealRank_41 : decode cX2_stealRank 41 = .ok (.ineg, 1) := by decide +kernel
theorem dX2_stealRank_42 : decode cX2_stealRank 42 = .ok (.ireturn, 1) := by decide +kernel
theorem dX2_stealRank_43 : decode cX2_stealRank 43 = .ok (.aload_n 0, 1) := by decide +kernel
theorem dX2_stealRank_44 : decode cX2_stealRank 44 = .ok (.getfield 20, 3) := by decide +kernel
theorem dX2_stealRank_47 : decode cX2_stealRank 47 = .ok (.iload_n 1, 1) := by decide +kernel
theorem dX2_stealRank_48 : decode cX2_stealRank 48 = .ok (.iconst 3, 1) := by decide +kernel
theorem dX2_stealRank_49 : decode cX2_stealRank 49 = .ok (.invokevirtual 73, 3) := by decide +kernel
theorem dX2_stealRank_52 : decode cX2_stealRank 52 = .ok (.ireturn, 1) := by decide +kernel
theorem dX2_stealRank_53 : decode cX2_stealRank 53 = .ok (.aload_n 0, 1) := by decide +kernel
theorem dX2_stealRank_54 : decode cX2_stealRank 54 = .ok (.getfield 20, 3) := by decide +kernel
theorem dX2_stealRank_57 : decode cX2_stealRank 57 = .ok (.iload_n 1, 1) := by decide +kernel
theorem dX2_stealRank_58 : decode cX2_stealRank 58 = .ok (.iconst 5, 1) := by decide +kernel
theorem dX2_stealRank_59 : decode cX2_stealRank 59 = .ok (.invokevirtual 73, 3) := by decide +kernel
theorem dX2_stealRank_62 : decode cX2_stealRank 62 = .ok (.ineg, 1) := by decide +kernel
theorem dX2_stealRank_63 : decode cX2_stealRank 63 = .ok (.ireturn, 1) := by decide +kernel
set_option maxRecDepth 20000 in
theorem ggX2_release_X2_moveHeld : GoodIn wsX2_release wsX2_moveHeld := goodIn_r _ [6, 7, 8, 9, 10, 11, 12, 13, 14, 15, 16, 17, 18, 19, 20, 21, 22, 23, 24, 25, 26, 27, 28, 29, 30, 31] (by decide +kernel) (by decide +kernel)
set_option maxRecDepth 20000 in
theorem gX2_release_X2_moveHeld : GoodIn wsX2_release (wsV RX2 90 RX2 yX2_moveHeld wsX2_moveHeld) := goodIn_app (goodIn_of _ (by decide +kernel)) ggX2_release_X2_moveHeld
theorem dX2_release_0 : decode cX2_release 0 = .ok (.aload_n 0, 1) := by decide +kernel
theorem dX2_release_1 : decode cX2_release 1 = .ok (.iload_n 1, 1) := by decide +kernel
theorem dX2_release_2 : decode cX2_release 2 = .ok (.aload_n 0, 1) := by decide +kernel
theorem dX2_release_3 : decode cX2_release 3 = .ok (.getfield 46, 3) := by decide +kernel
theorem dX2_release_6 : decode cX2_release 6 = .ok (.ifCond .eq 7, 3) := by decide +kernel
theorem dX2_release_9 : decode cX2_release 9 = .ok (.iconst 1, 1) := by decide +kernel
theorem dX2_release_10 : decode cX2_release 10 = .ok (.goto 4, 3) := by decide +kernel
theorem dX2_release_13 : decode cX2_release 13 = .ok (.iconst 2, 1) := by decide +kernel
theorem dX2_release_14 : decode cX2_release 14 = .ok (.invokevirtual 90, 3) := by decide +kernel
theorem dX2_release_17 : decode cX2_release 17 = .ok (.ireturn, 1) := by decide +kernel
set_option maxRecDepth 20000 in
theorem ggX2_moveHeld_X4_rows : GoodIn wsX2_moveHeld wsX4_rows := goodIn_r _ [6, 7, 23, 24, 25] (by decide +kernel) (by decide +kernel)
set_option maxRecDepth 20000 in
theorem gX2_moveHeld_X4_rows : GoodIn wsX2_moveHeld (wsV RX2 70 RX4 yX4_rows wsX4_rows) := goodIn_app (goodIn_of _ (by decide +kernel)) ggX2_moveHeld_X4_rows
set_option maxRecDepth 20000 in
theorem ggX2_moveHeld_X4_get : GoodIn wsX2_moveHeld wsX4_get := goodIn_r _ [11, 7, 12, 13, 23, 24, 25] (by decide +kernel) (by decide +kernel)
set_option maxRecDepth 20000 in
theorem gX2_moveHeld_X4_get : GoodIn wsX2_moveHeld (wsV RX2 73 RX4 yX4_get wsX4_get) := goodIn_app (goodIn_of _ (by decide +kernel)) ggX2_moveHeld_X4_get
set_option maxRecDepth 20000 in
theorem ggX2_moveHeld_X4_put : GoodIn wsX2_moveHeld wsX4_put := goodIn_r _ [17, 7, 12, 13, 23, 24, 25] (by decide +kernel) (by decide +kernel)
set_option maxRecDepth 20000 in
theorem gX2_moveHeld_X4_put : GoodIn wsX2_moveHeld (wsV RX2 62 RX4 yX4_put wsX4_put) := goodIn_app (goodIn_of _ (by decide +kernel)) ggX2_moveHeld_X4_put
theorem dX2_moveHeld_0 : decode cX2_moveHeld 0 = .ok (.iconst 0, 1) := by decide +kernel
theorem dX2_moveHeld_1 : decode cX2_moveHeld 1 = .ok (.istore_n 3, 1) := by decide +kernel
theorem dX2_moveHeld_2 : decode cX2_moveHeld 2 = .ok (.iconst 0, 1) := by decide +kernel
theorem dX2_moveHeld_3 : decode cX2_moveHeld 3 = .ok (.istore 4, 2) := by decide +kernel
theorem dX2_moveHeld_5 : decode cX2_moveHeld 5 = .ok (.iload 4, 2) := by decide +kernel
theorem dX2_moveHeld_7 : decode cX2_moveHeld 7 = .ok (.aload_n 0, 1) := by decide +kernel
theorem dX2_moveHeld_8 : decode cX2_moveHeld 8 = .ok (.getfield 20, 3) := by decide +kernel
theorem dX2_moveHeld_11 : decode cX2_moveHeld 11 = .ok (.invokevirtual 70, 3) := by decide +kernel
theorem dX2_moveHeld_14 : decode cX2_moveHeld 14 = .ok (.if_icmp .ge 50, 3) := by decide +kernel
theorem dX2_moveHeld_17 : decode cX2_moveHeld 17 = .ok (.aload_n 0, 1) := by decide +kernel
theorem dX2_moveHeld_18 : decode cX2_moveHeld 18 = .ok (.getfield 20, 3) := by decide +kernel
theorem dX2_moveHeld_21 : decode cX2_moveHeld 21 = .ok (.iload 4, 2) := by decide +kernel
theorem dX2_moveHeld_23 : decode cX2_moveHeld 23 = .ok (.iconst 1, 1) := by decide +kernel
theorem dX2_moveHeld_24 : decode cX2_moveHeld 24 = .ok (.invokevirtual 73, 3) := by decide +kernel
theorem dX2_moveHeld_27 : decode cX2_moveHeld 27 = .ok (.iload_n 1, 1) := by decide +kernel
theorem dX2_moveHeld_28 : decode cX2_moveHeld 28 = .ok (.if_icmp .ne 30, 3) := by decide +kernel
theorem dX2_moveHeld_31 : decode cX2_moveHeld 31 = .ok (.aload_n 0, 1) := by decide +kernel
theorem dX2_moveHeld_32 : decode cX2_moveHeld 32 = .ok (.getfield 20, 3) := by decide +kernel
theorem dX2_moveHeld_35 : decode cX2_moveHeld 35 = .ok (.iload 4, 2) := by decide +kernel
theorem dX2_moveHeld_37 : decode cX2_moveHeld 37 = .ok (.iconst 5, 1) := by decide +kernel
theorem dX2_moveHeld_38 : decode cX2_moveHeld 38 = .ok (.invokevirtual 73, 3) := by decide +kernel
theorem dX2_moveHeld_41 : decode cX2_moveHeld 41 = .ok (.ifCond .ne 17, 3) := by decide +kernel
theorem dX2_moveHeld_44 : decode cX2_moveHeld 44 = .ok (.aload_n 0, 1) := by decide +kernel
theorem dX2_moveHeld_45 : decode cX2_moveHeld 45 = .ok (.getfield 20, 3) := by decide +kernel
theorem dX2_moveHeld_48 : decode cX2_moveHeld 48 = .ok (.iload 4, 2) := by decide +kernel
theorem dX2_moveHeld_50 : decode cX2_moveHeld 50 = .ok (.iconst 5, 1) := by decide +kernel
theorem dX2_moveHeld_51 : decode cX2_moveHeld 51 = .ok (.iload_n 2, 1) := by decide +kernel
theorem dX2_moveHeld_52 : decode cX2_moveHeld 52 = .ok (.invokevirtual 62, 3) := by decide +kernel
theorem dX2_moveHeld_55 : decode cX2_moveHeld 55 = .ok (.iinc 3 1, 3) := by decide +kernel
theorem dX2_moveHeld_58 : decode cX2_moveHeld 58 = .ok (.iinc 4 1, 3) := by decide +kernel
theorem dX2_moveHeld_61 : decode cX2_moveHeld 61 = .ok (.goto (-56), 3) := by decide +kernel
theorem dX2_moveHeld_64 : decode cX2_moveHeld 64 = .ok (.iload_n 3, 1) := by decide +kernel
theorem dX2_moveHeld_65 : decode cX2_moveHeld 65 = .ok (.ireturn, 1) := by decide +kernel
set_option maxRecDepth 20000 in
theorem ggX2_tread_X4_rows : GoodIn wsX2_tread wsX4_rows := goodIn_r _ [7, 8, 24, 25, 26] (by decide +kernel) (by decide +kernel)
set_option maxRecDepth 20000 in
theorem gX2_tread_X4_rows : GoodIn wsX2_tread (wsV RX2 70 RX4 yX4_rows wsX4_rows) := goodIn_app (goodIn_of _ (by decide +kernel)) ggX2_tread_X4_rows
set_option maxRecDepth 20000 in
theorem ggX2_tread_X4_get : GoodIn wsX2_tread wsX4_get := goodIn_r _ [12, 8, 13, 14, 24, 25, 26] (by decide +kernel) (by decide +kernel)
set_option maxRecDepth 20000 in
theorem gX2_tread_X4_get : GoodIn wsX2_tread (wsV RX2 73 RX4 yX4_get wsX4_get) := goodIn_app (goodIn_of _ (by decide +kernel)) ggX2_tread_X4_get
set_option maxRecDepth 20000 in
theorem ggX2_tread_X4_put : GoodIn wsX2_tread wsX4_put := goodIn_r _ [18, 8, 13, 14, 24, 25, 26] (by decide +kernel) (by decide +kernel)
set_option maxRecDepth 20000 in
theorem gX2_tread_X4_put : GoodIn wsX2_tread (wsV RX2 62 RX4 yX4_put wsX4_put) := goodIn_app (goodIn_of _ (by decide +kernel)) ggX2_tread_X4_put
