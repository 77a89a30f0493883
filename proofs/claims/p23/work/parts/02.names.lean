/-! ===== BEGIN words of one list among another's, by their places ===== -/
theorem goodIn_r {big : List Cond} (ws : List Cond) (ps : List Nat) (hp : ws = ps.filterMap (fun i => big[i]?)) (h : ws.all goodWord = true) : GoodIn big ws := by
  intro w hw
  have h1 := List.all_eq_true.mp h w hw
  rw [hp] at hw
  obtain ⟨i, -, hi⟩ := List.mem_filterMap.mp hw
  have hm : w ∈ big := by first | exact List.mem_of_getElem? hi | exact List.getElem?_mem hi
  exact ⟨hm, good_of_word h1⟩
theorem goodIn_app {big a b : List Cond} (ha : GoodIn big a) (hb : GoodIn big b) : GoodIn big (a ++ b) := fun w h => (List.mem_append.mp h).elim (ha w) (hb w)
theorem goodIn_ca {big a b : List Cond} {c : Cond} (ha : GoodIn big (c :: a)) (hb : GoodIn big b) : GoodIn big (c :: (a ++ b)) := fun w h => (List.mem_cons.mp h).elim (fun e => ha w (List.mem_cons.mpr (Or.inl e))) (fun h => (List.mem_append.mp h).elim (fun h => ha w (List.mem_cons.mpr (Or.inr h))) (hb w))
theorem goodIn_sub {big ws : List Cond} (hm : ∀ w ∈ ws, w ∈ big) (h : ws.all goodWord = true) : GoodIn big ws := fun w hw => ⟨hm w hw, good_of_word (List.all_eq_true.mp h w hw)⟩
/-! ===== END ===== -/

/-! ===== BEGIN printed: names, fields, word lists, decode rows ===== -/
def RX0 : String := "StickRests$Directions"
def TX0 : u_T := fun k => match k with
  | 0 => ("StickRests$Directions", "byRank", "[I", true)
  | 1 => ("StickRests$Directions", "samplesIn", "[I", true)
  | 2 => ("StickRests$Directions", "longest", "[I", true)
  | 3 => ("StickRests$Directions", "unlike", "I", false)
  | 4 => ("StickRests$Directions", "latest", "I", false)
  | _ => ("StickRests$Directions", "run", "I", false)
def tyX0 : Nat → FieldType := fun k => match k with
  | 0 => .array .int
  | 1 => .array .int
  | 2 => .array .int
  | 3 => .int
  | 4 => .int
  | _ => .int
abbrev wsX00 : List Cond := u_ws RX0 TX0 6
theorem nmX0 : ∀ a, a < 6 → ∀ b, b < 6 → a ≠ b → (TX0 a).2.1 ≠ (TX0 b).2.1 := by decide +kernel
theorem tyX0_ok : ∀ k, k < 6 → parseFieldDescriptor (TX0 k).2.2.1 = some (tyX0 k) := by decide +kernel
abbrev cX0_init : ByteArray := prog_2_method_1_code
def yX0_init : MethodName := ⟨RX0, "<init>", "()V"⟩
abbrev cX0_becomeLike : ByteArray := prog_2_method_2_code
def yX0_becomeLike : MethodName := ⟨RX0, "becomeLike", "(LStickRests$Directions;)V"⟩
abbrev cX0_note : ByteArray := prog_2_method_3_code
def yX0_note : MethodName := ⟨RX0, "note", "(II)V"⟩
abbrev cX0_about : ByteArray := prog_2_method_4_code
def yX0_about : MethodName := ⟨RX0, "about", "(II)I"⟩
def RX1 : String := "StickRests$History"
def TX1 : u_T := fun k => match k with
  | 0 => ("StickRests$History", "states", "[LStickRests$Stick;", true)
  | 1 => ("StickRests$History", "oldest", "I", false)
  | _ => ("StickRests$History", "size", "I", false)
def tyX1 : Nat → FieldType := fun k => match k with
  | 0 => .array (.object "StickRests$Stick")
  | 1 => .int
  | _ => .int
abbrev wsX10 : List Cond := u_ws RX1 TX1 3
theorem nmX1 : ∀ a, a < 3 → ∀ b, b < 3 → a ≠ b → (TX1 a).2.1 ≠ (TX1 b).2.1 := by decide +kernel
theorem tyX1_ok : ∀ k, k < 3 → parseFieldDescriptor (TX1 k).2.2.1 = some (tyX1 k) := by decide +kernel
abbrev cX1_init : ByteArray := prog_3_method_1_code
def yX1_init : MethodName := ⟨RX1, "<init>", "()V"⟩
abbrev cX1_placeOf : ByteArray := prog_3_method_2_code
def yX1_placeOf : MethodName := ⟨RX1, "placeOf", "(I)I"⟩
abbrev cX1_keep : ByteArray := prog_3_method_3_code
def yX1_keep : MethodName := ⟨RX1, "keep", "(LStickRests$Stick;)V"⟩
abbrev cX1_takeBack : ByteArray := prog_3_method_4_code
def yX1_takeBack : MethodName := ⟨RX1, "takeBack", "(LStickRests$Stick;)I"⟩
def RX2 : String := "StickRests$Pad"
def TX2 : u_T := fun k => match k with
  | 0 => ("StickRests$Pad", "text", "[C", true)
  | 1 => ("StickRests$Pad", "length", "I", false)
  | 2 => ("StickRests$Pad", "place", "I", false)
  | 3 => ("StickRests$Pad", "kind", "C", false)
  | 4 => ("StickRests$Pad", "first", "I", false)
  | 5 => ("StickRests$Pad", "second", "I", false)
  | _ => ("StickRests$Pad", "times", "I", false)
def tyX2 : Nat → FieldType := fun k => match k with
  | 0 => .array .char
  | 1 => .int
  | 2 => .int
  | 3 => .char
  | 4 => .int
  | 5 => .int
  | _ => .int
abbrev wsX20 : List Cond := u_ws RX2 TX2 7
theorem nmX2 : ∀ a, a < 7 → ∀ b, b < 7 → a ≠ b → (TX2 a).2.1 ≠ (TX2 b).2.1 := by decide +kernel
theorem tyX2_ok : ∀ k, k < 7 → parseFieldDescriptor (TX2 k).2.2.1 = some (tyX2 k) := by decide +kernel
abbrev cX2_init : ByteArray := prog_4_method_1_code
def yX2_init : MethodName := ⟨RX2, "<init>", "()V"⟩
def RX3 : String := "StickRests$Stick"
def TX3 : u_T := fun k => match k with
  | 0 => ("StickRests$Stick", "settings", "[I", true)
  | 1 => ("StickRests$Stick", "directions", "LStickRests$Directions;", true)
  | 2 => ("StickRests$Stick", "restX", "I", false)
  | 3 => ("StickRests$Stick", "restY", "I", false)
  | 4 => ("StickRests$Stick", "zone", "I", false)
  | 5 => ("StickRests$Stick", "tellX", "I", false)
  | 6 => ("StickRests$Stick", "tellY", "I", false)
  | 7 => ("StickRests$Stick", "latestX", "I", false)
  | 8 => ("StickRests$Stick", "latestY", "I", false)
  | 9 => ("StickRests$Stick", "still", "I", false)
  | 10 => ("StickRests$Stick", "shaking", "I", false)
  | 11 => ("StickRests$Stick", "samples", "I", false)
  | 12 => ("StickRests$Stick", "letGo", "I", false)
  | 13 => ("StickRests$Stick", "drifted", "I", false)
  | 14 => ("StickRests$Stick", "down", "I", false)
  | 15 => ("StickRests$Stick", "tellingSamples", "I", false)
  | _ => ("StickRests$Stick", "shakenInZone", "I", false)
def tyX3 : Nat → FieldType := fun k => match k with
  | 0 => .array .int
  | 1 => .object "StickRests$Directions"
  | 2 => .int
  | 3 => .int
  | 4 => .int
  | 5 => .int
  | 6 => .int
  | 7 => .int
  | 8 => .int
  | 9 => .int
  | 10 => .int
  | 11 => .int
  | 12 => .int
  | 13 => .int
  | 14 => .int
  | 15 => .int
  | _ => .int
abbrev wsX30 : List Cond := u_ws RX3 TX3 17
theorem nmX3 : ∀ a, a < 17 → ∀ b, b < 17 → a ≠ b → (TX3 a).2.1 ≠ (TX3 b).2.1 := by decide +kernel
theorem tyX3_ok : ∀ k, k < 17 → parseFieldDescriptor (TX3 k).2.2.1 = some (tyX3 k) := by decide +kernel
abbrev cX3_init : ByteArray := prog_5_method_1_code
def yX3_init : MethodName := ⟨RX3, "<init>", "()V"⟩
abbrev cX3_becomeLike : ByteArray := prog_5_method_2_code
def yX3_becomeLike : MethodName := ⟨RX3, "becomeLike", "(LStickRests$Stick;)V"⟩
abbrev cX3_changeSetting : ByteArray := prog_5_method_3_code
def yX3_changeSetting : MethodName := ⟨RX3, "changeSetting", "(II)I"⟩
abbrev cX3_toMiddle : ByteArray := prog_5_method_4_code
def yX3_toMiddle : MethodName := ⟨RX3, "toMiddle", "()I"⟩
abbrev cX3_refusalOfPress : ByteArray := prog_5_method_5_code
def yX3_refusalOfPress : MethodName := ⟨RX3, "refusalOfPress", "(I)I"⟩
abbrev cX3_refusalOfLetUp : ByteArray := prog_5_method_6_code
def yX3_refusalOfLetUp : MethodName := ⟨RX3, "refusalOfLetUp", "(I)I"⟩
abbrev cX3_isButton : ByteArray := prog_5_method_7_code
def yX3_isButton : MethodName := ⟨RX3, "isButton", "(I)Z"⟩
abbrev cX3_isDown : ByteArray := prog_5_method_8_code
def yX3_isDown : MethodName := ⟨RX3, "isDown", "(I)Z"⟩
abbrev cX3_pushDown : ByteArray := prog_5_method_9_code
def yX3_pushDown : MethodName := ⟨RX3, "pushDown", "(I)I"⟩
abbrev cX3_release : ByteArray := prog_5_method_10_code
def yX3_release : MethodName := ⟨RX3, "release", "(I)I"⟩
abbrev cX3_refusalOfSamples : ByteArray := prog_5_method_11_code
def yX3_refusalOfSamples : MethodName := ⟨RX3, "refusalOfSamples", "(III)I"⟩
abbrev cX3_restPlaceX : ByteArray := prog_5_method_12_code
def yX3_restPlaceX : MethodName := ⟨RX3, "restPlaceX", "()I"⟩
abbrev cX3_restPlaceY : ByteArray := prog_5_method_13_code
def yX3_restPlaceY : MethodName := ⟨RX3, "restPlaceY", "()I"⟩
abbrev cX3_isOffByNothing : ByteArray := prog_5_method_14_code
def yX3_isOffByNothing : MethodName := ⟨RX3, "isOffByNothing", "(II)Z"⟩
abbrev cX3_farthestOff : ByteArray := prog_5_method_15_code
def yX3_farthestOff : MethodName := ⟨RX3, "farthestOff", "(II)I"⟩
abbrev cX3_stillWith : ByteArray := prog_5_method_16_code
def yX3_stillWith : MethodName := ⟨RX3, "stillWith", "(II)I"⟩
abbrev cX3_wouldDrift : ByteArray := prog_5_method_17_code
def yX3_wouldDrift : MethodName := ⟨RX3, "wouldDrift", "(II)Z"⟩
abbrev cX3_tellingAt : ByteArray := prog_5_method_18_code
def yX3_tellingAt : MethodName := ⟨RX3, "tellingAt", "(II)I"⟩
abbrev cX3_leanOf : ByteArray := prog_5_method_19_code
def yX3_leanOf : MethodName := ⟨RX3, "leanOf", "(I)I"⟩
abbrev cX3_telling : ByteArray := prog_5_method_20_code
def yX3_telling : MethodName := ⟨RX3, "telling", "()I"⟩
abbrev cX3_tellsSomething : ByteArray := prog_5_method_21_code
def yX3_tellsSomething : MethodName := ⟨RX3, "tellsSomething", "()Z"⟩
abbrev cX3_take : ByteArray := prog_5_method_22_code
def yX3_take : MethodName := ⟨RX3, "take", "(II)V"⟩
abbrev cX3_tell : ByteArray := prog_5_method_23_code
def yX3_tell : MethodName := ⟨RX3, "tell", "(I)V"⟩
abbrev cX3_comeToRest : ByteArray := prog_5_method_24_code
def yX3_comeToRest : MethodName := ⟨RX3, "comeToRest", "(II)V"⟩
abbrev cX3_fitZone : ByteArray := prog_5_method_25_code
def yX3_fitZone : MethodName := ⟨RX3, "fitZone", "(I)V"⟩
abbrev cX3_driftTo : ByteArray := prog_5_method_26_code
def yX3_driftTo : MethodName := ⟨RX3, "driftTo", "(II)V"⟩
abbrev cX3_aboutX : ByteArray := prog_5_method_27_code
def yX3_aboutX : MethodName := ⟨RX3, "aboutX", "(I)I"⟩
abbrev cX3_aboutY : ByteArray := prog_5_method_28_code
def yX3_aboutY : MethodName := ⟨RX3, "aboutY", "(I)I"⟩
abbrev cX3_about : ByteArray := prog_5_method_29_code
def yX3_about : MethodName := ⟨RX3, "about", "(IIII)I"⟩
abbrev cX3_number : ByteArray := prog_5_method_30_code
def yX3_number : MethodName := ⟨RX3, "number", "(I)I"⟩
def RX4 : String := "StickRests"
def TX4 : u_T := fun k => match k with
  | 0 => ("StickRests", "stick", "LStickRests$Stick;", true)
  | 1 => ("StickRests", "trial", "LStickRests$Stick;", true)
  | 2 => ("StickRests", "pad", "LStickRests$Pad;", true)
  | 3 => ("StickRests", "history", "LStickRests$History;", true)
  | _ => ("StickRests", "slots", "[LStickRests$Stick;", true)
def tyX4 : Nat → FieldType := fun k => match k with
  | 0 => .object "StickRests$Stick"
  | 1 => .object "StickRests$Stick"
  | 2 => .object "StickRests$Pad"
  | 3 => .object "StickRests$History"
  | _ => .array (.object "StickRests$Stick")
abbrev wsX40 : List Cond := u_ws RX4 TX4 5
theorem nmX4 : ∀ a, a < 5 → ∀ b, b < 5 → a ≠ b → (TX4 a).2.1 ≠ (TX4 b).2.1 := by decide +kernel
theorem tyX4_ok : ∀ k, k < 5 → parseFieldDescriptor (TX4 k).2.2.1 = some (tyX4 k) := by decide +kernel
abbrev cX4_init : ByteArray := prog_1_method_1_code
def yX4_init : MethodName := ⟨RX4, "<init>", "()V"⟩
abbrev cX4_set : ByteArray := prog_1_method_2_code
def yX4_set : MethodName := ⟨RX4, "set", "(II)I"⟩
abbrev cX4_sample : ByteArray := prog_1_method_3_code
def yX4_sample : MethodName := ⟨RX4, "sample", "(II)I"⟩
abbrev cX4_hold : ByteArray := prog_1_method_4_code
def yX4_hold : MethodName := ⟨RX4, "hold", "(III)I"⟩
abbrev cX4_takeAlike : ByteArray := prog_1_method_5_code
def yX4_takeAlike : MethodName := ⟨RX4, "takeAlike", "(III)I"⟩
abbrev cX4_press : ByteArray := prog_1_method_6_code
def yX4_press : MethodName := ⟨RX4, "press", "(I)I"⟩
abbrev cX4_letUp : ByteArray := prog_1_method_7_code
def yX4_letUp : MethodName := ⟨RX4, "letUp", "(I)I"⟩
abbrev cX4_reset : ByteArray := prog_1_method_8_code
def yX4_reset : MethodName := ⟨RX4, "reset", "()I"⟩
abbrev cX4_of : ByteArray := prog_1_method_9_code
def yX4_of : MethodName := ⟨RX4, "of", "(II)I"⟩
abbrev cX4_direction : ByteArray := prog_1_method_10_code
def yX4_direction : MethodName := ⟨RX4, "direction", "(II)I"⟩
abbrev cX4_count : ByteArray := prog_1_method_11_code
def yX4_count : MethodName := ⟨RX4, "count", "(I)I"⟩
abbrev cX4_wouldTell : ByteArray := prog_1_method_12_code
def yX4_wouldTell : MethodName := ⟨RX4, "wouldTell", "(II)I"⟩
abbrev cX4_learnedIn : ByteArray := prog_1_method_13_code
def yX4_learnedIn : MethodName := ⟨RX4, "learnedIn", "(II)I"⟩
abbrev cX4_edge : ByteArray := prog_1_method_14_code
def yX4_edge : MethodName := ⟨RX4, "edge", "(II)I"⟩
abbrev cX4_driftsIn : ByteArray := prog_1_method_15_code
def yX4_driftsIn : MethodName := ⟨RX4, "driftsIn", "(II)I"⟩
abbrev cX4_undo : ByteArray := prog_1_method_23_code
def yX4_undo : MethodName := ⟨RX4, "undo", "()I"⟩
abbrev cX4_save : ByteArray := prog_1_method_24_code
def yX4_save : MethodName := ⟨RX4, "save", "(I)I"⟩
abbrev cX4_restore : ByteArray := prog_1_method_25_code
def yX4_restore : MethodName := ⟨RX4, "restore", "(I)I"⟩
abbrev cX4_isSample : ByteArray := prog_1_method_26_code
def yX4_isSample : MethodName := ⟨RX4, "isSample", "(II)Z"⟩
abbrev cX4_packed : ByteArray := prog_1_method_27_code
def yX4_packed : MethodName := ⟨RX4, "packed", "(II)I"⟩
abbrev cX4_quotient : ByteArray := prog_1_method_28_code
def yX4_quotient : MethodName := ⟨RX4, "quotient", "(II)I"⟩
def RX5 : String := "StickRestsModel"
def TX5 : u_T := fun k => match k with
  | _ => ("", "", "", false)
def tyX5 : Nat → FieldType := fun k => match k with
  | _ => .int
abbrev wsX50 : List Cond := u_ws RX5 TX5 0
theorem nmX5 : ∀ a, a < 0 → ∀ b, b < 0 → a ≠ b → (TX5 a).2.1 ≠ (TX5 b).2.1 := by decide +kernel
theorem tyX5_ok : ∀ k, k < 0 → parseFieldDescriptor (TX5 k).2.2.1 = some (tyX5 k) := by decide +kernel
def RJx8e188 : String := "java/lang/Cloneable"
def TJx8e188 : u_T := fun k => match k with
  | _ => ("", "", "", false)
def tyJx8e188 : Nat → FieldType := fun k => match k with
  | _ => .int
abbrev wsJx8e1880 : List Cond := u_ws RJx8e188 TJx8e188 0
theorem nmJx8e188 : ∀ a, a < 0 → ∀ b, b < 0 → a ≠ b → (TJx8e188 a).2.1 ≠ (TJx8e188 b).2.1 := by decide +kernel
theorem tyJx8e188_ok : ∀ k, k < 0 → parseFieldDescriptor (TJx8e188 k).2.2.1 = some (tyJx8e188 k) := by decide +kernel
def RJ6 : String := "java/lang/Integer"
def TJ6 : u_T := fun k => match k with
  | _ => ("", "", "", false)
def tyJ6 : Nat → FieldType := fun k => match k with
  | _ => .int
abbrev wsJ60 : List Cond := u_ws RJ6 TJ6 0
theorem nmJ6 : ∀ a, a < 0 → ∀ b, b < 0 → a ≠ b → (TJ6 a).2.1 ≠ (TJ6 b).2.1 := by decide +kernel
theorem tyJ6_ok : ∀ k, k < 0 → parseFieldDescriptor (TJ6 k).2.2.1 = some (tyJ6 k) := by decide +kernel
abbrev cJ6_compare_7cf53 : ByteArray := prog_9_method_40_code
def yJ6_compare_7cf53 : MethodName := ⟨RJ6, "compare", "(II)I"⟩
def RJ9 : String := "java/lang/Math"
def TJ9 : u_T := fun k => match k with
  | _ => ("", "", "", false)
def tyJ9 : Nat → FieldType := fun k => match k with
  | _ => .int
abbrev wsJ90 : List Cond := u_ws RJ9 TJ9 0
theorem nmJ9 : ∀ a, a < 0 → ∀ b, b < 0 → a ≠ b → (TJ9 a).2.1 ≠ (TJ9 b).2.1 := by decide +kernel
theorem tyJ9_ok : ∀ k, k < 0 → parseFieldDescriptor (TJ9 k).2.2.1 = some (tyJ9 k) := by decide +kernel
abbrev cJ9_floorMod_7cf53 : ByteArray := prog_10_method_50_code
def yJ9_floorMod_7cf53 : MethodName := ⟨RJ9, "floorMod", "(II)I"⟩
abbrev cJ9_abs_0f7a4 : ByteArray := prog_10_method_59_code
def yJ9_abs_0f7a4 : MethodName := ⟨RJ9, "abs", "(I)I"⟩
abbrev cJ9_max_7cf53 : ByteArray := prog_10_method_65_code
def yJ9_max_7cf53 : MethodName := ⟨RJ9, "max", "(II)I"⟩
abbrev cJ9_min_7cf53 : ByteArray := prog_10_method_69_code
def yJ9_min_7cf53 : MethodName := ⟨RJ9, "min", "(II)I"⟩
def RJ10 : String := "java/lang/System"
def TJ10 : u_T := fun k => match k with
  | _ => ("", "", "", false)
def tyJ10 : Nat → FieldType := fun k => match k with
  | _ => .int
abbrev wsJ100 : List Cond := u_ws RJ10 TJ10 0
theorem nmJ10 : ∀ a, a < 0 → ∀ b, b < 0 → a ≠ b → (TJ10 a).2.1 ≠ (TJ10 b).2.1 := by decide +kernel
theorem tyJ10_ok : ∀ k, k < 0 → parseFieldDescriptor (TJ10 k).2.2.1 = some (tyJ10 k) := by decide +kernel
def RL : String := "StickRestsLaw"
abbrev cL_cell : ByteArray := method_2_code
def yL_cell : MethodName := ⟨RL, "cell", "([II)I"⟩
abbrev cL_low : ByteArray := method_3_code
def yL_low : MethodName := ⟨RL, "low", "(II)I"⟩
abbrev cL_size : ByteArray := method_4_code
def yL_size : MethodName := ⟨RL, "size", "(I)I"⟩
abbrev cL_greater : ByteArray := method_5_code
def yL_greater : MethodName := ⟨RL, "greater", "(II)I"⟩
abbrev cL_isStick : ByteArray := method_6_code
def yL_isStick : MethodName := ⟨RL, "isStick", "(LStickRests;)Z"⟩
abbrev cL_isSample : ByteArray := method_7_code
def yL_isSample : MethodName := ⟨RL, "isSample", "(LStickRests;II)Z"⟩
abbrev cL_isIn : ByteArray := method_8_code
def yL_isIn : MethodName := ⟨RL, "isIn", "(LStickRests;II)Z"⟩
abbrev cL_isEdge : ByteArray := method_9_code
def yL_isEdge : MethodName := ⟨RL, "isEdge", "(LStickRests;II)Z"⟩
abbrev cL_does : ByteArray := method_10_code
def yL_does : MethodName := ⟨RL, "does", "(LStickRests;II)Z"⟩
abbrev cL_law : ByteArray := code
def yL_law : MethodName := ⟨RL, "law", "([I)Z"⟩
def wsL_law_r1 : List Cond := [Cond.classLink RL 9 RX4, Cond.instantiable RX4 5, Cond.initialized RX4, Cond.constant RL 50 (100100), Cond.methodLink RL 75 yX4_init, Cond.instanceMethod yX4_init, Cond.code yX4_init cX4_init 1 none, Cond.methodLink RX4 1 objectInit, Cond.instanceMethod objectInit, Cond.code objectInit ⟨#[0xb1]⟩ 1 none, Cond.classLink RX4 7 RX3, Cond.instantiable RX3 17, Cond.initialized RX3, Cond.fieldLink RX4 10 "StickRests" "stick" "LStickRests$Stick;", Cond.fieldLink RX4 16 "StickRests" "trial" "LStickRests$Stick;", Cond.classLink RX4 19 RX2, Cond.instantiable RX2 7, Cond.initialized RX2, Cond.fieldLink RX4 22 "StickRests" "pad" "LStickRests$Pad;", Cond.classLink RX4 26 RX1, Cond.instantiable RX1 3, Cond.initialized RX1, Cond.fieldLink RX4 29 "StickRests" "history" "LStickRests$History;", Cond.fieldLink RX4 33 "StickRests" "slots" "[LStickRests$Stick;"]
def wsL_law_r2 : List Cond := [Cond.methodLink RX4 9 yX3_init, Cond.instanceMethod yX3_init, Cond.code yX3_init cX3_init 1 none, Cond.methodLink RX3 3 objectInit, Cond.methodLink RX3 13 ⟨"[I", "clone", "()Ljava/lang/Object;"⟩, Cond.sameMethod "[I" "java/lang/Object" "clone" "()Ljava/lang/Object;", Cond.native ⟨"java/lang/Object", "clone", "()Ljava/lang/Object;"⟩, Cond.instanceMethod ⟨"java/lang/Object", "clone", "()Ljava/lang/Object;"⟩, Cond.selects "[I" ⟨"[I", "clone", "()Ljava/lang/Object;"⟩ ⟨"java/lang/Object", "clone", "()Ljava/lang/Object;"⟩, Cond.classLink RX3 14 "[I", Cond.fieldLink RX3 18 "StickRests$Stick" "settings" "[I", Cond.classLink RX3 23 RX0, Cond.instantiable RX0 6, Cond.initialized RX0, Cond.fieldLink RX3 26 "StickRests$Stick" "directions" "LStickRests$Directions;", Cond.fieldLink RX3 30 "StickRests$Stick" "restX" "I", Cond.fieldLink RX3 34 "StickRests$Stick" "restY" "I", Cond.fieldLink RX3 37 "StickRests$Stick" "zone" "I", Cond.methodLink RX3 25 yX0_init, Cond.instanceMethod yX0_init, Cond.code yX0_init cX0_init 1 none, Cond.methodLink RX0 3 objectInit, Cond.arrayClass .int, Cond.fieldLink RX0 9 "StickRests$Directions" "byRank" "[I"]
def wsL_law_r3 : List Cond := [Cond.fieldLink RX0 15 "StickRests$Directions" "samplesIn" "[I", Cond.fieldLink RX0 18 "StickRests$Directions" "longest" "[I", Cond.fieldLink RX0 21 "StickRests$Directions" "latest" "I", Cond.methodLink RX4 21 yX2_init, Cond.instanceMethod yX2_init, Cond.code yX2_init cX2_init 1 none, Cond.methodLink RX2 3 objectInit, Cond.arrayClass .char, Cond.fieldLink RX2 9 "StickRests$Pad" "text" "[C", Cond.methodLink RX4 28 yX1_init, Cond.instanceMethod yX1_init, Cond.code yX1_init cX1_init 1 none, Cond.methodLink RX1 3 objectInit, Cond.classLink RX1 9 RX3, Cond.fieldLink RX1 11 "StickRests$History" "states" "[LStickRests$Stick;", Cond.methodLink RL 76 yL_isStick, Cond.static yL_isStick, Cond.initialized RL, Cond.code yL_isStick cL_isStick 11 (some .boolean), Cond.methodLink RL 8 yX4_count, Cond.instanceMethod yX4_count, Cond.selects RX4 yX4_count yX4_count, Cond.code yX4_count cX4_count 2 (some .int), Cond.methodLink RX4 105 yX3_number]
def wsL_law_r4 : List Cond := [Cond.instanceMethod yX3_number, Cond.selects RX3 yX3_number yX3_number, Cond.code yX3_number cX3_number 2 (some .int), Cond.fieldLink RX3 68 "StickRests$Stick" "samples" "I", Cond.fieldLink RX3 62 "StickRests$Stick" "still" "I", Cond.fieldLink RX3 65 "StickRests$Stick" "shaking" "I", Cond.fieldLink RX3 71 "StickRests$Stick" "letGo" "I", Cond.fieldLink RX3 74 "StickRests$Stick" "drifted" "I", Cond.fieldLink RX3 77 "StickRests$Stick" "down" "I", Cond.fieldLink RX3 80 "StickRests$Stick" "tellingSamples" "I", Cond.fieldLink RX3 83 "StickRests$Stick" "shakenInZone" "I", Cond.methodLink RL 14 yX4_of, Cond.instanceMethod yX4_of, Cond.selects RX4 yX4_of yX4_of, Cond.code yX4_of cX4_of 3 (some .int), Cond.methodLink RX4 83 yX3_aboutX, Cond.instanceMethod yX3_aboutX, Cond.selects RX3 yX3_aboutX yX3_aboutX, Cond.code yX3_aboutX cX3_aboutX 2 (some .int), Cond.fieldLink RX3 50 "StickRests$Stick" "tellX" "I", Cond.fieldLink RX3 56 "StickRests$Stick" "latestX" "I", Cond.methodLink RX3 164 yX3_about, Cond.instanceMethod yX3_about, Cond.selects RX3 yX3_about yX3_about]
def wsL_law_r5 : List Cond := [Cond.code yX3_about cX3_about 5 (some .int), Cond.methodLink RX4 86 yX3_aboutY, Cond.instanceMethod yX3_aboutY, Cond.selects RX3 yX3_aboutY yX3_aboutY, Cond.code yX3_aboutY cX3_aboutY 2 (some .int), Cond.fieldLink RX3 53 "StickRests$Stick" "tellY" "I", Cond.fieldLink RX3 59 "StickRests$Stick" "latestY" "I", Cond.methodLink RL 18 yL_size, Cond.static yL_size, Cond.code yL_size cL_size 1 (some .int), Cond.methodLink RL 23 yX4_direction, Cond.instanceMethod yX4_direction, Cond.selects RX4 yX4_direction yX4_direction, Cond.code yX4_direction cX4_direction 3 (some .int), Cond.methodLink RX4 93 yX0_about, Cond.instanceMethod yX0_about, Cond.selects RX0 yX0_about yX0_about, Cond.code yX0_about cX0_about 4 (some .int), Cond.fieldLink RX0 31 "StickRests$Directions" "unlike" "I", Cond.methodLink RL 29 yX4_wouldTell, Cond.instanceMethod yX4_wouldTell, Cond.selects RX4 yX4_wouldTell yX4_wouldTell, Cond.code yX4_wouldTell cX4_wouldTell 3 (some .int), Cond.methodLink RX4 108 yX4_isSample]
def wsL_law_r6 : List Cond := [Cond.static yX4_isSample, Cond.code yX4_isSample cX4_isSample 2 (some .boolean), Cond.methodLink RX4 112 yX3_tellingAt, Cond.instanceMethod yX3_tellingAt, Cond.selects RX3 yX3_tellingAt yX3_tellingAt, Cond.code yX3_tellingAt cX3_tellingAt 7 (some .int), Cond.methodLink RX3 86 Lib.Math.abs.name, Cond.static Lib.Math.abs.name, Cond.initialized "java/lang/Math", Cond.code Lib.Math.abs.name Lib.Math.abs.code 1 (some .int), Cond.methodLink RX3 114 yX3_farthestOff, Cond.instanceMethod yX3_farthestOff, Cond.selects RX3 yX3_farthestOff yX3_farthestOff, Cond.code yX3_farthestOff cX3_farthestOff 3 (some .int), Cond.methodLink RX3 110 Lib.Math.max.name, Cond.static Lib.Math.max.name, Cond.code Lib.Math.max.name Lib.Math.max.code 2 (some .int), Cond.methodLink RX3 103 yX3_restPlaceX, Cond.instanceMethod yX3_restPlaceX, Cond.selects RX3 yX3_restPlaceX yX3_restPlaceX, Cond.code yX3_restPlaceX cX3_restPlaceX 1 (some .int), Cond.methodLink RX3 107 yX3_restPlaceY, Cond.instanceMethod yX3_restPlaceY, Cond.selects RX3 yX3_restPlaceY yX3_restPlaceY]
def wsL_law_r7 : List Cond := [Cond.code yX3_restPlaceY cX3_restPlaceY 1 (some .int), Cond.methodLink RX3 120 yX3_wouldDrift, Cond.instanceMethod yX3_wouldDrift, Cond.selects RX3 yX3_wouldDrift yX3_wouldDrift, Cond.code yX3_wouldDrift cX3_wouldDrift 4 (some .boolean), Cond.methodLink RX3 117 yX3_stillWith, Cond.instanceMethod yX3_stillWith, Cond.selects RX3 yX3_stillWith yX3_stillWith, Cond.code yX3_stillWith cX3_stillWith 4 (some .int), Cond.static yX4_packed, Cond.code yX4_packed cX4_packed 2 (some .int), Cond.methodLink RX3 126 yX3_leanOf, Cond.instanceMethod yX3_leanOf, Cond.selects RX3 yX3_leanOf yX3_leanOf, Cond.code yX3_leanOf cX3_leanOf 4 (some .int), Cond.methodLink RX3 132 Lib.Math.min.name, Cond.static Lib.Math.min.name, Cond.code Lib.Math.min.name Lib.Math.min.code 2 (some .int), Cond.static yX4_quotient, Cond.code yX4_quotient cX4_quotient 2 (some .int), Cond.methodLink RL 35 yX4_learnedIn, Cond.instanceMethod yX4_learnedIn, Cond.selects RX4 yX4_learnedIn yX4_learnedIn, Cond.code yX4_learnedIn cX4_learnedIn 4 (some .int)]
def wsL_law_r8 : List Cond := [Cond.methodLink RX4 115 yX3_becomeLike, Cond.instanceMethod yX3_becomeLike, Cond.selects RX3 yX3_becomeLike yX3_becomeLike, Cond.code yX3_becomeLike cX3_becomeLike 2 none, Cond.methodLink RX3 40 arraycopyName, Cond.native arraycopyName, Cond.static arraycopyName, Cond.initialized "java/lang/System", Cond.methodLink RX3 46 yX0_becomeLike, Cond.instanceMethod yX0_becomeLike, Cond.selects RX0 yX0_becomeLike yX0_becomeLike, Cond.code yX0_becomeLike cX0_becomeLike 2 none, Cond.methodLink RX0 25 arraycopyName, Cond.fieldLink RX0 34 "StickRests$Directions" "run" "I", Cond.methodLink RX4 118 yX3_isOffByNothing, Cond.instanceMethod yX3_isOffByNothing, Cond.selects RX3 yX3_isOffByNothing yX3_isOffByNothing, Cond.code yX3_isOffByNothing cX3_isOffByNothing 3 (some .boolean), Cond.methodLink RX4 59 yX3_take, Cond.instanceMethod yX3_take, Cond.selects RX3 yX3_take yX3_take, Cond.code yX3_take cX3_take 6 none, Cond.methodLink RX3 135 yX3_tellingAt, Cond.methodLink RX3 138 yX3_comeToRest]
def wsL_law_r9 : List Cond := [Cond.instanceMethod yX3_comeToRest, Cond.selects RX3 yX3_comeToRest yX3_comeToRest, Cond.code yX3_comeToRest cX3_comeToRest 3 none, Cond.methodLink RX3 149 yX3_tellsSomething, Cond.instanceMethod yX3_tellsSomething, Cond.selects RX3 yX3_tellsSomething yX3_tellsSomething, Cond.code yX3_tellsSomething cX3_tellsSomething 1 (some .boolean), Cond.methodLink RX3 161 yX3_fitZone, Cond.instanceMethod yX3_fitZone, Cond.selects RX3 yX3_fitZone yX3_fitZone, Cond.code yX3_fitZone cX3_fitZone 2 none, Cond.methodLink RX3 142 yX3_driftTo, Cond.instanceMethod yX3_driftTo, Cond.selects RX3 yX3_driftTo yX3_driftTo, Cond.code yX3_driftTo cX3_driftTo 3 none, Cond.methodLink RX3 145 yX3_tell, Cond.instanceMethod yX3_tell, Cond.selects RX3 yX3_tell yX3_tell, Cond.code yX3_tell cX3_tell 2 none, Cond.methodLink RX3 153 yJ6_compare_7cf53, Cond.static yJ6_compare_7cf53, Cond.initialized RJ6, Cond.code yJ6_compare_7cf53 cJ6_compare_7cf53 2 (some .int), Cond.methodLink RX3 158 yX0_note]
def wsL_law_r10 : List Cond := [Cond.instanceMethod yX0_note, Cond.selects RX0 yX0_note yX0_note, Cond.code yX0_note cX0_note 4 none, Cond.methodLink RX0 37 Lib.Math.max.name, Cond.methodLink RL 80 yX4_undo, Cond.instanceMethod yX4_undo, Cond.selects RX4 yX4_undo yX4_undo, Cond.code yX4_undo cX4_undo 1 (some .int), Cond.methodLink RX4 176 yX1_takeBack, Cond.instanceMethod yX1_takeBack, Cond.selects RX1 yX1_takeBack yX1_takeBack, Cond.code yX1_takeBack cX1_takeBack 4 (some .int), Cond.fieldLink RX1 27 "StickRests$History" "size" "I", Cond.methodLink RX1 30 yX1_placeOf, Cond.instanceMethod yX1_placeOf, Cond.selects RX1 yX1_placeOf yX1_placeOf, Cond.code yX1_placeOf cX1_placeOf 2 (some .int), Cond.fieldLink RX1 17 "StickRests$History" "oldest" "I", Cond.methodLink RX1 21 yJ9_floorMod_7cf53, Cond.static yJ9_floorMod_7cf53, Cond.initialized RJ9, Cond.code yJ9_floorMod_7cf53 cJ9_floorMod_7cf53 3 (some .int), Cond.methodLink RX1 35 yX3_becomeLike, Cond.methodLink RL 83 yL_cell]
def wsL_law_r11 : List Cond := [Cond.static yL_cell, Cond.code yL_cell cL_cell 2 (some .int), Cond.methodLink RL 87 yL_does, Cond.static yL_does, Cond.code yL_does cL_does 20 (some .boolean), Cond.methodLink RL 51 yL_low, Cond.static yL_low, Cond.code yL_low cL_low 2 (some .int), Cond.constant RL 7 (2147483647), Cond.methodLink RL 54 yX4_set, Cond.instanceMethod yX4_set, Cond.selects RX4 yX4_set yX4_set, Cond.code yX4_set cX4_set 3 (some .int), Cond.fieldLink RX4 37 "StickRests" "LEAST" "[I", Cond.fieldLink RX4 41 "StickRests" "MOST" "[I", Cond.methodLink RX4 44 yX1_keep, Cond.instanceMethod yX1_keep, Cond.selects RX1 yX1_keep yX1_keep, Cond.code yX1_keep cX1_keep 4 none, Cond.methodLink RX1 34 yX3_init, Cond.methodLink RX4 48 yX3_changeSetting, Cond.instanceMethod yX3_changeSetting, Cond.selects RX3 yX3_changeSetting yX3_changeSetting, Cond.code yX3_changeSetting cX3_changeSetting 4 (some .int)]
def wsL_law_r12 : List Cond := [Cond.methodLink RL 57 yL_isSample, Cond.static yL_isSample, Cond.code yL_isSample cL_isSample 22 (some .boolean), Cond.methodLink RL 26 yL_greater, Cond.static yL_greater, Cond.code yL_greater cL_greater 2 (some .int), Cond.methodLink RL 32 yX4_sample, Cond.instanceMethod yX4_sample, Cond.selects RX4 yX4_sample yX4_sample, Cond.code yX4_sample cX4_sample 3 (some .int), Cond.methodLink RX4 52 yX4_takeAlike, Cond.instanceMethod yX4_takeAlike, Cond.selects RX4 yX4_takeAlike yX4_takeAlike, Cond.code yX4_takeAlike cX4_takeAlike 6 (some .int), Cond.methodLink RX4 56 yX3_refusalOfSamples, Cond.instanceMethod yX3_refusalOfSamples, Cond.selects RX3 yX3_refusalOfSamples yX3_refusalOfSamples, Cond.code yX3_refusalOfSamples cX3_refusalOfSamples 4 (some .int), Cond.methodLink RX4 63 yX3_telling, Cond.instanceMethod yX3_telling, Cond.selects RX3 yX3_telling yX3_telling, Cond.code yX3_telling cX3_telling 1 (some .int), Cond.methodLink RL 61 yX4_press, Cond.instanceMethod yX4_press]
def wsL_law_r13 : List Cond := [Cond.selects RX4 yX4_press yX4_press, Cond.code yX4_press cX4_press 3 (some .int), Cond.methodLink RX4 67 yX3_refusalOfPress, Cond.instanceMethod yX3_refusalOfPress, Cond.selects RX3 yX3_refusalOfPress yX3_refusalOfPress, Cond.code yX3_refusalOfPress cX3_refusalOfPress 2 (some .int), Cond.methodLink RX3 92 yX3_isButton, Cond.static yX3_isButton, Cond.code yX3_isButton cX3_isButton 1 (some .boolean), Cond.methodLink RX3 96 yX3_isDown, Cond.instanceMethod yX3_isDown, Cond.selects RX3 yX3_isDown yX3_isDown, Cond.code yX3_isDown cX3_isDown 2 (some .boolean), Cond.methodLink RX4 71 yX3_pushDown, Cond.instanceMethod yX3_pushDown, Cond.selects RX3 yX3_pushDown yX3_pushDown, Cond.code yX3_pushDown cX3_pushDown 2 (some .int), Cond.methodLink RL 64 yX4_letUp, Cond.instanceMethod yX4_letUp, Cond.selects RX4 yX4_letUp yX4_letUp, Cond.code yX4_letUp cX4_letUp 3 (some .int), Cond.methodLink RX4 74 yX3_refusalOfLetUp, Cond.instanceMethod yX3_refusalOfLetUp, Cond.selects RX3 yX3_refusalOfLetUp yX3_refusalOfLetUp]
def wsL_law_r14 : List Cond := [Cond.code yX3_refusalOfLetUp cX3_refusalOfLetUp 2 (some .int), Cond.methodLink RX4 77 yX3_release, Cond.instanceMethod yX3_release, Cond.selects RX3 yX3_release yX3_release, Cond.code yX3_release cX3_release 2 (some .int), Cond.methodLink RL 67 yX4_reset, Cond.instanceMethod yX4_reset, Cond.selects RX4 yX4_reset yX4_reset, Cond.code yX4_reset cX4_reset 1 (some .int), Cond.methodLink RX4 80 yX3_toMiddle, Cond.instanceMethod yX3_toMiddle, Cond.selects RX3 yX3_toMiddle yX3_toMiddle, Cond.code yX3_toMiddle cX3_toMiddle 2 (some .int), Cond.methodLink RL 71 yX4_hold, Cond.instanceMethod yX4_hold, Cond.selects RX4 yX4_hold yX4_hold, Cond.code yX4_hold cX4_hold 4 (some .int), Cond.methodLink RL 90 yL_isIn, Cond.static yL_isIn, Cond.code yL_isIn cL_isIn 13 (some .boolean), Cond.methodLink RL 38 yX4_driftsIn, Cond.instanceMethod yX4_driftsIn, Cond.selects RX4 yX4_driftsIn yX4_driftsIn, Cond.code yX4_driftsIn cX4_driftsIn 4 (some .int)]
def wsL_law_r15 : List Cond := [Cond.methodLink RX4 130 yX3_wouldDrift, Cond.methodLink RL 41 yX4_save, Cond.instanceMethod yX4_save, Cond.selects RX4 yX4_save yX4_save, Cond.code yX4_save cX4_save 3 (some .int), Cond.methodLink RL 44 yX4_restore, Cond.instanceMethod yX4_restore, Cond.selects RX4 yX4_restore yX4_restore, Cond.code yX4_restore cX4_restore 3 (some .int), Cond.methodLink RL 93 yL_isEdge, Cond.static yL_isEdge, Cond.code yL_isEdge cL_isEdge 10 (some .boolean), Cond.methodLink RL 47 yX4_edge, Cond.instanceMethod yX4_edge, Cond.selects RX4 yX4_edge yX4_edge, Cond.code yX4_edge cX4_edge 7 (some .int), Cond.methodLink RX4 121 yX3_restPlaceX, Cond.methodLink RX4 124 yX3_restPlaceY, Cond.methodLink RX4 127 yX4_packed]
def wsL_law : List Cond := (wsL_law_r1 ++ (wsL_law_r2 ++ (wsL_law_r3 ++ (wsL_law_r4 ++ (wsL_law_r5 ++ (wsL_law_r6 ++ (wsL_law_r7 ++ (wsL_law_r8 ++ (wsL_law_r9 ++ (wsL_law_r10 ++ (wsL_law_r11 ++ (wsL_law_r12 ++ (wsL_law_r13 ++ (wsL_law_r14 ++ wsL_law_r15)))))))))))))) ++ wsX40 ++ wsX30 ++ wsX20 ++ wsX10 ++ wsX00 ++ ([] : List Cond)
abbrev vwCl : List vw_C := [(RX0, TX0, 6), (RX1, TX1, 3), (RX2, TX2, 7), (RX3, TX3, 17), (RX4, TX4, 5)]
